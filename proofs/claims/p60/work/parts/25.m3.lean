set_option maxHeartbeats 4000000 in
set_option maxRecDepth 100000 in
theorem gX12_four_0 (l : Launch) (g : GG) (ad : Nat → Nat) (hD : Dj ad 20) (S : SS) (hI : InvM g ad S) (a1 : Int32) (hq1 : 0 ≤ (-1) * fld (S 0) 6 + 1196) : Met l yX12_four (wG (.code yX12_four cX12_four 3 none)) (Rm 0) (XPre g ad 20 S [.ref (ad 0), .int a1]) (va_Qv (fun S' => InvM g ad S' ∧ (∀ j, j ∉ ([0, 5] : List Nat) → S' j = S j) ∧ (0 ≤ fld (S 0) 6 + (-1) * fld (S' 0) 6 + 4 ∧ 0 ≤ fld (S' 0) 6 + (-1) * fld (S 0) 6 + (-4))) (QB g ad 20) (FA ad 20)) 0 0 (FA ad 20) := by
  refine xmet cX12_four "EbbWreckModel" (by decide) rfl (Nat.le_of_ble_eq_true rfl) (fun p e s m below meth c E hr hlk hml hQ ls hl => ?_)
  have hx := E.1
  have hb := E.2.1
  have hs : Sp ad 20 (FA ad 20) := Sp.fa hD
  have hl : lv_has ls 3 [(0, .ref (ad 0)), (1, .int a1)] := hl
  obtain ⟨v1, v2, v4, v6, v8, v9, w10, v11, v13, v14, v15, v16, v18, v20, v22, v24, v26, v27, v28, c29, b3, b5, b7, b12, b17, b19, b21, b23, b25⟩ := invM_0 hI
  have c29 : S 0 = .inr (12, [.int v1, .ref (ad 1), .ref (ad 2), .ref (ad 3), .ref (ad 4), .ref (ad 5), .int v2, .int v4, .int v6, .int v8, .int v9, .long w10, .int v11, .int v13, .int v14, .int v15, .ref (ad 6), .ref (ad 7), .ref (ad 8), .ref (ad 9), .ref (ad 10), .ref (ad 11), .ref (ad 12), .ref (ad 13), .ref (ad 14), .ref (ad 15), .int v16, .int v18, .ref (ad 16), .int v20, .int v22, .int v24, .int v26, .int v27, .ref (ad 17), .ref (ad 18), .int v28, .ref (ad 19)]) := c29
  have q30 : fld (S 0) 6 = v2.toInt := fld_of c29 rfl
  have b31 : Bd v2 (0) (1196) := ⟨(b3).1, by omega⟩
  refine lv_bipush (v := 24) hx hb dX12_four_0 (by decide) ?_
  refine lv_istore_n (lv' := [(2, .int 24), (0, .ref (ad 0)), (1, .int a1)]) hx hb dX12_four_2 rfl hl (by decide) rfl (fun ls hl => ?_)
  have loop3 : ∀ (n : Nat) (S_3 : SS) (H : Heap) (locs : List Loc) (ls : Array Slot) (x3_2 : Int32) (y3_0_0 : Int32) (y3_0_6 : Int32) (y3_0_7 : Int32) (y3_0_8 : Int32) (y3_0_9 : Int32) (y3_0_10 : Int32) (wy3_0_11 : Int64) (y3_0_12 : Int32) (y3_0_13 : Int32) (y3_0_14 : Int32) (y3_0_15 : Int32) (y3_0_26 : Int32) (y3_0_27 : Int32) (y3_0_29 : Int32) (y3_0_30 : Int32) (y3_0_31 : Int32) (y3_0_32 : Int32) (y3_0_33 : Int32) (y3_0_36 : Int32), Bd x3_2 (-20) (24) → Bd y3_0_6 (0) (100000) → Bd y3_0_7 (0) (1200) → Bd y3_0_8 (0) (4) → Bd y3_0_12 (0) (3) → Bd y3_0_26 (0) (11) → Bd y3_0_27 (-1) (400) → Bd y3_0_29 (0) (2) → Bd y3_0_30 (0) (11) → Bd y3_0_31 (-1) (468) → 0 ≤ 8 * v2.toInt + (-8) * y3_0_6.toInt + (-1) * x3_2.toInt + 24 → 0 ≤ 8 * y3_0_6.toInt + x3_2.toInt + (-8) * v2.toInt + (-24) → 0 ≤ x3_2.toInt + 8 → x3_2.toInt + 20 < ((n : Nat) : Int) → InvM g ad S_3 → (∀ j, j ∉ ([0, 5] : List Nat) → S_3 j = S j) → S_3 0 = .inr (12, [.int y3_0_0, .ref (ad 1), .ref (ad 2), .ref (ad 3), .ref (ad 4), .ref (ad 5), .int y3_0_6, .int y3_0_7, .int y3_0_8, .int y3_0_9, .int y3_0_10, .long wy3_0_11, .int y3_0_12, .int y3_0_13, .int y3_0_14, .int y3_0_15, .ref (ad 6), .ref (ad 7), .ref (ad 8), .ref (ad 9), .ref (ad 10), .ref (ad 11), .ref (ad 12), .ref (ad 13), .ref (ad 14), .ref (ad 15), .int y3_0_26, .int y3_0_27, .ref (ad 16), .int y3_0_29, .int y3_0_30, .int y3_0_31, .int y3_0_32, .int y3_0_33, .ref (ad 17), .ref (ad 18), .int y3_0_36, .ref (ad 19)]) → Hp g ad 20 S_3 (FA ad 20) s.heap H locs → lv_has ls 3 [(2, .int x3_2), (0, .ref (ad 0)), (1, .int a1)] → W p l e (Rm 0) s m [.ref (ad 0), .int a1].toArray below meth c H locs 0 0 (MQ below (va_Qv (fun S' => InvM g ad S' ∧ (∀ j, j ∉ ([0, 5] : List Nat) → S' j = S j) ∧ (0 ≤ fld (S 0) 6 + (-1) * fld (S' 0) 6 + 4 ∧ 0 ≤ fld (S' 0) 6 + (-1) * fld (S 0) 6 + (-4))) (QB g ad 20) (FA ad 20)) [.ref (ad 0), .int a1].toArray s 0 0 (FA ad 20)) (F0 m 3 ls []) := by
    intro n
    induction n with
    | zero => intro S_3 H locs ls x3_2 y3_0_0 y3_0_6 y3_0_7 y3_0_8 y3_0_9 y3_0_10 wy3_0_11 y3_0_12 y3_0_13 y3_0_14 y3_0_15 y3_0_26 y3_0_27 y3_0_29 y3_0_30 y3_0_31 y3_0_32 y3_0_33 y3_0_36 Bx3_2 By3_0_6 By3_0_7 By3_0_8 By3_0_12 By3_0_26 By3_0_27 By3_0_29 By3_0_30 By3_0_31 C3_0 C3_1 C3_2 hn3_ hI hf3 cl3_0 hQ hl; exfalso; have := (Bx3_2).1; omega
    | succ n3_ ih3 =>
      intro S_3 H locs ls x3_2 y3_0_0 y3_0_6 y3_0_7 y3_0_8 y3_0_9 y3_0_10 wy3_0_11 y3_0_12 y3_0_13 y3_0_14 y3_0_15 y3_0_26 y3_0_27 y3_0_29 y3_0_30 y3_0_31 y3_0_32 y3_0_33 y3_0_36 Bx3_2 By3_0_6 By3_0_7 By3_0_8 By3_0_12 By3_0_26 By3_0_27 By3_0_29 By3_0_30 By3_0_31 C3_0 C3_1 C3_2 hn3_ hI hf3 cl3_0 hQ hl
      have b32 : Bd y3_0_6 (0) (1200) := ⟨(By3_0_6).1, by omega⟩
      refine lv_iload_n hx hb dX12_four_3 rfl (lv_at hl 0 rfl) ?_
      refine lv_if_lt (tgt := 36) hx hb dX12_four_4 (by decide) (fun k33 => ?_) (fun k33 => ?_)
      · have h34 := ib_lt k33
        have b35 : Bd x3_2 (-20) (-1) := ⟨(Bx3_2).1, ((rf_lt Bx3_2 (by decide : Bd 0 (0) (0)) h34).1).2⟩
        have q36 : fld (S_3 0) 6 = y3_0_6.toInt := fld_of cl3_0 rfl
        exact xrv E hr hlk hQ (⟨hI, (o_trans o_refl hf3 (by decide)), ⟨by omega, by omega⟩⟩) dX12_four_36
      · have h37 := ib_nlt k33
        have b38 : Bd x3_2 (0) (24) := ⟨((rf_le (by decide : Bd 0 (0) (0)) Bx3_2 h37).2).1, (Bx3_2).2⟩
        refine lv_aload_n hx hb dX12_four_7 rfl (lv_at hl 1 rfl) ?_
        refine xget E hQ 0 (by decide) cl3_0 rfl 5 (by decide) q1473 rfl dX12_four_8 ?_
        refine lv_aload_n hx hb dX12_four_11 rfl (lv_at hl 1 rfl) ?_
        refine xget E hQ 0 (by decide) cl3_0 rfl 6 (by decide) q1474 rfl dX12_four_12 ?_
        refine lv_iload_n hx hb dX12_four_15 rfl (lv_at hl 2 rfl) ?_
        refine lv_iload_n hx hb dX12_four_16 rfl (lv_at hl 0 rfl) ?_
        refine lv_ishr hx hb dX12_four_17 ?_
        refine lv_topi (fun z39 e40 => ?_)
        refine lv_i2b hx hb dX12_four_18 rfl ?_
        refine lv_topi (fun z41 e42 => ?_)
        have b43 : Bd z41 (-128) (127) := (by rw [e42]; exact ib_byte _)
        obtain ⟨f44, c45, b46⟩ := invM_5 hI
        refine xbast E hs hQ 5 (by decide) c45 (ib_inx (n := 1200) (by omega) (by omega)) dX12_four_19 (fun H locs S47 eS47 hQ => ?_)
        have hI := invM_up_5 hI eS47 ⟨_, rfl, upd_b b46 (nar_b _)⟩
        have b49 : ∀ j, Bd ((upd f44 (y3_0_6 : Int32).toNatClampNeg (vp_nar .byte z41)) j) (-128) (127) := upd_b b46 (nar_b _)
        have c48 : S47 5 = .inl (g.2 1, 1200, .inl (upd f44 (y3_0_6 : Int32).toNatClampNeg (vp_nar .byte z41))) := up_at eS47 rfl
        refine lv_aload_n hx hb dX12_four_20 rfl (lv_at hl 1 rfl) ?_
        refine lv_dup hx hb dX12_four_21 rfl ?_
        have c50 : S47 0 = .inr (12, [.int y3_0_0, .ref (ad 1), .ref (ad 2), .ref (ad 3), .ref (ad 4), .ref (ad 5), .int y3_0_6, .int y3_0_7, .int y3_0_8, .int y3_0_9, .int y3_0_10, .long wy3_0_11, .int y3_0_12, .int y3_0_13, .int y3_0_14, .int y3_0_15, .ref (ad 6), .ref (ad 7), .ref (ad 8), .ref (ad 9), .ref (ad 10), .ref (ad 11), .ref (ad 12), .ref (ad 13), .ref (ad 14), .ref (ad 15), .int y3_0_26, .int y3_0_27, .ref (ad 16), .int y3_0_29, .int y3_0_30, .int y3_0_31, .int y3_0_32, .int y3_0_33, .ref (ad 17), .ref (ad 18), .int y3_0_36, .ref (ad 19)]) := (up_ne eS47 (by decide) cl3_0)
        refine xget E hQ 0 (by decide) c50 rfl 6 (by decide) q1474 rfl dX12_four_22 ?_
        refine lv_iconst (v := 1) hx hb dX12_four_25 (by decide) ?_
        refine lv_iadd hx hb dX12_four_26 ?_
        refine lv_topi (fun z51 e52 => ?_)
        have t53 := ib_add e52 b32 (by decide : Bd 1 (1) (1)) (by decide) (by decide)
        have b54 : Bd z51 (1) (1201) := ib_addb t53 b32 (by decide : Bd 1 (1) (1))
        have t53 : z51.toInt = y3_0_6.toInt + 1 := fold_add t53 rfl (by decide)
        refine xputi E hs hQ 0 (by decide) c50 rfl 6 (by decide) q1474 rfl rfl (Nat.le_of_ble_eq_true rfl) dX12_four_27 (fun H locs S55 eS55 hQ => ?_)
        have hI := invM_up_0 hI eS55 ⟨y3_0_0, z51, y3_0_7, y3_0_8, y3_0_9, y3_0_10, wy3_0_11, y3_0_12, y3_0_13, y3_0_14, y3_0_15, y3_0_26, y3_0_27, y3_0_29, y3_0_30, y3_0_31, y3_0_32, y3_0_33, y3_0_36, rfl, (⟨by omega, by omega⟩ : Bd z51 (0) (1200)), By3_0_7, By3_0_8, By3_0_12, By3_0_26, By3_0_27, By3_0_29, By3_0_30, By3_0_31⟩
        have c56 : S55 0 = .inr (12, [.int y3_0_0, .ref (ad 1), .ref (ad 2), .ref (ad 3), .ref (ad 4), .ref (ad 5), .int z51, .int y3_0_7, .int y3_0_8, .int y3_0_9, .int y3_0_10, .long wy3_0_11, .int y3_0_12, .int y3_0_13, .int y3_0_14, .int y3_0_15, .ref (ad 6), .ref (ad 7), .ref (ad 8), .ref (ad 9), .ref (ad 10), .ref (ad 11), .ref (ad 12), .ref (ad 13), .ref (ad 14), .ref (ad 15), .int y3_0_26, .int y3_0_27, .ref (ad 16), .int y3_0_29, .int y3_0_30, .int y3_0_31, .int y3_0_32, .int y3_0_33, .ref (ad 17), .ref (ad 18), .int y3_0_36, .ref (ad 19)]) := up_at eS55 rfl
        obtain ⟨z57, e58⟩ : ∃ z : Int32, z = x3_2 + (-8) := ⟨_, rfl⟩
        have t59 := ib_add e58 b38 (by decide : Bd (-8) (-8) (-8)) (by decide) (by decide)
        have b60 : Bd z57 (-8) (16) := ib_addb t59 b38 (by decide : Bd (-8) (-8) (-8))
        have t59 : z57.toInt = x3_2.toInt + (-8) := fold_add t59 rfl (by decide)
        refine lv_iinc (v := z57) (lv' := [(2, .int z57), (0, .ref (ad 0)), (1, .int a1)]) hx hb dX12_four_30 hl (k := 0) rfl (by rw [e58]; rfl) (by decide) rfl (fun ls hl => ?_)
        refine lv_goto (tgt := 3) hx hb dX12_four_33 (by decide) ?_
        exact ih3 _ _ _ _ z57 y3_0_0 z51 y3_0_7 y3_0_8 y3_0_9 y3_0_10 wy3_0_11 y3_0_12 y3_0_13 y3_0_14 y3_0_15 y3_0_26 y3_0_27 y3_0_29 y3_0_30 y3_0_31 y3_0_32 y3_0_33 y3_0_36 (ib_wk b60 (by decide) (by decide)) (ib_wk b54 (by decide) (by decide)) By3_0_7 By3_0_8 By3_0_12 By3_0_26 By3_0_27 By3_0_29 By3_0_30 By3_0_31 (by omega) (by omega) (by omega) (by omega) hI (up_o (up_o hf3 eS47 (by decide)) eS55 (by decide)) c56 hQ (lv_sub hl [0, 1, 2] rfl)
  obtain ⟨n3, hn3⟩ := fu_n (44)
  exact loop3 n3 _ _ _ _ 24 v1 v2 v4 v6 v8 v9 w10 v11 v13 v14 v15 v16 v18 v20 v22 v24 v26 v27 v28 (ib_wk (by decide : Bd 24 (24) (24)) (by decide) (by decide)) (ib_wk b31 (by decide) (by decide)) b5 b7 b12 b17 b19 b21 b23 b25 (by have : (24 : Int32).toInt = 24 := (by decide); omega) (by have : (24 : Int32).toInt = 24 := (by decide); omega) (by have : (24 : Int32).toInt = 24 := (by decide); omega) (by have : (24 : Int32).toInt = 24 := (by decide); omega) hI o_refl c29 hQ (lv_sub hl [0, 1, 2] rfl)
set_option maxHeartbeats 4000000 in
set_option maxRecDepth 100000 in
theorem gX12_feed_0 (l : Launch) (g : GG) (ad : Nat → Nat) (hD : Dj ad 20) (S : SS) (hI : InvM g ad S) (a1 : Int32) (a2 : Int32) (a3 : Int32) (a4 : Int32) (a5 : Int32) (hq1 : 0 ≤ 12 * elm (S 7) 1 + (-1) * elm (S 7) 0) (hq2 : 0 ≤ 12 * elm (S 7) 3 + (-1) * elm (S 7) 0) (hq3 : 0 ≤ 8 * elm (S 7) 0 + (-1) * elm (S 7) 6) (hq4 : 0 ≤ 3 * elm (S 7) 0 + (-1) * elm (S 7) 8) (hq5 : 0 ≤ 40000 * elm (S 7) 0 + (-1) * elm (S 6) 0) : Met l yX12_feed (wG (.code yX12_feed cX12_feed 6 (some .int))) (Rm 1) (XPre g ad 20 S [.ref (ad 0), .int a1, .int a2, .int a3, .int a4, .int a5]) (va_Qi (fun r S' => InvM g ad S' ∧ (∀ j, j ∉ ([0, 5] : List Nat) → S' j = S j) ∧ Bd r (-1) (1200)) (QB g ad 20) (FA ad 20)) 0 0 (FA ad 20) := by
  refine xmet cX12_feed "EbbWreckModel" (by decide) rfl (Nat.le_of_ble_eq_true rfl) (fun p e s m below meth c E hr hlk hml hQ ls hl => ?_)
  have hx := E.1
  have hb := E.2.1
  have hs : Sp ad 20 (FA ad 20) := Sp.fa hD
  have hl : lv_has ls 6 [(0, .ref (ad 0)), (1, .int a1), (2, .int a2), (3, .int a3), (4, .int a4), (5, .int a5)] := hl
  obtain ⟨f1, c2, b3⟩ := invM_7 hI
  obtain ⟨v4, ee5⟩ : ∃ z : Int32, f1 1 = z := ⟨_, rfl⟩
  have b6 : Bd v4 (0) (12) := (by rw [← ee5]; exact b3.2.1 1 (by decide))
  obtain ⟨v7, ee8⟩ : ∃ z : Int32, f1 0 = z := ⟨_, rfl⟩
  have b9 : Bd v7 (0) (12) := (by rw [← ee8]; exact b3.1 0 (by decide))
  obtain ⟨v10, ee11⟩ : ∃ z : Int32, f1 3 = z := ⟨_, rfl⟩
  have b12 : Bd v10 (0) (12) := (by rw [← ee11]; exact b3.2.2.2.1 3 (by decide))
  obtain ⟨v13, ee14⟩ : ∃ z : Int32, f1 6 = z := ⟨_, rfl⟩
  have b15 : Bd v13 (0) (8) := (by rw [← ee14]; exact b3.2.2.2.2.1 6 (by decide))
  obtain ⟨v16, ee17⟩ : ∃ z : Int32, f1 8 = z := ⟨_, rfl⟩
  have b18 : Bd v16 (0) (3) := (by rw [← ee17]; exact b3.2.2.2.2.2.2.1 8 (by decide))
  obtain ⟨f19, c20, b21⟩ := invM_6 hI
  obtain ⟨v22, ee23⟩ : ∃ z : Int32, f19 0 = z := ⟨_, rfl⟩
  have b24 : Bd v22 (0) (40000) := (by rw [← ee23]; exact b21 0)
  have q25 : elm (S 7) 1 = v4.toInt := (elm_of c2 1).trans (congrArg Int32.toInt (ee5))
  have q26 : elm (S 7) 0 = v7.toInt := (elm_of c2 0).trans (congrArg Int32.toInt (ee8))
  have q27 : elm (S 7) 3 = v10.toInt := (elm_of c2 3).trans (congrArg Int32.toInt (ee11))
  have q28 : elm (S 7) 6 = v13.toInt := (elm_of c2 6).trans (congrArg Int32.toInt (ee14))
  have q29 : elm (S 7) 8 = v16.toInt := (elm_of c2 8).trans (congrArg Int32.toInt (ee17))
  have q30 : elm (S 6) 0 = v22.toInt := (elm_of c20 0).trans (congrArg Int32.toInt (ee23))
  refine lv_aload_n hx hb dX12_feed_0 rfl (lv_at hl 0 rfl) ?_
  refine lv_iconst (v := 0) hx hb dX12_feed_1 (by decide) ?_
  obtain ⟨v31, v32, v34, v36, v38, v39, w40, v41, v43, v44, v45, v46, v48, v50, v52, v54, v56, v57, v58, c59, b33, b35, b37, b42, b47, b49, b51, b53, b55⟩ := invM_0 hI
  have c59 : S 0 = .inr (12, [.int v31, .ref (ad 1), .ref (ad 2), .ref (ad 3), .ref (ad 4), .ref (ad 5), .int v32, .int v34, .int v36, .int v38, .int v39, .long w40, .int v41, .int v43, .int v44, .int v45, .ref (ad 6), .ref (ad 7), .ref (ad 8), .ref (ad 9), .ref (ad 10), .ref (ad 11), .ref (ad 12), .ref (ad 13), .ref (ad 14), .ref (ad 15), .int v46, .int v48, .ref (ad 16), .int v50, .int v52, .int v54, .int v56, .int v57, .ref (ad 17), .ref (ad 18), .int v58, .ref (ad 19)]) := c59
  refine xputi E hs hQ 0 (by decide) c59 rfl 0 (by decide) q1468 rfl rfl (Nat.le_of_ble_eq_true rfl) dX12_feed_2 (fun H locs S60 eS60 hQ => ?_)
  have hI := invM_up_0 hI eS60 ⟨0, v32, v34, v36, v38, v39, w40, v41, v43, v44, v45, v46, v48, v50, v52, v54, v56, v57, v58, rfl, b33, b35, b37, b42, b47, b49, b51, b53, b55⟩
  have c61 : S60 0 = .inr (12, [.int 0, .ref (ad 1), .ref (ad 2), .ref (ad 3), .ref (ad 4), .ref (ad 5), .int v32, .int v34, .int v36, .int v38, .int v39, .long w40, .int v41, .int v43, .int v44, .int v45, .ref (ad 6), .ref (ad 7), .ref (ad 8), .ref (ad 9), .ref (ad 10), .ref (ad 11), .ref (ad 12), .ref (ad 13), .ref (ad 14), .ref (ad 15), .int v46, .int v48, .ref (ad 16), .int v50, .int v52, .int v54, .int v56, .int v57, .ref (ad 17), .ref (ad 18), .int v58, .ref (ad 19)]) := up_at eS60 rfl
  refine lv_aload_n hx hb dX12_feed_5 rfl (lv_at hl 0 rfl) ?_
  refine xget E hQ 0 (by decide) c61 rfl 6 (by decide) q1474 rfl dX12_feed_6 ?_
  refine lv_bipush (v := 20) hx hb dX12_feed_9 (by decide) ?_
  refine lv_iadd hx hb dX12_feed_11 ?_
  refine lv_topi (fun z62 e63 => ?_)
  have t64 := ib_add e63 b33 (by decide : Bd 20 (20) (20)) (by decide) (by decide)
  have b65 : Bd z62 (20) (1220) := ib_addb t64 b33 (by decide : Bd 20 (20) (20))
  have t64 : z62.toInt = v32.toInt + 20 := fold_add t64 rfl (by decide)
  refine lv_sipush (v := 1200) hx hb dX12_feed_12 (by decide) ?_
  refine lv_icmp_le (tgt := 20) hx hb dX12_feed_15 (by decide) (fun k66 => ?_) (fun k66 => ?_)
  · have h67 := ib_le k66
    have b68 : Bd z62 (20) (1200) := ⟨(b65).1, ((rf_le b65 (by decide : Bd 1200 (1200) (1200)) h67).1).2⟩
    have b69 : Bd v32 (0) (1180) := ⟨by omega, by omega⟩
    refine lv_aload_n hx hb dX12_feed_20 rfl (lv_at hl 0 rfl) ?_
    refine lv_iload_n hx hb dX12_feed_21 rfl (lv_at hl 1 rfl) ?_
    have q70 : fld (S60 0) 6 = v32.toInt := fld_of c61 rfl
    refine xcVv E hs hQ hml hl.1 0 (gX12_four_0 l g ad hD S60 hI a1 (by omega)) mX12_four q1609 (by decide) c61 rfl rfl ⟨(Nat.le_of_ble_eq_true rfl), (Nat.le_of_ble_eq_true rfl)⟩ ⟨(Nat.le_of_ble_eq_true rfl), (Nat.le_of_ble_eq_true rfl)⟩ (Nat.le_of_ble_eq_true rfl) rfl dX12_feed_22 (fun S71 H locs hp71 hQ _ => ?_)
    obtain ⟨hI, o71, g71_0⟩ := hp71
    obtain ⟨v72, v73, v75, v77, v79, v80, w81, v82, v84, v85, v86, v87, v89, v91, v93, v95, v97, v98, v99, c100, b74, b76, b78, b83, b88, b90, b92, b94, b96⟩ := invM_0 hI
    have c100 : S71 0 = .inr (12, [.int v72, .ref (ad 1), .ref (ad 2), .ref (ad 3), .ref (ad 4), .ref (ad 5), .int v73, .int v75, .int v77, .int v79, .int v80, .long w81, .int v82, .int v84, .int v85, .int v86, .ref (ad 6), .ref (ad 7), .ref (ad 8), .ref (ad 9), .ref (ad 10), .ref (ad 11), .ref (ad 12), .ref (ad 13), .ref (ad 14), .ref (ad 15), .int v87, .int v89, .ref (ad 16), .int v91, .int v93, .int v95, .int v97, .int v98, .ref (ad 17), .ref (ad 18), .int v99, .ref (ad 19)]) := c100
    have q101 : fld (S71 0) 6 = v73.toInt := fld_of c100 rfl
    have b102 : Bd v73 (4) (1184) := ⟨by omega, by omega⟩
    refine lv_aload_n hx hb dX12_feed_25 rfl (lv_at hl 0 rfl) ?_
    refine lv_iload_n hx hb dX12_feed_26 rfl (lv_at hl 2 rfl) ?_
    refine xcVv E hs hQ hml hl.1 0 (gX12_four_0 l g ad hD S71 hI a2 (by omega)) mX12_four q1609 (by decide) c100 rfl rfl ⟨(Nat.le_of_ble_eq_true rfl), (Nat.le_of_ble_eq_true rfl)⟩ ⟨(Nat.le_of_ble_eq_true rfl), (Nat.le_of_ble_eq_true rfl)⟩ (Nat.le_of_ble_eq_true rfl) rfl dX12_feed_27 (fun S103 H locs hp103 hQ _ => ?_)
    obtain ⟨hI, o103, g103_0⟩ := hp103
    obtain ⟨v104, v105, v107, v109, v111, v112, w113, v114, v116, v117, v118, v119, v121, v123, v125, v127, v129, v130, v131, c132, b106, b108, b110, b115, b120, b122, b124, b126, b128⟩ := invM_0 hI
    have c132 : S103 0 = .inr (12, [.int v104, .ref (ad 1), .ref (ad 2), .ref (ad 3), .ref (ad 4), .ref (ad 5), .int v105, .int v107, .int v109, .int v111, .int v112, .long w113, .int v114, .int v116, .int v117, .int v118, .ref (ad 6), .ref (ad 7), .ref (ad 8), .ref (ad 9), .ref (ad 10), .ref (ad 11), .ref (ad 12), .ref (ad 13), .ref (ad 14), .ref (ad 15), .int v119, .int v121, .ref (ad 16), .int v123, .int v125, .int v127, .int v129, .int v130, .ref (ad 17), .ref (ad 18), .int v131, .ref (ad 19)]) := c132
    have q133 : fld (S103 0) 6 = v105.toInt := fld_of c132 rfl
    have b134 : Bd v105 (8) (1188) := ⟨by omega, by omega⟩
    refine lv_aload_n hx hb dX12_feed_30 rfl (lv_at hl 0 rfl) ?_
    refine lv_iload_n hx hb dX12_feed_31 rfl (lv_at hl 3 rfl) ?_
    refine xcVv E hs hQ hml hl.1 0 (gX12_four_0 l g ad hD S103 hI a3 (by omega)) mX12_four q1609 (by decide) c132 rfl rfl ⟨(Nat.le_of_ble_eq_true rfl), (Nat.le_of_ble_eq_true rfl)⟩ ⟨(Nat.le_of_ble_eq_true rfl), (Nat.le_of_ble_eq_true rfl)⟩ (Nat.le_of_ble_eq_true rfl) rfl dX12_feed_32 (fun S135 H locs hp135 hQ _ => ?_)
    obtain ⟨hI, o135, g135_0⟩ := hp135
    obtain ⟨v136, v137, v139, v141, v143, v144, w145, v146, v148, v149, v150, v151, v153, v155, v157, v159, v161, v162, v163, c164, b138, b140, b142, b147, b152, b154, b156, b158, b160⟩ := invM_0 hI
    have c164 : S135 0 = .inr (12, [.int v136, .ref (ad 1), .ref (ad 2), .ref (ad 3), .ref (ad 4), .ref (ad 5), .int v137, .int v139, .int v141, .int v143, .int v144, .long w145, .int v146, .int v148, .int v149, .int v150, .ref (ad 6), .ref (ad 7), .ref (ad 8), .ref (ad 9), .ref (ad 10), .ref (ad 11), .ref (ad 12), .ref (ad 13), .ref (ad 14), .ref (ad 15), .int v151, .int v153, .ref (ad 16), .int v155, .int v157, .int v159, .int v161, .int v162, .ref (ad 17), .ref (ad 18), .int v163, .ref (ad 19)]) := c164
    have q165 : fld (S135 0) 6 = v137.toInt := fld_of c164 rfl
    have b166 : Bd v137 (12) (1192) := ⟨by omega, by omega⟩
    refine lv_aload_n hx hb dX12_feed_35 rfl (lv_at hl 0 rfl) ?_
    refine lv_iload hx hb dX12_feed_36 (lv_at hl 4 rfl) ?_
    refine xcVv E hs hQ hml hl.1 0 (gX12_four_0 l g ad hD S135 hI a4 (by omega)) mX12_four q1609 (by decide) c164 rfl rfl ⟨(Nat.le_of_ble_eq_true rfl), (Nat.le_of_ble_eq_true rfl)⟩ ⟨(Nat.le_of_ble_eq_true rfl), (Nat.le_of_ble_eq_true rfl)⟩ (Nat.le_of_ble_eq_true rfl) rfl dX12_feed_38 (fun S167 H locs hp167 hQ _ => ?_)
    obtain ⟨hI, o167, g167_0⟩ := hp167
    obtain ⟨v168, v169, v171, v173, v175, v176, w177, v178, v180, v181, v182, v183, v185, v187, v189, v191, v193, v194, v195, c196, b170, b172, b174, b179, b184, b186, b188, b190, b192⟩ := invM_0 hI
    have c196 : S167 0 = .inr (12, [.int v168, .ref (ad 1), .ref (ad 2), .ref (ad 3), .ref (ad 4), .ref (ad 5), .int v169, .int v171, .int v173, .int v175, .int v176, .long w177, .int v178, .int v180, .int v181, .int v182, .ref (ad 6), .ref (ad 7), .ref (ad 8), .ref (ad 9), .ref (ad 10), .ref (ad 11), .ref (ad 12), .ref (ad 13), .ref (ad 14), .ref (ad 15), .int v183, .int v185, .ref (ad 16), .int v187, .int v189, .int v191, .int v193, .int v194, .ref (ad 17), .ref (ad 18), .int v195, .ref (ad 19)]) := c196
    have q197 : fld (S167 0) 6 = v169.toInt := fld_of c196 rfl
    have b198 : Bd v169 (16) (1196) := ⟨by omega, by omega⟩
    refine lv_aload_n hx hb dX12_feed_41 rfl (lv_at hl 0 rfl) ?_
    refine lv_iload hx hb dX12_feed_42 (lv_at hl 5 rfl) ?_
    refine xcVv E hs hQ hml hl.1 0 (gX12_four_0 l g ad hD S167 hI a5 (by omega)) mX12_four q1609 (by decide) c196 rfl rfl ⟨(Nat.le_of_ble_eq_true rfl), (Nat.le_of_ble_eq_true rfl)⟩ ⟨(Nat.le_of_ble_eq_true rfl), (Nat.le_of_ble_eq_true rfl)⟩ (Nat.le_of_ble_eq_true rfl) rfl dX12_feed_44 (fun S199 H locs hp199 hQ _ => ?_)
    obtain ⟨hI, o199, g199_0⟩ := hp199
    obtain ⟨v200, v201, v203, v205, v207, v208, w209, v210, v212, v213, v214, v215, v217, v219, v221, v223, v225, v226, v227, c228, b202, b204, b206, b211, b216, b218, b220, b222, b224⟩ := invM_0 hI
    have c228 : S199 0 = .inr (12, [.int v200, .ref (ad 1), .ref (ad 2), .ref (ad 3), .ref (ad 4), .ref (ad 5), .int v201, .int v203, .int v205, .int v207, .int v208, .long w209, .int v210, .int v212, .int v213, .int v214, .ref (ad 6), .ref (ad 7), .ref (ad 8), .ref (ad 9), .ref (ad 10), .ref (ad 11), .ref (ad 12), .ref (ad 13), .ref (ad 14), .ref (ad 15), .int v215, .int v217, .ref (ad 16), .int v219, .int v221, .int v223, .int v225, .int v226, .ref (ad 17), .ref (ad 18), .int v227, .ref (ad 19)]) := c228
    have q229 : fld (S199 0) 6 = v201.toInt := fld_of c228 rfl
    have b230 : Bd v201 (20) (1200) := ⟨by omega, (b202).2⟩
    refine lv_aload_n hx hb dX12_feed_47 rfl (lv_at hl 0 rfl) ?_
    refine xget E hQ 0 (by decide) c228 rfl 6 (by decide) q1474 rfl dX12_feed_48 ?_
    exact xri E hr hlk hQ (⟨hI, (o_trans (o_trans (o_trans (o_trans (o_trans (up_o o_refl eS60 (by decide)) o71 (by decide)) o103 (by decide)) o135 (by decide)) o167 (by decide)) o199 (by decide)), (ib_wk b230 (by decide) (by decide))⟩) dX12_feed_51
  · have h231 := ib_nle k66
    have b232 : Bd z62 (1201) (1220) := ⟨((rf_lt (by decide : Bd 1200 (1200) (1200)) b65 h231).2).1, (b65).2⟩
    have b233 : Bd v32 (1181) (1200) := ⟨by omega, by omega⟩
    refine lv_iconst (v := (-1)) hx hb dX12_feed_18 (by decide) ?_
    exact xri E hr hlk hQ (⟨hI, (up_o o_refl eS60 (by decide)), (ib_wk (by decide : Bd (-1) (-1) (-1)) (by decide) (by decide))⟩) dX12_feed_19
set_option maxHeartbeats 4000000 in
set_option maxRecDepth 100000 in
theorem gX12_isByte_0 (l : Launch) (g : GG) (ad : Nat → Nat) (hD : Dj ad 20) (S : SS) (hI : InvM g ad S) (a1 : Int32) (a2 : Int32) (a3 : Int32) (ba1 : Bd a1 (0) (1200)) (ba2 : Bd a2 (-128) (127)) (ba3 : Bd a3 (-128) (127)) : Met l yX12_isByte (wG (.code yX12_isByte cX12_isByte 4 (some .boolean))) (Rm 0) (XPre g ad 20 S [.ref (ad 0), .int a1, .int a2, .int a3]) (va_Qi (fun r S' => S = S' ∧ Bd r (0) (1) ∧ ((r.toInt + (-1) < 0 ∨ (0 ≤ fld (S 0) 6 + (-1) * a1.toInt + (-1)))) ∧ (r = byF (fld (S 0) 6) (S 5) a1 a2 a3)) (QB g ad 20) (FA ad 20)) 0 0 (FA ad 20) := by
  refine xmet cX12_isByte "EbbWreckModel" (by decide) rfl (Nat.le_of_ble_eq_true rfl) (fun p e s m below meth c E hr hlk hml hQ ls hl => ?_)
  have hx := E.1
  have hb := E.2.1
  have hs : Sp ad 20 (FA ad 20) := Sp.fa hD
  have hl : lv_has ls 4 [(0, .ref (ad 0)), (1, .int a1), (2, .int a2), (3, .int a3)] := hl
  obtain ⟨v1, v2, v4, v6, v8, v9, w10, v11, v13, v14, v15, v16, v18, v20, v22, v24, v26, v27, v28, c29, b3, b5, b7, b12, b17, b19, b21, b23, b25⟩ := invM_0 hI
  have c29 : S 0 = .inr (12, [.int v1, .ref (ad 1), .ref (ad 2), .ref (ad 3), .ref (ad 4), .ref (ad 5), .int v2, .int v4, .int v6, .int v8, .int v9, .long w10, .int v11, .int v13, .int v14, .int v15, .ref (ad 6), .ref (ad 7), .ref (ad 8), .ref (ad 9), .ref (ad 10), .ref (ad 11), .ref (ad 12), .ref (ad 13), .ref (ad 14), .ref (ad 15), .int v16, .int v18, .ref (ad 16), .int v20, .int v22, .int v24, .int v26, .int v27, .ref (ad 17), .ref (ad 18), .int v28, .ref (ad 19)]) := c29
  refine lv_iload_n hx hb dX12_isByte_0 rfl (lv_at hl 1 rfl) ?_
  refine lv_aload_n hx hb dX12_isByte_1 rfl (lv_at hl 0 rfl) ?_
  refine xget E hQ 0 (by decide) c29 rfl 6 (by decide) q1474 rfl dX12_isByte_2 ?_
  refine lv_icmp_ge (tgt := 32) hx hb dX12_isByte_5 (by decide) (fun k30 => ?_) (fun k30 => ?_)
  · have h31 := ib_le k30
    refine lv_iconst (v := 0) hx hb dX12_isByte_32 (by decide) ?_
    have q32 : fld (S 0) 6 = v2.toInt := fld_of c29 rfl
    have q33 : (0 : Int32).toInt = 0 := by decide
    exact xrz E hr hlk hQ rfl (⟨rfl, (ib_wk (by decide : Bd 0 (0) (0)) (by decide) (by decide)), Or.inl (by omega), (by_0 (by omega))⟩) dX12_isByte_33
  · have h34 := ib_nle k30
    have b35 : Bd a1 (0) (1199) := ⟨(ba1).1, ((rf_lt ba1 b3 h34).1).2⟩
    have b36 : Bd v2 (1) (1200) := ⟨((rf_lt ba1 b3 h34).2).1, (b3).2⟩
    refine lv_aload_n hx hb dX12_isByte_8 rfl (lv_at hl 0 rfl) ?_
    refine xget E hQ 0 (by decide) c29 rfl 5 (by decide) q1473 rfl dX12_isByte_9 ?_
    refine lv_iload_n hx hb dX12_isByte_12 rfl (lv_at hl 1 rfl) ?_
    obtain ⟨f37, c38, b39⟩ := invM_5 hI
    refine xbald E hQ 5 (by decide) c38 (ib_in b35 (by decide) (by decide)) dX12_isByte_13 ?_
    refine lv_topi (fun z40 e41 => ?_)
    have b42 : Bd z40 (-128) (127) := (by rw [e41]; exact b39 _)
    refine lv_iload_n hx hb dX12_isByte_14 rfl (lv_at hl 2 rfl) ?_
    refine lv_icmp_lt (tgt := 32) hx hb dX12_isByte_15 (by decide) (fun k43 => ?_) (fun k43 => ?_)
    · have h44 := ib_lt k43
      have b45 : Bd z40 (-128) (126) := ⟨(b42).1, ((rf_lt b42 ba2 h44).1).2⟩
      have b46 : Bd a2 (-127) (127) := ⟨((rf_lt b42 ba2 h44).2).1, (ba2).2⟩
      refine lv_iconst (v := 0) hx hb dX12_isByte_32 (by decide) ?_
      have q47 : fld (S 0) 6 = v2.toInt := fld_of c29 rfl
      have q48 : (0 : Int32).toInt = 0 := by decide
      have hb49 := by_e (k := a1) c38 e41
      exact xrz E hr hlk hQ rfl (⟨rfl, (ib_wk (by decide : Bd 0 (0) (0)) (by decide) (by decide)), Or.inl (by omega), (by_0 (by omega))⟩) dX12_isByte_33
    · have h50 := ib_nlt k43
      refine lv_aload_n hx hb dX12_isByte_18 rfl (lv_at hl 0 rfl) ?_
      refine xget E hQ 0 (by decide) c29 rfl 5 (by decide) q1473 rfl dX12_isByte_19 ?_
      refine lv_iload_n hx hb dX12_isByte_22 rfl (lv_at hl 1 rfl) ?_
      refine xbald E hQ 5 (by decide) c38 (ib_in b35 (by decide) (by decide)) dX12_isByte_23 ?_
      refine lv_topi (fun z51 e52 => ?_)
      have b53 : Bd z51 (-128) (127) := (by rw [e52]; exact b39 _)
      have t54 : z51.toInt = z40.toInt := by rw [e52, e41]
      refine lv_iload_n hx hb dX12_isByte_24 rfl (lv_at hl 3 rfl) ?_
      refine lv_icmp_gt (tgt := 32) hx hb dX12_isByte_25 (by decide) (fun k55 => ?_) (fun k55 => ?_)
      · have h56 := ib_lt k55
        have b57 : Bd a3 (-128) (126) := ⟨(ba3).1, ((rf_lt ba3 b53 h56).1).2⟩
        have b58 : Bd z51 (-127) (127) := ⟨((rf_lt ba3 b53 h56).2).1, (b53).2⟩
        refine lv_iconst (v := 0) hx hb dX12_isByte_32 (by decide) ?_
        have q59 : fld (S 0) 6 = v2.toInt := fld_of c29 rfl
        have q60 : (0 : Int32).toInt = 0 := by decide
        have hb61 := by_e (k := a1) c38 e52
        exact xrz E hr hlk hQ rfl (⟨rfl, (ib_wk (by decide : Bd 0 (0) (0)) (by decide) (by decide)), Or.inl (by omega), (by_0 (by omega))⟩) dX12_isByte_33
      · have h62 := ib_nlt k55
        refine lv_iconst (v := 1) hx hb dX12_isByte_28 (by decide) ?_
        refine lv_goto (tgt := 33) hx hb dX12_isByte_29 (by decide) ?_
        have q63 : fld (S 0) 6 = v2.toInt := fld_of c29 rfl
        have q64 : (1 : Int32).toInt = 1 := by decide
        exact xrz E hr hlk hQ rfl (⟨rfl, (ib_wk (by decide : Bd 1 (1) (1)) (by decide) (by decide)), Or.inr (by omega), (by_1 c38 (by omega) e52 (by omega) (by omega))⟩) dX12_isByte_33
set_option maxHeartbeats 4000000 in
set_option maxRecDepth 100000 in
theorem gX12_next_0 (l : Launch) (g : GG) (ad : Nat → Nat) (hD : Dj ad 20) (S : SS) (hI : InvM g ad S) (hq1 : 0 ≤ fld (S 0) 6 + (-1) * fld (S 0) 7) : Met l yX12_next (wG (.code yX12_next cX12_next 2 none)) (Rm 1) (XPre g ad 20 S [.ref (ad 0)]) (va_Qv (fun S' => InvM g ad S' ∧ (∀ j, j ∉ ([0] : List Nat) → S' j = S j) ∧ (0 ≤ fld (S' 0) 6 + (-1) * fld (S' 0) 7) ∧ (0 ≤ fld (S 0) 6 + (-1) * fld (S' 0) 6 ∧ 0 ≤ fld (S' 0) 6 + (-1) * fld (S 0) 6) ∧ (0 ≤ fld (S 0) 12 + (-1) * fld (S' 0) 12 ∧ 0 ≤ fld (S' 0) 12 + (-1) * fld (S 0) 12) ∧ (0 ≤ fld (S' 0) 7 + (-1) * fld (S 0) 7) ∧ (0 ≤ 4 * fld (S' 0) 7 + (-4) * fld (S 0) 7 + (-1) * fld (S' 0) 8)) (QB g ad 20) (FA ad 20)) 0 0 (FA ad 20) := by
  refine xmet cX12_next "EbbWreckModel" (by decide) rfl (Nat.le_of_ble_eq_true rfl) (fun p e s m below meth c E hr hlk hml hQ ls hl => ?_)
  have hx := E.1
  have hb := E.2.1
  have hs : Sp ad 20 (FA ad 20) := Sp.fa hD
  have hl : lv_has ls 2 [(0, .ref (ad 0))] := hl
  obtain ⟨v1, v2, v4, v6, v8, v9, w10, v11, v13, v14, v15, v16, v18, v20, v22, v24, v26, v27, v28, c29, b3, b5, b7, b12, b17, b19, b21, b23, b25⟩ := invM_0 hI
  have c29 : S 0 = .inr (12, [.int v1, .ref (ad 1), .ref (ad 2), .ref (ad 3), .ref (ad 4), .ref (ad 5), .int v2, .int v4, .int v6, .int v8, .int v9, .long w10, .int v11, .int v13, .int v14, .int v15, .ref (ad 6), .ref (ad 7), .ref (ad 8), .ref (ad 9), .ref (ad 10), .ref (ad 11), .ref (ad 12), .ref (ad 13), .ref (ad 14), .ref (ad 15), .int v16, .int v18, .ref (ad 16), .int v20, .int v22, .int v24, .int v26, .int v27, .ref (ad 17), .ref (ad 18), .int v28, .ref (ad 19)]) := c29
  have q30 : fld (S 0) 6 = v2.toInt := fld_of c29 rfl
  have q31 : fld (S 0) 7 = v4.toInt := fld_of c29 rfl
  have loop0 : ∀ (n : Nat) (S_0 : SS) (H : Heap) (locs : List Loc) (ls : Array Slot) (y0_0_0 : Int32) (y0_0_6 : Int32) (y0_0_7 : Int32) (y0_0_8 : Int32) (y0_0_9 : Int32) (y0_0_10 : Int32) (wy0_0_11 : Int64) (y0_0_12 : Int32) (y0_0_13 : Int32) (y0_0_14 : Int32) (y0_0_15 : Int32) (y0_0_26 : Int32) (y0_0_27 : Int32) (y0_0_29 : Int32) (y0_0_30 : Int32) (y0_0_31 : Int32) (y0_0_32 : Int32) (y0_0_33 : Int32) (y0_0_36 : Int32), Bd y0_0_6 (0) (1200) → Bd y0_0_7 (0) (1200) → Bd y0_0_8 (0) (4) → Bd y0_0_12 (0) (3) → Bd y0_0_26 (0) (11) → Bd y0_0_27 (-1) (400) → Bd y0_0_29 (0) (2) → Bd y0_0_30 (0) (11) → Bd y0_0_31 (-1) (468) → 0 ≤ y0_0_6.toInt + (-1) * y0_0_7.toInt → 0 ≤ v2.toInt + (-1) * y0_0_6.toInt → 0 ≤ y0_0_6.toInt + (-1) * v2.toInt → 0 ≤ v11.toInt + (-1) * y0_0_12.toInt → 0 ≤ y0_0_12.toInt + (-1) * v11.toInt → 0 ≤ y0_0_7.toInt + (-1) * v4.toInt → (-1) * y0_0_7.toInt + 1200 < ((n : Nat) : Int) → InvM g ad S_0 → (∀ j, j ∉ ([0] : List Nat) → S_0 j = S j) → S_0 0 = .inr (12, [.int y0_0_0, .ref (ad 1), .ref (ad 2), .ref (ad 3), .ref (ad 4), .ref (ad 5), .int y0_0_6, .int y0_0_7, .int y0_0_8, .int y0_0_9, .int y0_0_10, .long wy0_0_11, .int y0_0_12, .int y0_0_13, .int y0_0_14, .int y0_0_15, .ref (ad 6), .ref (ad 7), .ref (ad 8), .ref (ad 9), .ref (ad 10), .ref (ad 11), .ref (ad 12), .ref (ad 13), .ref (ad 14), .ref (ad 15), .int y0_0_26, .int y0_0_27, .ref (ad 16), .int y0_0_29, .int y0_0_30, .int y0_0_31, .int y0_0_32, .int y0_0_33, .ref (ad 17), .ref (ad 18), .int y0_0_36, .ref (ad 19)]) → Hp g ad 20 S_0 (FA ad 20) s.heap H locs → lv_has ls 2 [(0, .ref (ad 0))] → W p l e (Rm 1) s m [.ref (ad 0)].toArray below meth c H locs 0 0 (MQ below (va_Qv (fun S' => InvM g ad S' ∧ (∀ j, j ∉ ([0] : List Nat) → S' j = S j) ∧ (0 ≤ fld (S' 0) 6 + (-1) * fld (S' 0) 7) ∧ (0 ≤ fld (S 0) 6 + (-1) * fld (S' 0) 6 ∧ 0 ≤ fld (S' 0) 6 + (-1) * fld (S 0) 6) ∧ (0 ≤ fld (S 0) 12 + (-1) * fld (S' 0) 12 ∧ 0 ≤ fld (S' 0) 12 + (-1) * fld (S 0) 12) ∧ (0 ≤ fld (S' 0) 7 + (-1) * fld (S 0) 7) ∧ (0 ≤ 4 * fld (S' 0) 7 + (-4) * fld (S 0) 7 + (-1) * fld (S' 0) 8)) (QB g ad 20) (FA ad 20)) [.ref (ad 0)].toArray s 0 0 (FA ad 20)) (F0 m 0 ls []) := by
    intro n
    induction n with
    | zero => intro S_0 H locs ls y0_0_0 y0_0_6 y0_0_7 y0_0_8 y0_0_9 y0_0_10 wy0_0_11 y0_0_12 y0_0_13 y0_0_14 y0_0_15 y0_0_26 y0_0_27 y0_0_29 y0_0_30 y0_0_31 y0_0_32 y0_0_33 y0_0_36 By0_0_6 By0_0_7 By0_0_8 By0_0_12 By0_0_26 By0_0_27 By0_0_29 By0_0_30 By0_0_31 C0_0 C0_1 C0_2 C0_3 C0_4 C0_5 hn0_ hI hf0 cl0_0 hQ hl; exfalso; have := (By0_0_7).2; omega
    | succ n0_ ih0 =>
      intro S_0 H locs ls y0_0_0 y0_0_6 y0_0_7 y0_0_8 y0_0_9 y0_0_10 wy0_0_11 y0_0_12 y0_0_13 y0_0_14 y0_0_15 y0_0_26 y0_0_27 y0_0_29 y0_0_30 y0_0_31 y0_0_32 y0_0_33 y0_0_36 By0_0_6 By0_0_7 By0_0_8 By0_0_12 By0_0_26 By0_0_27 By0_0_29 By0_0_30 By0_0_31 C0_0 C0_1 C0_2 C0_3 C0_4 C0_5 hn0_ hI hf0 cl0_0 hQ hl
      refine lv_aload_n hx hb dX12_next_0 rfl (lv_at hl 0 rfl) ?_
      refine lv_aload_n hx hb dX12_next_1 rfl (lv_at hl 0 rfl) ?_
      refine xget E hQ 0 (by decide) cl0_0 rfl 7 (by decide) q1475 rfl dX12_next_2 ?_
      refine lv_bipush (v := 32) hx hb dX12_next_5 (by decide) ?_
      refine lv_bipush (v := 32) hx hb dX12_next_7 (by decide) ?_
      have q32 : (32 : Int32).toInt = 32 := by decide
      refine xcVi E hs hQ hml hl.1 0 (gX12_isByte_0 l g ad hD S_0 hI y0_0_7 32 32 By0_0_7 (ib_wk (by decide : Bd 32 (32) (32)) (by decide) (by decide)) (ib_wk (by decide : Bd 32 (32) (32)) (by decide) (by decide))) mX12_isByte q1641 (by decide) cl0_0 rfl rfl ⟨(Nat.le_of_ble_eq_true rfl), (Nat.le_of_ble_eq_true rfl)⟩ ⟨(Nat.le_of_ble_eq_true rfl), (Nat.le_of_ble_eq_true rfl)⟩ (Nat.le_of_ble_eq_true rfl) rfl dX12_next_9 (fun r33 S33 H locs hp33 hQ _ => ?_)
      obtain ⟨rfl, b33, g33_0, u33_0⟩ := hp33
      have q34 : fld (S_0 0) 6 = y0_0_6.toInt := fld_of cl0_0 rfl
      refine lv_if_ne (tgt := 30) hx hb dX12_next_12 (by decide) (fun k35 => ?_) (fun k35 => ?_)
      · have h36 := ib_ne k35
        have b37 : Bd r33 (1) (1) := rf_nlo b33 (by decide : Bd 0 (0) (0)) h36
        have g38 := g33_0.resolve_left (by omega)
        clear g33_0
        have b39 : Bd y0_0_6 (1) (1200) := ⟨by omega, (By0_0_6).2⟩
        have b40 : Bd y0_0_7 (0) (1199) := ⟨(By0_0_7).1, by omega⟩
        refine lv_aload_n hx hb dX12_next_30 rfl (lv_at hl 0 rfl) ?_
        refine lv_dup hx hb dX12_next_31 rfl ?_
        refine xget E hQ 0 (by decide) cl0_0 rfl 7 (by decide) q1475 rfl dX12_next_32 ?_
        refine lv_iconst (v := 1) hx hb dX12_next_35 (by decide) ?_
        refine lv_iadd hx hb dX12_next_36 ?_
        refine lv_topi (fun z41 e42 => ?_)
        have t43 := ib_add e42 b40 (by decide : Bd 1 (1) (1)) (by decide) (by decide)
        have b44 : Bd z41 (1) (1200) := ib_addb t43 b40 (by decide : Bd 1 (1) (1))
        have t43 : z41.toInt = y0_0_7.toInt + 1 := fold_add t43 rfl (by decide)
        refine xputi E hs hQ 0 (by decide) cl0_0 rfl 7 (by decide) q1475 rfl rfl (Nat.le_of_ble_eq_true rfl) dX12_next_37 (fun H locs S45 eS45 hQ => ?_)
        have hI := invM_up_0 hI eS45 ⟨y0_0_0, y0_0_6, z41, y0_0_8, y0_0_9, y0_0_10, wy0_0_11, y0_0_12, y0_0_13, y0_0_14, y0_0_15, y0_0_26, y0_0_27, y0_0_29, y0_0_30, y0_0_31, y0_0_32, y0_0_33, y0_0_36, rfl, (ib_wk b39 (by decide) (by decide)), (ib_wk b44 (by decide) (by decide)), By0_0_8, By0_0_12, By0_0_26, By0_0_27, By0_0_29, By0_0_30, By0_0_31⟩
        have c46 : S45 0 = .inr (12, [.int y0_0_0, .ref (ad 1), .ref (ad 2), .ref (ad 3), .ref (ad 4), .ref (ad 5), .int y0_0_6, .int z41, .int y0_0_8, .int y0_0_9, .int y0_0_10, .long wy0_0_11, .int y0_0_12, .int y0_0_13, .int y0_0_14, .int y0_0_15, .ref (ad 6), .ref (ad 7), .ref (ad 8), .ref (ad 9), .ref (ad 10), .ref (ad 11), .ref (ad 12), .ref (ad 13), .ref (ad 14), .ref (ad 15), .int y0_0_26, .int y0_0_27, .ref (ad 16), .int y0_0_29, .int y0_0_30, .int y0_0_31, .int y0_0_32, .int y0_0_33, .ref (ad 17), .ref (ad 18), .int y0_0_36, .ref (ad 19)]) := up_at eS45 rfl
        refine lv_goto (tgt := 0) hx hb dX12_next_40 (by decide) ?_
        exact ih0 _ _ _ _ y0_0_0 y0_0_6 z41 y0_0_8 y0_0_9 y0_0_10 wy0_0_11 y0_0_12 y0_0_13 y0_0_14 y0_0_15 y0_0_26 y0_0_27 y0_0_29 y0_0_30 y0_0_31 y0_0_32 y0_0_33 y0_0_36 (ib_wk b39 (by decide) (by decide)) (ib_wk b44 (by decide) (by decide)) By0_0_8 By0_0_12 By0_0_26 By0_0_27 By0_0_29 By0_0_30 By0_0_31 (by omega) (by omega) (by omega) (by omega) (by omega) (by omega) (by omega) hI (up_o hf0 eS45 (by decide)) c46 hQ (lv_sub hl [0] rfl)
      · have h47 := ib_eq k35
        have b48 : Bd r33 (0) (0) := ⟨(b33).1, ((rf_eq b33 (by decide : Bd 0 (0) (0)) h47).1).2⟩
        clear g33_0
        refine lv_aload_n hx hb dX12_next_15 rfl (lv_at hl 0 rfl) ?_
        refine lv_aload_n hx hb dX12_next_16 rfl (lv_at hl 0 rfl) ?_
        refine xget E hQ 0 (by decide) cl0_0 rfl 7 (by decide) q1475 rfl dX12_next_17 ?_
        refine lv_bipush (v := 10) hx hb dX12_next_20 (by decide) ?_
        refine lv_bipush (v := 10) hx hb dX12_next_22 (by decide) ?_
        have q49 : (10 : Int32).toInt = 10 := by decide
        refine xcVi E hs hQ hml hl.1 0 (gX12_isByte_0 l g ad hD S_0 hI y0_0_7 10 10 By0_0_7 (ib_wk (by decide : Bd 10 (10) (10)) (by decide) (by decide)) (ib_wk (by decide : Bd 10 (10) (10)) (by decide) (by decide))) mX12_isByte q1641 (by decide) cl0_0 rfl rfl ⟨(Nat.le_of_ble_eq_true rfl), (Nat.le_of_ble_eq_true rfl)⟩ ⟨(Nat.le_of_ble_eq_true rfl), (Nat.le_of_ble_eq_true rfl)⟩ (Nat.le_of_ble_eq_true rfl) rfl dX12_next_24 (fun r50 S50 H locs hp50 hQ _ => ?_)
        obtain ⟨rfl, b50, g50_0, u50_0⟩ := hp50
        refine lv_if_eq (tgt := 43) hx hb dX12_next_27 (by decide) (fun k51 => ?_) (fun k51 => ?_)
        · have h52 := ib_eq k51
          have b53 : Bd r50 (0) (0) := ⟨(b50).1, ((rf_eq b50 (by decide : Bd 0 (0) (0)) h52).1).2⟩
          clear g50_0
          refine lv_aload_n hx hb dX12_next_43 rfl (lv_at hl 0 rfl) ?_
          refine lv_aload_n hx hb dX12_next_44 rfl (lv_at hl 0 rfl) ?_
          refine xget E hQ 0 (by decide) cl0_0 rfl 7 (by decide) q1475 rfl dX12_next_45 ?_
          refine xputi E hs hQ 0 (by decide) cl0_0 rfl 9 (by decide) q1477 rfl rfl (Nat.le_of_ble_eq_true rfl) dX12_next_48 (fun H locs S54 eS54 hQ => ?_)
          have hI := invM_up_0 hI eS54 ⟨y0_0_0, y0_0_6, y0_0_7, y0_0_8, y0_0_7, y0_0_10, wy0_0_11, y0_0_12, y0_0_13, y0_0_14, y0_0_15, y0_0_26, y0_0_27, y0_0_29, y0_0_30, y0_0_31, y0_0_32, y0_0_33, y0_0_36, rfl, By0_0_6, By0_0_7, By0_0_8, By0_0_12, By0_0_26, By0_0_27, By0_0_29, By0_0_30, By0_0_31⟩
          have c55 : S54 0 = .inr (12, [.int y0_0_0, .ref (ad 1), .ref (ad 2), .ref (ad 3), .ref (ad 4), .ref (ad 5), .int y0_0_6, .int y0_0_7, .int y0_0_8, .int y0_0_7, .int y0_0_10, .long wy0_0_11, .int y0_0_12, .int y0_0_13, .int y0_0_14, .int y0_0_15, .ref (ad 6), .ref (ad 7), .ref (ad 8), .ref (ad 9), .ref (ad 10), .ref (ad 11), .ref (ad 12), .ref (ad 13), .ref (ad 14), .ref (ad 15), .int y0_0_26, .int y0_0_27, .ref (ad 16), .int y0_0_29, .int y0_0_30, .int y0_0_31, .int y0_0_32, .int y0_0_33, .ref (ad 17), .ref (ad 18), .int y0_0_36, .ref (ad 19)]) := up_at eS54 rfl
          refine lv_aload_n hx hb dX12_next_51 rfl (lv_at hl 0 rfl) ?_
          refine lv_iconst (v := 0) hx hb dX12_next_52 (by decide) ?_
          refine xputi E hs hQ 0 (by decide) c55 rfl 10 (by decide) q1478 rfl rfl (Nat.le_of_ble_eq_true rfl) dX12_next_53 (fun H locs S56 eS56 hQ => ?_)
          have hI := invM_up_0 hI eS56 ⟨y0_0_0, y0_0_6, y0_0_7, y0_0_8, y0_0_7, 0, wy0_0_11, y0_0_12, y0_0_13, y0_0_14, y0_0_15, y0_0_26, y0_0_27, y0_0_29, y0_0_30, y0_0_31, y0_0_32, y0_0_33, y0_0_36, rfl, By0_0_6, By0_0_7, By0_0_8, By0_0_12, By0_0_26, By0_0_27, By0_0_29, By0_0_30, By0_0_31⟩
          have c57 : S56 0 = .inr (12, [.int y0_0_0, .ref (ad 1), .ref (ad 2), .ref (ad 3), .ref (ad 4), .ref (ad 5), .int y0_0_6, .int y0_0_7, .int y0_0_8, .int y0_0_7, .int 0, .long wy0_0_11, .int y0_0_12, .int y0_0_13, .int y0_0_14, .int y0_0_15, .ref (ad 6), .ref (ad 7), .ref (ad 8), .ref (ad 9), .ref (ad 10), .ref (ad 11), .ref (ad 12), .ref (ad 13), .ref (ad 14), .ref (ad 15), .int y0_0_26, .int y0_0_27, .ref (ad 16), .int y0_0_29, .int y0_0_30, .int y0_0_31, .int y0_0_32, .int y0_0_33, .ref (ad 17), .ref (ad 18), .int y0_0_36, .ref (ad 19)]) := up_at eS56 rfl
          refine lv_aload_n hx hb dX12_next_56 rfl (lv_at hl 0 rfl) ?_
          refine lv_lconst (v := 0) hx hb dX12_next_57 (by decide) ?_
          refine xput (ty := .long) E hs hQ 0 (by decide) c57 rfl 11 (by decide) q1479 rfl (by decide +kernel) rfl rfl (Nat.le_of_ble_eq_true rfl) dX12_next_58 (fun H locs S58 eS58 hQ => ?_)
          have hI := invM_up_0 hI eS58 ⟨y0_0_0, y0_0_6, y0_0_7, y0_0_8, y0_0_7, 0, 0, y0_0_12, y0_0_13, y0_0_14, y0_0_15, y0_0_26, y0_0_27, y0_0_29, y0_0_30, y0_0_31, y0_0_32, y0_0_33, y0_0_36, rfl, By0_0_6, By0_0_7, By0_0_8, By0_0_12, By0_0_26, By0_0_27, By0_0_29, By0_0_30, By0_0_31⟩
          have c59 : S58 0 = .inr (12, [.int y0_0_0, .ref (ad 1), .ref (ad 2), .ref (ad 3), .ref (ad 4), .ref (ad 5), .int y0_0_6, .int y0_0_7, .int y0_0_8, .int y0_0_7, .int 0, .long 0, .int y0_0_12, .int y0_0_13, .int y0_0_14, .int y0_0_15, .ref (ad 6), .ref (ad 7), .ref (ad 8), .ref (ad 9), .ref (ad 10), .ref (ad 11), .ref (ad 12), .ref (ad 13), .ref (ad 14), .ref (ad 15), .int y0_0_26, .int y0_0_27, .ref (ad 16), .int y0_0_29, .int y0_0_30, .int y0_0_31, .int y0_0_32, .int y0_0_33, .ref (ad 17), .ref (ad 18), .int y0_0_36, .ref (ad 19)]) := up_at eS58 rfl
          refine lv_aload_n hx hb dX12_next_61 rfl (lv_at hl 0 rfl) ?_
          refine xget E hQ 0 (by decide) c59 rfl 7 (by decide) q1475 rfl dX12_next_62 ?_
          refine lv_aload_n hx hb dX12_next_65 rfl (lv_at hl 0 rfl) ?_
          refine xget E hQ 0 (by decide) c59 rfl 6 (by decide) q1474 rfl dX12_next_66 ?_
          refine lv_icmp_ne (tgt := 80) hx hb dX12_next_69 (by decide) (fun k60 => ?_) (fun k60 => ?_)
          · have h61 := ib_ne k60
            refine lv_aload_n hx hb dX12_next_80 rfl (lv_at hl 0 rfl) ?_
            refine lv_aload_n hx hb dX12_next_81 rfl (lv_at hl 0 rfl) ?_
            refine xget E hQ 0 (by decide) c59 rfl 7 (by decide) q1475 rfl dX12_next_82 ?_
            refine lv_bipush (v := 97) hx hb dX12_next_85 (by decide) ?_
            refine lv_bipush (v := 122) hx hb dX12_next_87 (by decide) ?_
            have q62 : (97 : Int32).toInt = 97 := by decide
            have q63 : (122 : Int32).toInt = 122 := by decide
            refine xcVi E hs hQ hml hl.1 0 (gX12_isByte_0 l g ad hD S58 hI y0_0_7 97 122 By0_0_7 (ib_wk (by decide : Bd 97 (97) (97)) (by decide) (by decide)) (ib_wk (by decide : Bd 122 (122) (122)) (by decide) (by decide))) mX12_isByte q1641 (by decide) c59 rfl rfl ⟨(Nat.le_of_ble_eq_true rfl), (Nat.le_of_ble_eq_true rfl)⟩ ⟨(Nat.le_of_ble_eq_true rfl), (Nat.le_of_ble_eq_true rfl)⟩ (Nat.le_of_ble_eq_true rfl) rfl dX12_next_89 (fun r64 S64 H locs hp64 hQ _ => ?_)
            obtain ⟨rfl, b64, g64_0, u64_0⟩ := hp64
            have q65 : fld (S58 0) 6 = y0_0_6.toInt := fld_of c59 rfl
            refine lv_if_eq (tgt := 188) hx hb dX12_next_92 (by decide) (fun k66 => ?_) (fun k66 => ?_)
            · have h67 := ib_eq k66
              have b68 : Bd r64 (0) (0) := ⟨(b64).1, ((rf_eq b64 (by decide : Bd 0 (0) (0)) h67).1).2⟩
              clear g64_0
              refine lv_aload_n hx hb dX12_next_188 rfl (lv_at hl 0 rfl) ?_
              refine lv_aload_n hx hb dX12_next_189 rfl (lv_at hl 0 rfl) ?_
              refine xget E hQ 0 (by decide) c59 rfl 7 (by decide) q1475 rfl dX12_next_190 ?_
              refine lv_bipush (v := 48) hx hb dX12_next_193 (by decide) ?_
              refine lv_bipush (v := 57) hx hb dX12_next_195 (by decide) ?_
              have q69 : (48 : Int32).toInt = 48 := by decide
              have q70 : (57 : Int32).toInt = 57 := by decide
              refine xcVi E hs hQ hml hl.1 0 (gX12_isByte_0 l g ad hD S58 hI y0_0_7 48 57 By0_0_7 (ib_wk (by decide : Bd 48 (48) (48)) (by decide) (by decide)) (ib_wk (by decide : Bd 57 (57) (57)) (by decide) (by decide))) mX12_isByte q1641 (by decide) c59 rfl rfl ⟨(Nat.le_of_ble_eq_true rfl), (Nat.le_of_ble_eq_true rfl)⟩ ⟨(Nat.le_of_ble_eq_true rfl), (Nat.le_of_ble_eq_true rfl)⟩ (Nat.le_of_ble_eq_true rfl) rfl dX12_next_197 (fun r71 S71 H locs hp71 hQ _ => ?_)
              obtain ⟨rfl, b71, g71_0, u71_0⟩ := hp71
              refine lv_if_eq (tgt := 274) hx hb dX12_next_200 (by decide) (fun k72 => ?_) (fun k72 => ?_)
              · have h73 := ib_eq k72
                have b74 : Bd r71 (0) (0) := ⟨(b71).1, ((rf_eq b71 (by decide : Bd 0 (0) (0)) h73).1).2⟩
                clear g71_0
                refine lv_aload_n hx hb dX12_next_274 rfl (lv_at hl 0 rfl) ?_
                refine lv_aload_n hx hb dX12_next_275 rfl (lv_at hl 0 rfl) ?_
                refine xget E hQ 0 (by decide) c59 rfl 5 (by decide) q1473 rfl dX12_next_276 ?_
                refine lv_aload_n hx hb dX12_next_279 rfl (lv_at hl 0 rfl) ?_
                refine xget E hQ 0 (by decide) c59 rfl 7 (by decide) q1475 rfl dX12_next_280 ?_
                obtain ⟨f75, c76, b77⟩ := invM_5 hI
                refine xbald E hQ 5 (by decide) c76 (ib_inx (n := 1200) (by omega) (by omega)) dX12_next_283 ?_
                refine lv_topi (fun z78 e79 => ?_)
                have b80 : Bd z78 (-128) (127) := (by rw [e79]; exact b77 _)
                refine lv_bipush (v := 59) hx hb dX12_next_284 (by decide) ?_
                refine lv_icmp_ne (tgt := 293) hx hb dX12_next_286 (by decide) (fun k81 => ?_) (fun k81 => ?_)
                · have h82 := ib_ne k81
                  refine lv_iconst (v := 4) hx hb dX12_next_293 (by decide) ?_
                  refine xputi E hs hQ 0 (by decide) c59 rfl 8 (by decide) q1476 rfl rfl (Nat.le_of_ble_eq_true rfl) dX12_next_294 (fun H locs S83 eS83 hQ => ?_)
                  have hI := invM_up_0 hI eS83 ⟨y0_0_0, y0_0_6, y0_0_7, 4, y0_0_7, 0, 0, y0_0_12, y0_0_13, y0_0_14, y0_0_15, y0_0_26, y0_0_27, y0_0_29, y0_0_30, y0_0_31, y0_0_32, y0_0_33, y0_0_36, rfl, By0_0_6, By0_0_7, (ib_wk (by decide : Bd 4 (4) (4)) (by decide) (by decide)), By0_0_12, By0_0_26, By0_0_27, By0_0_29, By0_0_30, By0_0_31⟩
                  have c84 : S83 0 = .inr (12, [.int y0_0_0, .ref (ad 1), .ref (ad 2), .ref (ad 3), .ref (ad 4), .ref (ad 5), .int y0_0_6, .int y0_0_7, .int 4, .int y0_0_7, .int 0, .long 0, .int y0_0_12, .int y0_0_13, .int y0_0_14, .int y0_0_15, .ref (ad 6), .ref (ad 7), .ref (ad 8), .ref (ad 9), .ref (ad 10), .ref (ad 11), .ref (ad 12), .ref (ad 13), .ref (ad 14), .ref (ad 15), .int y0_0_26, .int y0_0_27, .ref (ad 16), .int y0_0_29, .int y0_0_30, .int y0_0_31, .int y0_0_32, .int y0_0_33, .ref (ad 17), .ref (ad 18), .int y0_0_36, .ref (ad 19)]) := up_at eS83 rfl
                  refine lv_aload_n hx hb dX12_next_297 rfl (lv_at hl 0 rfl) ?_
                  refine lv_dup hx hb dX12_next_298 rfl ?_
                  refine xget E hQ 0 (by decide) c84 rfl 7 (by decide) q1475 rfl dX12_next_299 ?_
                  refine lv_iconst (v := 1) hx hb dX12_next_302 (by decide) ?_
                  refine lv_iadd hx hb dX12_next_303 ?_
                  refine lv_topi (fun z85 e86 => ?_)
                  have t87 := ib_add e86 By0_0_7 (by decide : Bd 1 (1) (1)) (by decide) (by decide)
                  have b88 : Bd z85 (1) (1201) := ib_addb t87 By0_0_7 (by decide : Bd 1 (1) (1))
                  have t87 : z85.toInt = y0_0_7.toInt + 1 := fold_add t87 rfl (by decide)
                  refine xputi E hs hQ 0 (by decide) c84 rfl 7 (by decide) q1475 rfl rfl (Nat.le_of_ble_eq_true rfl) dX12_next_304 (fun H locs S89 eS89 hQ => ?_)
                  have hI := invM_up_0 hI eS89 ⟨y0_0_0, y0_0_6, z85, 4, y0_0_7, 0, 0, y0_0_12, y0_0_13, y0_0_14, y0_0_15, y0_0_26, y0_0_27, y0_0_29, y0_0_30, y0_0_31, y0_0_32, y0_0_33, y0_0_36, rfl, By0_0_6, (⟨by omega, by omega⟩ : Bd z85 (0) (1200)), (ib_wk (by decide : Bd 4 (4) (4)) (by decide) (by decide)), By0_0_12, By0_0_26, By0_0_27, By0_0_29, By0_0_30, By0_0_31⟩
                  have c90 : S89 0 = .inr (12, [.int y0_0_0, .ref (ad 1), .ref (ad 2), .ref (ad 3), .ref (ad 4), .ref (ad 5), .int y0_0_6, .int z85, .int 4, .int y0_0_7, .int 0, .long 0, .int y0_0_12, .int y0_0_13, .int y0_0_14, .int y0_0_15, .ref (ad 6), .ref (ad 7), .ref (ad 8), .ref (ad 9), .ref (ad 10), .ref (ad 11), .ref (ad 12), .ref (ad 13), .ref (ad 14), .ref (ad 15), .int y0_0_26, .int y0_0_27, .ref (ad 16), .int y0_0_29, .int y0_0_30, .int y0_0_31, .int y0_0_32, .int y0_0_33, .ref (ad 17), .ref (ad 18), .int y0_0_36, .ref (ad 19)]) := up_at eS89 rfl
                  have q91 : fld (S89 0) 6 = y0_0_6.toInt := fld_of c90 rfl
                  have q92 : fld (S89 0) 7 = z85.toInt := fld_of c90 rfl
                  have q93 : fld (S 0) 12 = v11.toInt := fld_of c29 rfl
                  have q94 : fld (S89 0) 12 = y0_0_12.toInt := fld_of c90 rfl
                  have q95 : fld (S89 0) 8 = (4 : Int32).toInt := fld_of c90 rfl
                  have q95 : fld (S89 0) 8 = 4 := q95.trans (by decide)
                  exact xrv E hr hlk hQ (⟨hI, (up_o (up_o (up_o (up_o (up_o (o_trans o_refl hf0 (by decide)) eS54 (by decide)) eS56 (by decide)) eS58 (by decide)) eS83 (by decide)) eS89 (by decide)), (by omega), ⟨by omega, by omega⟩, ⟨by omega, by omega⟩, (by omega), (by omega)⟩) dX12_next_307
                · have h96 := ib_eq k81
                  have b97 : Bd z78 (59) (59) := ⟨((rf_eq b80 (by decide : Bd 59 (59) (59)) h96).1).1, ((rf_eq b80 (by decide : Bd 59 (59) (59)) h96).1).2⟩
                  refine lv_iconst (v := 3) hx hb dX12_next_289 (by decide) ?_
                  refine lv_goto (tgt := 294) hx hb dX12_next_290 (by decide) ?_
                  refine xputi E hs hQ 0 (by decide) c59 rfl 8 (by decide) q1476 rfl rfl (Nat.le_of_ble_eq_true rfl) dX12_next_294 (fun H locs S98 eS98 hQ => ?_)
                  have hI := invM_up_0 hI eS98 ⟨y0_0_0, y0_0_6, y0_0_7, 3, y0_0_7, 0, 0, y0_0_12, y0_0_13, y0_0_14, y0_0_15, y0_0_26, y0_0_27, y0_0_29, y0_0_30, y0_0_31, y0_0_32, y0_0_33, y0_0_36, rfl, By0_0_6, By0_0_7, (ib_wk (by decide : Bd 3 (3) (3)) (by decide) (by decide)), By0_0_12, By0_0_26, By0_0_27, By0_0_29, By0_0_30, By0_0_31⟩
                  have c99 : S98 0 = .inr (12, [.int y0_0_0, .ref (ad 1), .ref (ad 2), .ref (ad 3), .ref (ad 4), .ref (ad 5), .int y0_0_6, .int y0_0_7, .int 3, .int y0_0_7, .int 0, .long 0, .int y0_0_12, .int y0_0_13, .int y0_0_14, .int y0_0_15, .ref (ad 6), .ref (ad 7), .ref (ad 8), .ref (ad 9), .ref (ad 10), .ref (ad 11), .ref (ad 12), .ref (ad 13), .ref (ad 14), .ref (ad 15), .int y0_0_26, .int y0_0_27, .ref (ad 16), .int y0_0_29, .int y0_0_30, .int y0_0_31, .int y0_0_32, .int y0_0_33, .ref (ad 17), .ref (ad 18), .int y0_0_36, .ref (ad 19)]) := up_at eS98 rfl
                  refine lv_aload_n hx hb dX12_next_297 rfl (lv_at hl 0 rfl) ?_
                  refine lv_dup hx hb dX12_next_298 rfl ?_
                  refine xget E hQ 0 (by decide) c99 rfl 7 (by decide) q1475 rfl dX12_next_299 ?_
                  refine lv_iconst (v := 1) hx hb dX12_next_302 (by decide) ?_
                  refine lv_iadd hx hb dX12_next_303 ?_
                  refine lv_topi (fun z100 e101 => ?_)
                  have t102 := ib_add e101 By0_0_7 (by decide : Bd 1 (1) (1)) (by decide) (by decide)
                  have b103 : Bd z100 (1) (1201) := ib_addb t102 By0_0_7 (by decide : Bd 1 (1) (1))
                  have t102 : z100.toInt = y0_0_7.toInt + 1 := fold_add t102 rfl (by decide)
                  refine xputi E hs hQ 0 (by decide) c99 rfl 7 (by decide) q1475 rfl rfl (Nat.le_of_ble_eq_true rfl) dX12_next_304 (fun H locs S104 eS104 hQ => ?_)
                  have hI := invM_up_0 hI eS104 ⟨y0_0_0, y0_0_6, z100, 3, y0_0_7, 0, 0, y0_0_12, y0_0_13, y0_0_14, y0_0_15, y0_0_26, y0_0_27, y0_0_29, y0_0_30, y0_0_31, y0_0_32, y0_0_33, y0_0_36, rfl, By0_0_6, (⟨by omega, by omega⟩ : Bd z100 (0) (1200)), (ib_wk (by decide : Bd 3 (3) (3)) (by decide) (by decide)), By0_0_12, By0_0_26, By0_0_27, By0_0_29, By0_0_30, By0_0_31⟩
                  have c105 : S104 0 = .inr (12, [.int y0_0_0, .ref (ad 1), .ref (ad 2), .ref (ad 3), .ref (ad 4), .ref (ad 5), .int y0_0_6, .int z100, .int 3, .int y0_0_7, .int 0, .long 0, .int y0_0_12, .int y0_0_13, .int y0_0_14, .int y0_0_15, .ref (ad 6), .ref (ad 7), .ref (ad 8), .ref (ad 9), .ref (ad 10), .ref (ad 11), .ref (ad 12), .ref (ad 13), .ref (ad 14), .ref (ad 15), .int y0_0_26, .int y0_0_27, .ref (ad 16), .int y0_0_29, .int y0_0_30, .int y0_0_31, .int y0_0_32, .int y0_0_33, .ref (ad 17), .ref (ad 18), .int y0_0_36, .ref (ad 19)]) := up_at eS104 rfl
                  have q106 : fld (S104 0) 6 = y0_0_6.toInt := fld_of c105 rfl
                  have q107 : fld (S104 0) 7 = z100.toInt := fld_of c105 rfl
                  have q108 : fld (S 0) 12 = v11.toInt := fld_of c29 rfl
                  have q109 : fld (S104 0) 12 = y0_0_12.toInt := fld_of c105 rfl
                  have q110 : fld (S104 0) 8 = (3 : Int32).toInt := fld_of c105 rfl
                  have q110 : fld (S104 0) 8 = 3 := q110.trans (by decide)
                  exact xrv E hr hlk hQ (⟨hI, (up_o (up_o (up_o (up_o (up_o (o_trans o_refl hf0 (by decide)) eS54 (by decide)) eS56 (by decide)) eS58 (by decide)) eS98 (by decide)) eS104 (by decide)), (by omega), ⟨by omega, by omega⟩, ⟨by omega, by omega⟩, (by omega), (by omega)⟩) dX12_next_307
              · have h111 := ib_ne k72
                have b112 : Bd r71 (1) (1) := rf_nlo b71 (by decide : Bd 0 (0) (0)) h111
                have g113 := g71_0.resolve_left (by omega)
                clear g71_0
                have b114 : Bd y0_0_6 (1) (1200) := ⟨by omega, (By0_0_6).2⟩
                have b115 : Bd y0_0_7 (0) (1199) := ⟨(By0_0_7).1, by omega⟩
                refine lv_aload_n hx hb dX12_next_203 rfl (lv_at hl 0 rfl) ?_
                refine lv_iconst (v := 2) hx hb dX12_next_204 (by decide) ?_
                refine xputi E hs hQ 0 (by decide) c59 rfl 8 (by decide) q1476 rfl rfl (Nat.le_of_ble_eq_true rfl) dX12_next_205 (fun H locs S116 eS116 hQ => ?_)
                have hI := invM_up_0 hI eS116 ⟨y0_0_0, y0_0_6, y0_0_7, 2, y0_0_7, 0, 0, y0_0_12, y0_0_13, y0_0_14, y0_0_15, y0_0_26, y0_0_27, y0_0_29, y0_0_30, y0_0_31, y0_0_32, y0_0_33, y0_0_36, rfl, (ib_wk b114 (by decide) (by decide)), (ib_wk b115 (by decide) (by decide)), (ib_wk (by decide : Bd 2 (2) (2)) (by decide) (by decide)), By0_0_12, By0_0_26, By0_0_27, By0_0_29, By0_0_30, By0_0_31⟩
                have c117 : S116 0 = .inr (12, [.int y0_0_0, .ref (ad 1), .ref (ad 2), .ref (ad 3), .ref (ad 4), .ref (ad 5), .int y0_0_6, .int y0_0_7, .int 2, .int y0_0_7, .int 0, .long 0, .int y0_0_12, .int y0_0_13, .int y0_0_14, .int y0_0_15, .ref (ad 6), .ref (ad 7), .ref (ad 8), .ref (ad 9), .ref (ad 10), .ref (ad 11), .ref (ad 12), .ref (ad 13), .ref (ad 14), .ref (ad 15), .int y0_0_26, .int y0_0_27, .ref (ad 16), .int y0_0_29, .int y0_0_30, .int y0_0_31, .int y0_0_32, .int y0_0_33, .ref (ad 17), .ref (ad 18), .int y0_0_36, .ref (ad 19)]) := up_at eS116 rfl
                have loop208 : ∀ (n : Nat) (S_208 : SS) (H : Heap) (locs : List Loc) (ls : Array Slot) (y208_0_0 : Int32) (y208_0_6 : Int32) (y208_0_7 : Int32) (y208_0_8 : Int32) (y208_0_9 : Int32) (y208_0_10 : Int32) (wy208_0_11 : Int64) (y208_0_12 : Int32) (y208_0_13 : Int32) (y208_0_14 : Int32) (y208_0_15 : Int32) (y208_0_26 : Int32) (y208_0_27 : Int32) (y208_0_29 : Int32) (y208_0_30 : Int32) (y208_0_31 : Int32) (y208_0_32 : Int32) (y208_0_33 : Int32) (y208_0_36 : Int32), Bd y208_0_6 (1) (1200) → Bd y208_0_7 (0) (1200) → Bd y208_0_8 (2) (2) → Bd y208_0_9 (0) (1199) → Bd y208_0_12 (0) (3) → Bd y208_0_26 (0) (11) → Bd y208_0_27 (-1) (400) → Bd y208_0_29 (0) (2) → Bd y208_0_30 (0) (11) → Bd y208_0_31 (-1) (468) → 0 ≤ y208_0_6.toInt + (-1) * y208_0_7.toInt → 0 ≤ v2.toInt + (-1) * y208_0_6.toInt → 0 ≤ y208_0_6.toInt + (-1) * v2.toInt → 0 ≤ v11.toInt + (-1) * y208_0_12.toInt → 0 ≤ y208_0_12.toInt + (-1) * v11.toInt → 0 ≤ y208_0_7.toInt + (-1) * y208_0_9.toInt → 0 ≤ y208_0_9.toInt + (-1) * v4.toInt → 0 ≤ (-1) * y208_0_8.toInt + 2 → 0 ≤ y208_0_8.toInt + (-2) → (-1) * y208_0_7.toInt + 1200 < ((n : Nat) : Int) → InvM g ad S_208 → (∀ j, j ∉ ([0] : List Nat) → S_208 j = S116 j) → S_208 0 = .inr (12, [.int y208_0_0, .ref (ad 1), .ref (ad 2), .ref (ad 3), .ref (ad 4), .ref (ad 5), .int y208_0_6, .int y208_0_7, .int y208_0_8, .int y208_0_9, .int y208_0_10, .long wy208_0_11, .int y208_0_12, .int y208_0_13, .int y208_0_14, .int y208_0_15, .ref (ad 6), .ref (ad 7), .ref (ad 8), .ref (ad 9), .ref (ad 10), .ref (ad 11), .ref (ad 12), .ref (ad 13), .ref (ad 14), .ref (ad 15), .int y208_0_26, .int y208_0_27, .ref (ad 16), .int y208_0_29, .int y208_0_30, .int y208_0_31, .int y208_0_32, .int y208_0_33, .ref (ad 17), .ref (ad 18), .int y208_0_36, .ref (ad 19)]) → (y208_0_9.toInt + 1 ≤ y208_0_7.toInt ∨ byF y208_0_6.toInt (S_208 5) y208_0_7 48 57 = 1) → Hp g ad 20 S_208 (FA ad 20) s.heap H locs → lv_has ls 2 [(0, .ref (ad 0))] → W p l e (Rm 1) s m [.ref (ad 0)].toArray below meth c H locs 0 0 (MQ below (va_Qv (fun S' => InvM g ad S' ∧ (∀ j, j ∉ ([0] : List Nat) → S' j = S j) ∧ (0 ≤ fld (S' 0) 6 + (-1) * fld (S' 0) 7) ∧ (0 ≤ fld (S 0) 6 + (-1) * fld (S' 0) 6 ∧ 0 ≤ fld (S' 0) 6 + (-1) * fld (S 0) 6) ∧ (0 ≤ fld (S 0) 12 + (-1) * fld (S' 0) 12 ∧ 0 ≤ fld (S' 0) 12 + (-1) * fld (S 0) 12) ∧ (0 ≤ fld (S' 0) 7 + (-1) * fld (S 0) 7) ∧ (0 ≤ 4 * fld (S' 0) 7 + (-4) * fld (S 0) 7 + (-1) * fld (S' 0) 8)) (QB g ad 20) (FA ad 20)) [.ref (ad 0)].toArray s 0 0 (FA ad 20)) (F0 m 208 ls []) := by
                  intro n
                  induction n with
                  | zero => intro S_208 H locs ls y208_0_0 y208_0_6 y208_0_7 y208_0_8 y208_0_9 y208_0_10 wy208_0_11 y208_0_12 y208_0_13 y208_0_14 y208_0_15 y208_0_26 y208_0_27 y208_0_29 y208_0_30 y208_0_31 y208_0_32 y208_0_33 y208_0_36 By208_0_6 By208_0_7 By208_0_8 By208_0_9 By208_0_12 By208_0_26 By208_0_27 By208_0_29 By208_0_30 By208_0_31 C208_0 C208_1 C208_2 C208_3 C208_4 C208_5 C208_6 C208_7 C208_8 hn208_ hI hf208 cl208_0 hC208 hQ hl; exfalso; have := (By208_0_7).2; omega
                  | succ n208_ ih208 =>
                    intro S_208 H locs ls y208_0_0 y208_0_6 y208_0_7 y208_0_8 y208_0_9 y208_0_10 wy208_0_11 y208_0_12 y208_0_13 y208_0_14 y208_0_15 y208_0_26 y208_0_27 y208_0_29 y208_0_30 y208_0_31 y208_0_32 y208_0_33 y208_0_36 By208_0_6 By208_0_7 By208_0_8 By208_0_9 By208_0_12 By208_0_26 By208_0_27 By208_0_29 By208_0_30 By208_0_31 C208_0 C208_1 C208_2 C208_3 C208_4 C208_5 C208_6 C208_7 C208_8 hn208_ hI hf208 cl208_0 hC208 hQ hl
                    refine lv_aload_n hx hb dX12_next_208 rfl (lv_at hl 0 rfl) ?_
                    refine lv_aload_n hx hb dX12_next_209 rfl (lv_at hl 0 rfl) ?_
                    refine xget E hQ 0 (by decide) cl208_0 rfl 7 (by decide) q1475 rfl dX12_next_210 ?_
                    refine lv_bipush (v := 48) hx hb dX12_next_213 (by decide) ?_
                    refine lv_bipush (v := 57) hx hb dX12_next_215 (by decide) ?_
                    refine xcVi E hs hQ hml hl.1 0 (gX12_isByte_0 l g ad hD S_208 hI y208_0_7 48 57 By208_0_7 (ib_wk (by decide : Bd 48 (48) (48)) (by decide) (by decide)) (ib_wk (by decide : Bd 57 (57) (57)) (by decide) (by decide))) mX12_isByte q1641 (by decide) cl208_0 rfl rfl ⟨(Nat.le_of_ble_eq_true rfl), (Nat.le_of_ble_eq_true rfl)⟩ ⟨(Nat.le_of_ble_eq_true rfl), (Nat.le_of_ble_eq_true rfl)⟩ (Nat.le_of_ble_eq_true rfl) rfl dX12_next_217 (fun r118 S118 H locs hp118 hQ _ => ?_)
                    obtain ⟨rfl, b118, g118_0, u118_0⟩ := hp118
                    have q119 : fld (S_208 0) 6 = y208_0_6.toInt := fld_of cl208_0 rfl
                    refine lv_if_eq (tgt := 307) hx hb dX12_next_220 (by decide) (fun k120 => ?_) (fun k120 => ?_)
                    · have h121 := ib_eq k120
                      have b122 : Bd r118 (0) (0) := ⟨(b118).1, ((rf_eq b118 (by decide : Bd 0 (0) (0)) h121).1).2⟩
                      clear g118_0
                      have pr123 : y208_0_9.toInt + 1 ≤ y208_0_7.toInt := by
                        rcases hC208 with h | h
                        · exact h
                        · exact (by_n (u118_0.trans (by rw [q119])) rfl b122 h).elim
                      have q124 : fld (S_208 0) 7 = y208_0_7.toInt := fld_of cl208_0 rfl
                      have q125 : fld (S 0) 12 = v11.toInt := fld_of c29 rfl
                      have q126 : fld (S_208 0) 12 = y208_0_12.toInt := fld_of cl208_0 rfl
                      have q127 : fld (S_208 0) 8 = y208_0_8.toInt := fld_of cl208_0 rfl
                      exact xrv E hr hlk hQ (⟨hI, (o_trans (up_o (up_o (up_o (up_o (o_trans o_refl hf0 (by decide)) eS54 (by decide)) eS56 (by decide)) eS58 (by decide)) eS116 (by decide)) hf208 (by decide)), (by omega), ⟨by omega, by omega⟩, ⟨by omega, by omega⟩, (by omega), (by omega)⟩) dX12_next_307
                    · have h128 := ib_ne k120
                      have b129 : Bd r118 (1) (1) := rf_nlo b118 (by decide : Bd 0 (0) (0)) h128
                      have g130 := g118_0.resolve_left (by omega)
                      clear g118_0
                      have b131 : Bd y208_0_7 (0) (1199) := ⟨(By208_0_7).1, by omega⟩
                      refine lv_aload_n hx hb dX12_next_223 rfl (lv_at hl 0 rfl) ?_
                      refine lv_aload_n hx hb dX12_next_224 rfl (lv_at hl 0 rfl) ?_
                      refine xget E hQ 0 (by decide) cl208_0 rfl 10 (by decide) q1478 rfl dX12_next_225 ?_
                      refine lv_ldc (v := 100000) hx hb E.2.2.1 (E.2.2.2.1 _ q1648) dX12_next_228 ?_
                      refine lv_icmp_le (tgt := 238) hx hb dX12_next_230 (by decide) (fun k132 => ?_) (fun k132 => ?_)
                      · have h133 := ib_le k132
                        have b134 : Bd y208_0_10 (-2147483648) (100000) := ⟨((ib_full y208_0_10)).1, ((rf_le (ib_full y208_0_10) (by decide : Bd 100000 (100000) (100000)) h133).1).2⟩
                        refine lv_bipush (v := 10) hx hb dX12_next_238 (by decide) ?_
                        refine lv_aload_n hx hb dX12_next_240 rfl (lv_at hl 0 rfl) ?_
                        refine xget E hQ 0 (by decide) cl208_0 rfl 10 (by decide) q1478 rfl dX12_next_241 ?_
                        refine lv_imul hx hb dX12_next_244 ?_
                        refine lv_topi (fun z135 e136 => ?_)
                        refine lv_aload_n hx hb dX12_next_245 rfl (lv_at hl 0 rfl) ?_
                        refine xget E hQ 0 (by decide) cl208_0 rfl 5 (by decide) q1473 rfl dX12_next_246 ?_
                        refine lv_aload_n hx hb dX12_next_249 rfl (lv_at hl 0 rfl) ?_
                        refine xget E hQ 0 (by decide) cl208_0 rfl 7 (by decide) q1475 rfl dX12_next_250 ?_
                        obtain ⟨f137, c138, b139⟩ := invM_5 hI
                        refine xbald E hQ 5 (by decide) c138 (ib_in b131 (by decide) (by decide)) dX12_next_253 ?_
                        refine lv_topi (fun z140 e141 => ?_)
                        have b142 : Bd z140 (-128) (127) := (by rw [e141]; exact b139 _)
                        refine lv_iadd hx hb dX12_next_254 ?_
                        refine lv_topi (fun z143 e144 => ?_)
                        refine lv_bipush (v := 48) hx hb dX12_next_255 (by decide) ?_
                        refine lv_isub hx hb dX12_next_257 ?_
                        refine lv_topi (fun z145 e146 => ?_)
                        refine xputi E hs hQ 0 (by decide) cl208_0 rfl 10 (by decide) q1478 rfl rfl (Nat.le_of_ble_eq_true rfl) dX12_next_258 (fun H locs S147 eS147 hQ => ?_)
                        have hI := invM_up_0 hI eS147 ⟨y208_0_0, y208_0_6, y208_0_7, y208_0_8, y208_0_9, z145, wy208_0_11, y208_0_12, y208_0_13, y208_0_14, y208_0_15, y208_0_26, y208_0_27, y208_0_29, y208_0_30, y208_0_31, y208_0_32, y208_0_33, y208_0_36, rfl, (ib_wk By208_0_6 (by decide) (by decide)), (ib_wk b131 (by decide) (by decide)), (ib_wk By208_0_8 (by decide) (by decide)), By208_0_12, By208_0_26, By208_0_27, By208_0_29, By208_0_30, By208_0_31⟩
                        have c148 : S147 0 = .inr (12, [.int y208_0_0, .ref (ad 1), .ref (ad 2), .ref (ad 3), .ref (ad 4), .ref (ad 5), .int y208_0_6, .int y208_0_7, .int y208_0_8, .int y208_0_9, .int z145, .long wy208_0_11, .int y208_0_12, .int y208_0_13, .int y208_0_14, .int y208_0_15, .ref (ad 6), .ref (ad 7), .ref (ad 8), .ref (ad 9), .ref (ad 10), .ref (ad 11), .ref (ad 12), .ref (ad 13), .ref (ad 14), .ref (ad 15), .int y208_0_26, .int y208_0_27, .ref (ad 16), .int y208_0_29, .int y208_0_30, .int y208_0_31, .int y208_0_32, .int y208_0_33, .ref (ad 17), .ref (ad 18), .int y208_0_36, .ref (ad 19)]) := up_at eS147 rfl
                        refine lv_aload_n hx hb dX12_next_261 rfl (lv_at hl 0 rfl) ?_
                        refine lv_dup hx hb dX12_next_262 rfl ?_
                        refine xget E hQ 0 (by decide) c148 rfl 7 (by decide) q1475 rfl dX12_next_263 ?_
                        refine lv_iconst (v := 1) hx hb dX12_next_266 (by decide) ?_
                        refine lv_iadd hx hb dX12_next_267 ?_
                        refine lv_topi (fun z149 e150 => ?_)
                        have t151 := ib_add e150 b131 (by decide : Bd 1 (1) (1)) (by decide) (by decide)
                        have b152 : Bd z149 (1) (1200) := ib_addb t151 b131 (by decide : Bd 1 (1) (1))
                        have t151 : z149.toInt = y208_0_7.toInt + 1 := fold_add t151 rfl (by decide)
                        refine xputi E hs hQ 0 (by decide) c148 rfl 7 (by decide) q1475 rfl rfl (Nat.le_of_ble_eq_true rfl) dX12_next_268 (fun H locs S153 eS153 hQ => ?_)
                        have hI := invM_up_0 hI eS153 ⟨y208_0_0, y208_0_6, z149, y208_0_8, y208_0_9, z145, wy208_0_11, y208_0_12, y208_0_13, y208_0_14, y208_0_15, y208_0_26, y208_0_27, y208_0_29, y208_0_30, y208_0_31, y208_0_32, y208_0_33, y208_0_36, rfl, (ib_wk By208_0_6 (by decide) (by decide)), (ib_wk b152 (by decide) (by decide)), (ib_wk By208_0_8 (by decide) (by decide)), By208_0_12, By208_0_26, By208_0_27, By208_0_29, By208_0_30, By208_0_31⟩
                        have c154 : S153 0 = .inr (12, [.int y208_0_0, .ref (ad 1), .ref (ad 2), .ref (ad 3), .ref (ad 4), .ref (ad 5), .int y208_0_6, .int z149, .int y208_0_8, .int y208_0_9, .int z145, .long wy208_0_11, .int y208_0_12, .int y208_0_13, .int y208_0_14, .int y208_0_15, .ref (ad 6), .ref (ad 7), .ref (ad 8), .ref (ad 9), .ref (ad 10), .ref (ad 11), .ref (ad 12), .ref (ad 13), .ref (ad 14), .ref (ad 15), .int y208_0_26, .int y208_0_27, .ref (ad 16), .int y208_0_29, .int y208_0_30, .int y208_0_31, .int y208_0_32, .int y208_0_33, .ref (ad 17), .ref (ad 18), .int y208_0_36, .ref (ad 19)]) := up_at eS153 rfl
                        refine lv_goto (tgt := 208) hx hb dX12_next_271 (by decide) ?_
                        exact ih208 _ _ _ _ y208_0_0 y208_0_6 z149 y208_0_8 y208_0_9 z145 wy208_0_11 y208_0_12 y208_0_13 y208_0_14 y208_0_15 y208_0_26 y208_0_27 y208_0_29 y208_0_30 y208_0_31 y208_0_32 y208_0_33 y208_0_36 By208_0_6 (ib_wk b152 (by decide) (by decide)) By208_0_8 By208_0_9 By208_0_12 By208_0_26 By208_0_27 By208_0_29 By208_0_30 By208_0_31 (by omega) (by omega) (by omega) (by omega) (by omega) (by omega) (by omega) (by omega) (by omega) (by omega) hI (up_o (up_o hf208 eS147 (by decide)) eS153 (by decide)) c154 (Or.inl (by omega)) hQ (lv_sub hl [0] rfl)
                      · have h155 := ib_nle k132
                        have b156 : Bd y208_0_10 (100001) (2147483647) := ⟨((rf_lt (by decide : Bd 100000 (100000) (100000)) (ib_full y208_0_10) h155).2).1, ((ib_full y208_0_10)).2⟩
                        refine lv_ldc (v := 1000000) hx hb E.2.2.1 (E.2.2.2.1 _ q1649) dX12_next_233 ?_
                        refine lv_goto (tgt := 258) hx hb dX12_next_235 (by decide) ?_
                        refine xputi E hs hQ 0 (by decide) cl208_0 rfl 10 (by decide) q1478 rfl rfl (Nat.le_of_ble_eq_true rfl) dX12_next_258 (fun H locs S157 eS157 hQ => ?_)
                        have hI := invM_up_0 hI eS157 ⟨y208_0_0, y208_0_6, y208_0_7, y208_0_8, y208_0_9, 1000000, wy208_0_11, y208_0_12, y208_0_13, y208_0_14, y208_0_15, y208_0_26, y208_0_27, y208_0_29, y208_0_30, y208_0_31, y208_0_32, y208_0_33, y208_0_36, rfl, (ib_wk By208_0_6 (by decide) (by decide)), (ib_wk b131 (by decide) (by decide)), (ib_wk By208_0_8 (by decide) (by decide)), By208_0_12, By208_0_26, By208_0_27, By208_0_29, By208_0_30, By208_0_31⟩
                        have c158 : S157 0 = .inr (12, [.int y208_0_0, .ref (ad 1), .ref (ad 2), .ref (ad 3), .ref (ad 4), .ref (ad 5), .int y208_0_6, .int y208_0_7, .int y208_0_8, .int y208_0_9, .int 1000000, .long wy208_0_11, .int y208_0_12, .int y208_0_13, .int y208_0_14, .int y208_0_15, .ref (ad 6), .ref (ad 7), .ref (ad 8), .ref (ad 9), .ref (ad 10), .ref (ad 11), .ref (ad 12), .ref (ad 13), .ref (ad 14), .ref (ad 15), .int y208_0_26, .int y208_0_27, .ref (ad 16), .int y208_0_29, .int y208_0_30, .int y208_0_31, .int y208_0_32, .int y208_0_33, .ref (ad 17), .ref (ad 18), .int y208_0_36, .ref (ad 19)]) := up_at eS157 rfl
                        refine lv_aload_n hx hb dX12_next_261 rfl (lv_at hl 0 rfl) ?_
                        refine lv_dup hx hb dX12_next_262 rfl ?_
                        refine xget E hQ 0 (by decide) c158 rfl 7 (by decide) q1475 rfl dX12_next_263 ?_
                        refine lv_iconst (v := 1) hx hb dX12_next_266 (by decide) ?_
                        refine lv_iadd hx hb dX12_next_267 ?_
                        refine lv_topi (fun z159 e160 => ?_)
                        have t161 := ib_add e160 b131 (by decide : Bd 1 (1) (1)) (by decide) (by decide)
                        have b162 : Bd z159 (1) (1200) := ib_addb t161 b131 (by decide : Bd 1 (1) (1))
                        have t161 : z159.toInt = y208_0_7.toInt + 1 := fold_add t161 rfl (by decide)
                        refine xputi E hs hQ 0 (by decide) c158 rfl 7 (by decide) q1475 rfl rfl (Nat.le_of_ble_eq_true rfl) dX12_next_268 (fun H locs S163 eS163 hQ => ?_)
                        have hI := invM_up_0 hI eS163 ⟨y208_0_0, y208_0_6, z159, y208_0_8, y208_0_9, 1000000, wy208_0_11, y208_0_12, y208_0_13, y208_0_14, y208_0_15, y208_0_26, y208_0_27, y208_0_29, y208_0_30, y208_0_31, y208_0_32, y208_0_33, y208_0_36, rfl, (ib_wk By208_0_6 (by decide) (by decide)), (ib_wk b162 (by decide) (by decide)), (ib_wk By208_0_8 (by decide) (by decide)), By208_0_12, By208_0_26, By208_0_27, By208_0_29, By208_0_30, By208_0_31⟩
                        have c164 : S163 0 = .inr (12, [.int y208_0_0, .ref (ad 1), .ref (ad 2), .ref (ad 3), .ref (ad 4), .ref (ad 5), .int y208_0_6, .int z159, .int y208_0_8, .int y208_0_9, .int 1000000, .long wy208_0_11, .int y208_0_12, .int y208_0_13, .int y208_0_14, .int y208_0_15, .ref (ad 6), .ref (ad 7), .ref (ad 8), .ref (ad 9), .ref (ad 10), .ref (ad 11), .ref (ad 12), .ref (ad 13), .ref (ad 14), .ref (ad 15), .int y208_0_26, .int y208_0_27, .ref (ad 16), .int y208_0_29, .int y208_0_30, .int y208_0_31, .int y208_0_32, .int y208_0_33, .ref (ad 17), .ref (ad 18), .int y208_0_36, .ref (ad 19)]) := up_at eS163 rfl
                        refine lv_goto (tgt := 208) hx hb dX12_next_271 (by decide) ?_
                        exact ih208 _ _ _ _ y208_0_0 y208_0_6 z159 y208_0_8 y208_0_9 1000000 wy208_0_11 y208_0_12 y208_0_13 y208_0_14 y208_0_15 y208_0_26 y208_0_27 y208_0_29 y208_0_30 y208_0_31 y208_0_32 y208_0_33 y208_0_36 By208_0_6 (ib_wk b162 (by decide) (by decide)) By208_0_8 By208_0_9 By208_0_12 By208_0_26 By208_0_27 By208_0_29 By208_0_30 By208_0_31 (by have : (1000000 : Int32).toInt = 1000000 := (by decide); omega) (by have : (1000000 : Int32).toInt = 1000000 := (by decide); omega) (by have : (1000000 : Int32).toInt = 1000000 := (by decide); omega) (by have : (1000000 : Int32).toInt = 1000000 := (by decide); omega) (by have : (1000000 : Int32).toInt = 1000000 := (by decide); omega) (by have : (1000000 : Int32).toInt = 1000000 := (by decide); omega) (by have : (1000000 : Int32).toInt = 1000000 := (by decide); omega) (by have : (1000000 : Int32).toInt = 1000000 := (by decide); omega) (by have : (1000000 : Int32).toInt = 1000000 := (by decide); omega) (by have : (1000000 : Int32).toInt = 1000000 := (by decide); omega) hI (up_o (up_o hf208 eS157 (by decide)) eS163 (by decide)) c164 (Or.inl (by omega)) hQ (lv_sub hl [0] rfl)
                obtain ⟨n208, hn208⟩ := fu_n ((-1) * y0_0_7.toInt + 1200)
                exact loop208 n208 _ _ _ _ y0_0_0 y0_0_6 y0_0_7 2 y0_0_7 0 0 y0_0_12 y0_0_13 y0_0_14 y0_0_15 y0_0_26 y0_0_27 y0_0_29 y0_0_30 y0_0_31 y0_0_32 y0_0_33 y0_0_36 b114 (ib_wk b115 (by decide) (by decide)) (by decide : Bd 2 (2) (2)) b115 By0_0_12 By0_0_26 By0_0_27 By0_0_29 By0_0_30 By0_0_31 (by have : (2 : Int32).toInt = 2 := (by decide); have : (0 : Int32).toInt = 0 := (by decide); omega) (by have : (2 : Int32).toInt = 2 := (by decide); have : (0 : Int32).toInt = 0 := (by decide); omega) (by have : (2 : Int32).toInt = 2 := (by decide); have : (0 : Int32).toInt = 0 := (by decide); omega) (by have : (2 : Int32).toInt = 2 := (by decide); have : (0 : Int32).toInt = 0 := (by decide); omega) (by have : (2 : Int32).toInt = 2 := (by decide); have : (0 : Int32).toInt = 0 := (by decide); omega) (by have : (2 : Int32).toInt = 2 := (by decide); have : (0 : Int32).toInt = 0 := (by decide); omega) (by have : (2 : Int32).toInt = 2 := (by decide); have : (0 : Int32).toInt = 0 := (by decide); omega) (by have : (2 : Int32).toInt = 2 := (by decide); have : (0 : Int32).toInt = 0 := (by decide); omega) (by have : (2 : Int32).toInt = 2 := (by decide); have : (0 : Int32).toInt = 0 := (by decide); omega) (by have : (2 : Int32).toInt = 2 := (by decide); have : (0 : Int32).toInt = 0 := (by decide); omega) hI o_refl c117 (Or.inr (by rw [(up_eq (j := 5) eS116 (by decide)), ← q65]; exact by_r u71_0 b112)) hQ (lv_sub hl [0] rfl)
            · have h165 := ib_ne k66
              have b166 : Bd r64 (1) (1) := rf_nlo b64 (by decide : Bd 0 (0) (0)) h165
              have g167 := g64_0.resolve_left (by omega)
              clear g64_0
              have b168 : Bd y0_0_6 (1) (1200) := ⟨by omega, (By0_0_6).2⟩
              have b169 : Bd y0_0_7 (0) (1199) := ⟨(By0_0_7).1, by omega⟩
              refine lv_aload_n hx hb dX12_next_95 rfl (lv_at hl 0 rfl) ?_
              refine lv_iconst (v := 1) hx hb dX12_next_96 (by decide) ?_
              refine xputi E hs hQ 0 (by decide) c59 rfl 8 (by decide) q1476 rfl rfl (Nat.le_of_ble_eq_true rfl) dX12_next_97 (fun H locs S170 eS170 hQ => ?_)
              have hI := invM_up_0 hI eS170 ⟨y0_0_0, y0_0_6, y0_0_7, 1, y0_0_7, 0, 0, y0_0_12, y0_0_13, y0_0_14, y0_0_15, y0_0_26, y0_0_27, y0_0_29, y0_0_30, y0_0_31, y0_0_32, y0_0_33, y0_0_36, rfl, (ib_wk b168 (by decide) (by decide)), (ib_wk b169 (by decide) (by decide)), (ib_wk (by decide : Bd 1 (1) (1)) (by decide) (by decide)), By0_0_12, By0_0_26, By0_0_27, By0_0_29, By0_0_30, By0_0_31⟩
              have c171 : S170 0 = .inr (12, [.int y0_0_0, .ref (ad 1), .ref (ad 2), .ref (ad 3), .ref (ad 4), .ref (ad 5), .int y0_0_6, .int y0_0_7, .int 1, .int y0_0_7, .int 0, .long 0, .int y0_0_12, .int y0_0_13, .int y0_0_14, .int y0_0_15, .ref (ad 6), .ref (ad 7), .ref (ad 8), .ref (ad 9), .ref (ad 10), .ref (ad 11), .ref (ad 12), .ref (ad 13), .ref (ad 14), .ref (ad 15), .int y0_0_26, .int y0_0_27, .ref (ad 16), .int y0_0_29, .int y0_0_30, .int y0_0_31, .int y0_0_32, .int y0_0_33, .ref (ad 17), .ref (ad 18), .int y0_0_36, .ref (ad 19)]) := up_at eS170 rfl
              refine lv_iconst (v := 0) hx hb dX12_next_100 (by decide) ?_
              refine lv_istore_n (lv' := [(1, .int 0), (0, .ref (ad 0))]) hx hb dX12_next_101 rfl hl (by decide) rfl (fun ls hl => ?_)
              have loop102 : ∀ (n : Nat) (S_102 : SS) (H : Heap) (locs : List Loc) (ls : Array Slot) (x102_1 : Int32) (y102_0_0 : Int32) (y102_0_6 : Int32) (y102_0_7 : Int32) (y102_0_8 : Int32) (y102_0_9 : Int32) (y102_0_10 : Int32) (wy102_0_11 : Int64) (y102_0_12 : Int32) (y102_0_13 : Int32) (y102_0_14 : Int32) (y102_0_15 : Int32) (y102_0_26 : Int32) (y102_0_27 : Int32) (y102_0_29 : Int32) (y102_0_30 : Int32) (y102_0_31 : Int32) (y102_0_32 : Int32) (y102_0_33 : Int32) (y102_0_36 : Int32), Bd y102_0_6 (1) (1200) → Bd y102_0_7 (0) (1200) → Bd y102_0_8 (1) (1) → Bd y102_0_9 (0) (1199) → Bd y102_0_10 (0) (0) → Bd y102_0_12 (0) (3) → Bd y102_0_26 (0) (11) → Bd y102_0_27 (-1) (400) → Bd y102_0_29 (0) (2) → Bd y102_0_30 (0) (11) → Bd y102_0_31 (-1) (468) → 0 ≤ y102_0_6.toInt + (-1) * y102_0_7.toInt → 0 ≤ v2.toInt + (-1) * y102_0_6.toInt → 0 ≤ y102_0_6.toInt + (-1) * v2.toInt → 0 ≤ v11.toInt + (-1) * y102_0_12.toInt → 0 ≤ y102_0_12.toInt + (-1) * v11.toInt → 0 ≤ y102_0_7.toInt + (-1) * y102_0_9.toInt → 0 ≤ y102_0_9.toInt + (-1) * v4.toInt → 0 ≤ (-1) * y102_0_8.toInt + 1 → 0 ≤ y102_0_8.toInt + (-1) → (-1) * y102_0_7.toInt + 1200 < ((n : Nat) : Int) → InvM g ad S_102 → (∀ j, j ∉ ([0] : List Nat) → S_102 j = S170 j) → S_102 0 = .inr (12, [.int y102_0_0, .ref (ad 1), .ref (ad 2), .ref (ad 3), .ref (ad 4), .ref (ad 5), .int y102_0_6, .int y102_0_7, .int y102_0_8, .int y102_0_9, .int y102_0_10, .long wy102_0_11, .int y102_0_12, .int y102_0_13, .int y102_0_14, .int y102_0_15, .ref (ad 6), .ref (ad 7), .ref (ad 8), .ref (ad 9), .ref (ad 10), .ref (ad 11), .ref (ad 12), .ref (ad 13), .ref (ad 14), .ref (ad 15), .int y102_0_26, .int y102_0_27, .ref (ad 16), .int y102_0_29, .int y102_0_30, .int y102_0_31, .int y102_0_32, .int y102_0_33, .ref (ad 17), .ref (ad 18), .int y102_0_36, .ref (ad 19)]) → (y102_0_9.toInt + 1 ≤ y102_0_7.toInt ∨ byF y102_0_6.toInt (S_102 5) y102_0_7 97 122 = 1) → Hp g ad 20 S_102 (FA ad 20) s.heap H locs → lv_has ls 2 [(1, .int x102_1), (0, .ref (ad 0))] → W p l e (Rm 1) s m [.ref (ad 0)].toArray below meth c H locs 0 0 (MQ below (va_Qv (fun S' => InvM g ad S' ∧ (∀ j, j ∉ ([0] : List Nat) → S' j = S j) ∧ (0 ≤ fld (S' 0) 6 + (-1) * fld (S' 0) 7) ∧ (0 ≤ fld (S 0) 6 + (-1) * fld (S' 0) 6 ∧ 0 ≤ fld (S' 0) 6 + (-1) * fld (S 0) 6) ∧ (0 ≤ fld (S 0) 12 + (-1) * fld (S' 0) 12 ∧ 0 ≤ fld (S' 0) 12 + (-1) * fld (S 0) 12) ∧ (0 ≤ fld (S' 0) 7 + (-1) * fld (S 0) 7) ∧ (0 ≤ 4 * fld (S' 0) 7 + (-4) * fld (S 0) 7 + (-1) * fld (S' 0) 8)) (QB g ad 20) (FA ad 20)) [.ref (ad 0)].toArray s 0 0 (FA ad 20)) (F0 m 102 ls []) := by
                intro n
                induction n with
                | zero => intro S_102 H locs ls x102_1 y102_0_0 y102_0_6 y102_0_7 y102_0_8 y102_0_9 y102_0_10 wy102_0_11 y102_0_12 y102_0_13 y102_0_14 y102_0_15 y102_0_26 y102_0_27 y102_0_29 y102_0_30 y102_0_31 y102_0_32 y102_0_33 y102_0_36 By102_0_6 By102_0_7 By102_0_8 By102_0_9 By102_0_10 By102_0_12 By102_0_26 By102_0_27 By102_0_29 By102_0_30 By102_0_31 C102_0 C102_1 C102_2 C102_3 C102_4 C102_5 C102_6 C102_7 C102_8 hn102_ hI hf102 cl102_0 hC102 hQ hl; exfalso; have := (By102_0_7).2; omega
                | succ n102_ ih102 =>
                  intro S_102 H locs ls x102_1 y102_0_0 y102_0_6 y102_0_7 y102_0_8 y102_0_9 y102_0_10 wy102_0_11 y102_0_12 y102_0_13 y102_0_14 y102_0_15 y102_0_26 y102_0_27 y102_0_29 y102_0_30 y102_0_31 y102_0_32 y102_0_33 y102_0_36 By102_0_6 By102_0_7 By102_0_8 By102_0_9 By102_0_10 By102_0_12 By102_0_26 By102_0_27 By102_0_29 By102_0_30 By102_0_31 C102_0 C102_1 C102_2 C102_3 C102_4 C102_5 C102_6 C102_7 C102_8 hn102_ hI hf102 cl102_0 hC102 hQ hl
                  refine lv_aload_n hx hb dX12_next_102 rfl (lv_at hl 1 rfl) ?_
                  refine lv_aload_n hx hb dX12_next_103 rfl (lv_at hl 1 rfl) ?_
                  refine xget E hQ 0 (by decide) cl102_0 rfl 7 (by decide) q1475 rfl dX12_next_104 ?_
                  refine lv_bipush (v := 97) hx hb dX12_next_107 (by decide) ?_
                  refine lv_bipush (v := 122) hx hb dX12_next_109 (by decide) ?_
                  refine xcVi E hs hQ hml hl.1 0 (gX12_isByte_0 l g ad hD S_102 hI y102_0_7 97 122 By102_0_7 (ib_wk (by decide : Bd 97 (97) (97)) (by decide) (by decide)) (ib_wk (by decide : Bd 122 (122) (122)) (by decide) (by decide))) mX12_isByte q1641 (by decide) cl102_0 rfl rfl ⟨(Nat.le_of_ble_eq_true rfl), (Nat.le_of_ble_eq_true rfl)⟩ ⟨(Nat.le_of_ble_eq_true rfl), (Nat.le_of_ble_eq_true rfl)⟩ (Nat.le_of_ble_eq_true rfl) rfl dX12_next_111 (fun r172 S172 H locs hp172 hQ _ => ?_)
                  obtain ⟨rfl, b172, g172_0, u172_0⟩ := hp172
                  have q173 : fld (S_102 0) 6 = y102_0_6.toInt := fld_of cl102_0 rfl
                  refine lv_if_eq (tgt := 185) hx hb dX12_next_114 (by decide) (fun k174 => ?_) (fun k174 => ?_)
                  · have h175 := ib_eq k174
                    have b176 : Bd r172 (0) (0) := ⟨(b172).1, ((rf_eq b172 (by decide : Bd 0 (0) (0)) h175).1).2⟩
                    clear g172_0
                    have pr177 : y102_0_9.toInt + 1 ≤ y102_0_7.toInt := by
                      rcases hC102 with h | h
                      · exact h
                      · exact (by_n (u172_0.trans (by rw [q173])) rfl b176 h).elim
                    refine lv_goto (tgt := 307) hx hb dX12_next_185 (by decide) ?_
                    have q178 : fld (S_102 0) 7 = y102_0_7.toInt := fld_of cl102_0 rfl
                    have q179 : fld (S 0) 12 = v11.toInt := fld_of c29 rfl
                    have q180 : fld (S_102 0) 12 = y102_0_12.toInt := fld_of cl102_0 rfl
                    have q181 : fld (S_102 0) 8 = y102_0_8.toInt := fld_of cl102_0 rfl
                    exact xrv E hr hlk hQ (⟨hI, (o_trans (up_o (up_o (up_o (up_o (o_trans o_refl hf0 (by decide)) eS54 (by decide)) eS56 (by decide)) eS58 (by decide)) eS170 (by decide)) hf102 (by decide)), (by omega), ⟨by omega, by omega⟩, ⟨by omega, by omega⟩, (by omega), (by omega)⟩) dX12_next_307
                  · have h182 := ib_ne k174
                    have b183 : Bd r172 (1) (1) := rf_nlo b172 (by decide : Bd 0 (0) (0)) h182
                    have g184 := g172_0.resolve_left (by omega)
                    clear g172_0
                    have b185 : Bd y102_0_7 (0) (1199) := ⟨(By102_0_7).1, by omega⟩
                    refine lv_aload_n hx hb dX12_next_117 rfl (lv_at hl 1 rfl) ?_
                    refine lv_iload_n hx hb dX12_next_118 rfl (lv_at hl 0 rfl) ?_
                    refine lv_bipush (v := 11) hx hb dX12_next_119 (by decide) ?_
                    refine lv_icmp_le (tgt := 130) hx hb dX12_next_121 (by decide) (fun k186 => ?_) (fun k186 => ?_)
                    · have h187 := ib_le k186
                      have b188 : Bd x102_1 (-2147483648) (11) := ⟨((ib_full x102_1)).1, ((rf_le (ib_full x102_1) (by decide : Bd 11 (11) (11)) h187).1).2⟩
                      refine lv_ldc2 (v := 27) hx hb E.2.2.1 (E.2.2.2.1 _ q1646) dX12_next_130 ?_
                      refine lv_aload_n hx hb dX12_next_133 rfl (lv_at hl 1 rfl) ?_
                      refine xget E hQ 0 (by decide) cl102_0 rfl 11 (by decide) q1479 rfl dX12_next_134 ?_
                      refine lv_lmul hx hb dX12_next_137 ?_
                      refine lv_topl (fun w189 e190 => ?_)
                      refine lv_aload_n hx hb dX12_next_138 rfl (lv_at hl 1 rfl) ?_
                      refine xget E hQ 0 (by decide) cl102_0 rfl 5 (by decide) q1473 rfl dX12_next_139 ?_
                      refine lv_aload_n hx hb dX12_next_142 rfl (lv_at hl 1 rfl) ?_
                      refine xget E hQ 0 (by decide) cl102_0 rfl 7 (by decide) q1475 rfl dX12_next_143 ?_
                      obtain ⟨f191, c192, b193⟩ := invM_5 hI
                      refine xbald E hQ 5 (by decide) c192 (ib_in b185 (by decide) (by decide)) dX12_next_146 ?_
                      refine lv_topi (fun z194 e195 => ?_)
                      have b196 : Bd z194 (-128) (127) := (by rw [e195]; exact b193 _)
                      refine lv_i2l hx hb dX12_next_147 rfl ?_
                      refine lv_topl (fun w197 e198 => ?_)
                      have t199 : w197.toInt = z194.toInt := by rw [e198]; exact i2l_i _
                      have b200 : BdL w197 (-128) (127) := (by have h1 := (b196).1; have h2 := (b196).2; exact ⟨by omega, by omega⟩)
                      refine lv_ladd hx hb dX12_next_148 ?_
                      refine lv_topl (fun w201 e202 => ?_)
                      refine lv_ldc2 (v := 96) hx hb E.2.2.1 (E.2.2.2.1 _ q1647) dX12_next_149 ?_
                      refine lv_lsub hx hb dX12_next_152 ?_
                      refine lv_topl (fun w203 e204 => ?_)
                      refine xput (ty := .long) E hs hQ 0 (by decide) cl102_0 rfl 11 (by decide) q1479 rfl (by decide +kernel) rfl rfl (Nat.le_of_ble_eq_true rfl) dX12_next_153 (fun H locs S205 eS205 hQ => ?_)
                      have hI := invM_up_0 hI eS205 ⟨y102_0_0, y102_0_6, y102_0_7, y102_0_8, y102_0_9, y102_0_10, w203, y102_0_12, y102_0_13, y102_0_14, y102_0_15, y102_0_26, y102_0_27, y102_0_29, y102_0_30, y102_0_31, y102_0_32, y102_0_33, y102_0_36, rfl, (ib_wk By102_0_6 (by decide) (by decide)), (ib_wk b185 (by decide) (by decide)), (ib_wk By102_0_8 (by decide) (by decide)), By102_0_12, By102_0_26, By102_0_27, By102_0_29, By102_0_30, By102_0_31⟩
                      have c206 : S205 0 = .inr (12, [.int y102_0_0, .ref (ad 1), .ref (ad 2), .ref (ad 3), .ref (ad 4), .ref (ad 5), .int y102_0_6, .int y102_0_7, .int y102_0_8, .int y102_0_9, .int y102_0_10, .long w203, .int y102_0_12, .int y102_0_13, .int y102_0_14, .int y102_0_15, .ref (ad 6), .ref (ad 7), .ref (ad 8), .ref (ad 9), .ref (ad 10), .ref (ad 11), .ref (ad 12), .ref (ad 13), .ref (ad 14), .ref (ad 15), .int y102_0_26, .int y102_0_27, .ref (ad 16), .int y102_0_29, .int y102_0_30, .int y102_0_31, .int y102_0_32, .int y102_0_33, .ref (ad 17), .ref (ad 18), .int y102_0_36, .ref (ad 19)]) := up_at eS205 rfl
                      refine lv_iload_n hx hb dX12_next_156 rfl (lv_at hl 0 rfl) ?_
                      refine lv_bipush (v := 11) hx hb dX12_next_157 (by decide) ?_
                      refine lv_icmp_le (tgt := 169) hx hb dX12_next_159 (by decide) (fun k207 => ?_) (fun k207 => ?_)
                      · have h208 := ib_le k207
                        refine lv_aload_n hx hb dX12_next_169 rfl (lv_at hl 1 rfl) ?_
                        refine lv_dup hx hb dX12_next_170 rfl ?_
                        refine xget E hQ 0 (by decide) c206 rfl 7 (by decide) q1475 rfl dX12_next_171 ?_
                        refine lv_iconst (v := 1) hx hb dX12_next_174 (by decide) ?_
                        refine lv_iadd hx hb dX12_next_175 ?_
                        refine lv_topi (fun z209 e210 => ?_)
                        have t211 := ib_add e210 b185 (by decide : Bd 1 (1) (1)) (by decide) (by decide)
                        have b212 : Bd z209 (1) (1200) := ib_addb t211 b185 (by decide : Bd 1 (1) (1))
                        have t211 : z209.toInt = y102_0_7.toInt + 1 := fold_add t211 rfl (by decide)
                        refine xputi E hs hQ 0 (by decide) c206 rfl 7 (by decide) q1475 rfl rfl (Nat.le_of_ble_eq_true rfl) dX12_next_176 (fun H locs S213 eS213 hQ => ?_)
                        have hI := invM_up_0 hI eS213 ⟨y102_0_0, y102_0_6, z209, y102_0_8, y102_0_9, y102_0_10, w203, y102_0_12, y102_0_13, y102_0_14, y102_0_15, y102_0_26, y102_0_27, y102_0_29, y102_0_30, y102_0_31, y102_0_32, y102_0_33, y102_0_36, rfl, (ib_wk By102_0_6 (by decide) (by decide)), (ib_wk b212 (by decide) (by decide)), (ib_wk By102_0_8 (by decide) (by decide)), By102_0_12, By102_0_26, By102_0_27, By102_0_29, By102_0_30, By102_0_31⟩
                        have c214 : S213 0 = .inr (12, [.int y102_0_0, .ref (ad 1), .ref (ad 2), .ref (ad 3), .ref (ad 4), .ref (ad 5), .int y102_0_6, .int z209, .int y102_0_8, .int y102_0_9, .int y102_0_10, .long w203, .int y102_0_12, .int y102_0_13, .int y102_0_14, .int y102_0_15, .ref (ad 6), .ref (ad 7), .ref (ad 8), .ref (ad 9), .ref (ad 10), .ref (ad 11), .ref (ad 12), .ref (ad 13), .ref (ad 14), .ref (ad 15), .int y102_0_26, .int y102_0_27, .ref (ad 16), .int y102_0_29, .int y102_0_30, .int y102_0_31, .int y102_0_32, .int y102_0_33, .ref (ad 17), .ref (ad 18), .int y102_0_36, .ref (ad 19)]) := up_at eS213 rfl
                        obtain ⟨z215, e216⟩ : ∃ z : Int32, z = x102_1 + 1 := ⟨_, rfl⟩
                        have t217 := ib_add e216 b188 (by decide : Bd 1 (1) (1)) (by decide) (by decide)
                        have b218 : Bd z215 (-2147483647) (12) := ib_addb t217 b188 (by decide : Bd 1 (1) (1))
                        have t217 : z215.toInt = x102_1.toInt + 1 := fold_add t217 rfl (by decide)
                        refine lv_iinc (v := z215) (lv' := [(1, .int z215), (0, .ref (ad 0))]) hx hb dX12_next_179 hl (k := 0) rfl (by rw [e216]; rfl) (by decide) rfl (fun ls hl => ?_)
                        refine lv_goto (tgt := 102) hx hb dX12_next_182 (by decide) ?_
                        exact ih102 _ _ _ _ z215 y102_0_0 y102_0_6 z209 y102_0_8 y102_0_9 y102_0_10 w203 y102_0_12 y102_0_13 y102_0_14 y102_0_15 y102_0_26 y102_0_27 y102_0_29 y102_0_30 y102_0_31 y102_0_32 y102_0_33 y102_0_36 By102_0_6 (ib_wk b212 (by decide) (by decide)) By102_0_8 By102_0_9 By102_0_10 By102_0_12 By102_0_26 By102_0_27 By102_0_29 By102_0_30 By102_0_31 (by omega) (by omega) (by omega) (by omega) (by omega) (by omega) (by omega) (by omega) (by omega) (by omega) hI (up_o (up_o hf102 eS205 (by decide)) eS213 (by decide)) c214 (Or.inl (by omega)) hQ (lv_sub hl [0, 1] rfl)
                      · have h219 := ib_nle k207
                        exact absurd (Int.le_trans ((by decide : Bd 11 (11) (11))).1 ((rf_lt (by decide : Bd 11 (11) (11)) b188 h219).1).2) (by decide)
                    · have h220 := ib_nle k186
                      have b221 : Bd x102_1 (12) (2147483647) := ⟨((rf_lt (by decide : Bd 11 (11) (11)) (ib_full x102_1) h220).2).1, ((ib_full x102_1)).2⟩
                      refine lv_ldc2 (v := (-1)) hx hb E.2.2.1 (E.2.2.2.1 _ q1645) dX12_next_124 ?_
                      refine lv_goto (tgt := 153) hx hb dX12_next_127 (by decide) ?_
                      refine xput (ty := .long) E hs hQ 0 (by decide) cl102_0 rfl 11 (by decide) q1479 rfl (by decide +kernel) rfl rfl (Nat.le_of_ble_eq_true rfl) dX12_next_153 (fun H locs S222 eS222 hQ => ?_)
                      have hI := invM_up_0 hI eS222 ⟨y102_0_0, y102_0_6, y102_0_7, y102_0_8, y102_0_9, y102_0_10, (-1), y102_0_12, y102_0_13, y102_0_14, y102_0_15, y102_0_26, y102_0_27, y102_0_29, y102_0_30, y102_0_31, y102_0_32, y102_0_33, y102_0_36, rfl, (ib_wk By102_0_6 (by decide) (by decide)), (ib_wk b185 (by decide) (by decide)), (ib_wk By102_0_8 (by decide) (by decide)), By102_0_12, By102_0_26, By102_0_27, By102_0_29, By102_0_30, By102_0_31⟩
                      have c223 : S222 0 = .inr (12, [.int y102_0_0, .ref (ad 1), .ref (ad 2), .ref (ad 3), .ref (ad 4), .ref (ad 5), .int y102_0_6, .int y102_0_7, .int y102_0_8, .int y102_0_9, .int y102_0_10, .long (-1), .int y102_0_12, .int y102_0_13, .int y102_0_14, .int y102_0_15, .ref (ad 6), .ref (ad 7), .ref (ad 8), .ref (ad 9), .ref (ad 10), .ref (ad 11), .ref (ad 12), .ref (ad 13), .ref (ad 14), .ref (ad 15), .int y102_0_26, .int y102_0_27, .ref (ad 16), .int y102_0_29, .int y102_0_30, .int y102_0_31, .int y102_0_32, .int y102_0_33, .ref (ad 17), .ref (ad 18), .int y102_0_36, .ref (ad 19)]) := up_at eS222 rfl
                      refine lv_iload_n hx hb dX12_next_156 rfl (lv_at hl 0 rfl) ?_
                      refine lv_bipush (v := 11) hx hb dX12_next_157 (by decide) ?_
                      refine lv_icmp_le (tgt := 169) hx hb dX12_next_159 (by decide) (fun k224 => ?_) (fun k224 => ?_)
                      · have h225 := ib_le k224
                        have b226 : Bd x102_1 (12) (11) := ⟨(b221).1, ((rf_le b221 (by decide : Bd 11 (11) (11)) h225).1).2⟩
                        exact absurd (Int.le_trans b226.1 b226.2) (by decide)
                      · have h227 := ib_nle k224
                        refine lv_aload_n hx hb dX12_next_162 rfl (lv_at hl 1 rfl) ?_
                        refine lv_ldc2 (v := (-1)) hx hb E.2.2.1 (E.2.2.2.1 _ q1645) dX12_next_163 ?_
                        refine xput (ty := .long) E hs hQ 0 (by decide) c223 rfl 11 (by decide) q1479 rfl (by decide +kernel) rfl rfl (Nat.le_of_ble_eq_true rfl) dX12_next_166 (fun H locs S228 eS228 hQ => ?_)
                        have hI := invM_up_0 hI eS228 ⟨y102_0_0, y102_0_6, y102_0_7, y102_0_8, y102_0_9, y102_0_10, (-1), y102_0_12, y102_0_13, y102_0_14, y102_0_15, y102_0_26, y102_0_27, y102_0_29, y102_0_30, y102_0_31, y102_0_32, y102_0_33, y102_0_36, rfl, (ib_wk By102_0_6 (by decide) (by decide)), (ib_wk b185 (by decide) (by decide)), (ib_wk By102_0_8 (by decide) (by decide)), By102_0_12, By102_0_26, By102_0_27, By102_0_29, By102_0_30, By102_0_31⟩
                        have c229 : S228 0 = .inr (12, [.int y102_0_0, .ref (ad 1), .ref (ad 2), .ref (ad 3), .ref (ad 4), .ref (ad 5), .int y102_0_6, .int y102_0_7, .int y102_0_8, .int y102_0_9, .int y102_0_10, .long (-1), .int y102_0_12, .int y102_0_13, .int y102_0_14, .int y102_0_15, .ref (ad 6), .ref (ad 7), .ref (ad 8), .ref (ad 9), .ref (ad 10), .ref (ad 11), .ref (ad 12), .ref (ad 13), .ref (ad 14), .ref (ad 15), .int y102_0_26, .int y102_0_27, .ref (ad 16), .int y102_0_29, .int y102_0_30, .int y102_0_31, .int y102_0_32, .int y102_0_33, .ref (ad 17), .ref (ad 18), .int y102_0_36, .ref (ad 19)]) := up_at eS228 rfl
                        refine lv_aload_n hx hb dX12_next_169 rfl (lv_at hl 1 rfl) ?_
                        refine lv_dup hx hb dX12_next_170 rfl ?_
                        refine xget E hQ 0 (by decide) c229 rfl 7 (by decide) q1475 rfl dX12_next_171 ?_
                        refine lv_iconst (v := 1) hx hb dX12_next_174 (by decide) ?_
                        refine lv_iadd hx hb dX12_next_175 ?_
                        refine lv_topi (fun z230 e231 => ?_)
                        have t232 := ib_add e231 b185 (by decide : Bd 1 (1) (1)) (by decide) (by decide)
                        have b233 : Bd z230 (1) (1200) := ib_addb t232 b185 (by decide : Bd 1 (1) (1))
                        have t232 : z230.toInt = y102_0_7.toInt + 1 := fold_add t232 rfl (by decide)
                        refine xputi E hs hQ 0 (by decide) c229 rfl 7 (by decide) q1475 rfl rfl (Nat.le_of_ble_eq_true rfl) dX12_next_176 (fun H locs S234 eS234 hQ => ?_)
                        have hI := invM_up_0 hI eS234 ⟨y102_0_0, y102_0_6, z230, y102_0_8, y102_0_9, y102_0_10, (-1), y102_0_12, y102_0_13, y102_0_14, y102_0_15, y102_0_26, y102_0_27, y102_0_29, y102_0_30, y102_0_31, y102_0_32, y102_0_33, y102_0_36, rfl, (ib_wk By102_0_6 (by decide) (by decide)), (ib_wk b233 (by decide) (by decide)), (ib_wk By102_0_8 (by decide) (by decide)), By102_0_12, By102_0_26, By102_0_27, By102_0_29, By102_0_30, By102_0_31⟩
                        have c235 : S234 0 = .inr (12, [.int y102_0_0, .ref (ad 1), .ref (ad 2), .ref (ad 3), .ref (ad 4), .ref (ad 5), .int y102_0_6, .int z230, .int y102_0_8, .int y102_0_9, .int y102_0_10, .long (-1), .int y102_0_12, .int y102_0_13, .int y102_0_14, .int y102_0_15, .ref (ad 6), .ref (ad 7), .ref (ad 8), .ref (ad 9), .ref (ad 10), .ref (ad 11), .ref (ad 12), .ref (ad 13), .ref (ad 14), .ref (ad 15), .int y102_0_26, .int y102_0_27, .ref (ad 16), .int y102_0_29, .int y102_0_30, .int y102_0_31, .int y102_0_32, .int y102_0_33, .ref (ad 17), .ref (ad 18), .int y102_0_36, .ref (ad 19)]) := up_at eS234 rfl
                        obtain ⟨z236, e237⟩ : ∃ z : Int32, z = x102_1 + 1 := ⟨_, rfl⟩
                        refine lv_iinc (v := z236) (lv' := [(1, .int z236), (0, .ref (ad 0))]) hx hb dX12_next_179 hl (k := 0) rfl (by rw [e237]; rfl) (by decide) rfl (fun ls hl => ?_)
                        refine lv_goto (tgt := 102) hx hb dX12_next_182 (by decide) ?_
                        exact ih102 _ _ _ _ z236 y102_0_0 y102_0_6 z230 y102_0_8 y102_0_9 y102_0_10 (-1) y102_0_12 y102_0_13 y102_0_14 y102_0_15 y102_0_26 y102_0_27 y102_0_29 y102_0_30 y102_0_31 y102_0_32 y102_0_33 y102_0_36 By102_0_6 (ib_wk b233 (by decide) (by decide)) By102_0_8 By102_0_9 By102_0_10 By102_0_12 By102_0_26 By102_0_27 By102_0_29 By102_0_30 By102_0_31 (by omega) (by omega) (by omega) (by omega) (by omega) (by omega) (by omega) (by omega) (by omega) (by omega) hI (up_o (up_o (up_o hf102 eS222 (by decide)) eS228 (by decide)) eS234 (by decide)) c235 (Or.inl (by omega)) hQ (lv_sub hl [0, 1] rfl)
              obtain ⟨n102, hn102⟩ := fu_n ((-1) * y0_0_7.toInt + 1200)
              exact loop102 n102 _ _ _ _ 0 y0_0_0 y0_0_6 y0_0_7 1 y0_0_7 0 0 y0_0_12 y0_0_13 y0_0_14 y0_0_15 y0_0_26 y0_0_27 y0_0_29 y0_0_30 y0_0_31 y0_0_32 y0_0_33 y0_0_36 b168 (ib_wk b169 (by decide) (by decide)) (by decide : Bd 1 (1) (1)) b169 (by decide : Bd 0 (0) (0)) By0_0_12 By0_0_26 By0_0_27 By0_0_29 By0_0_30 By0_0_31 (by have : (0 : Int32).toInt = 0 := (by decide); have : (1 : Int32).toInt = 1 := (by decide); omega) (by have : (0 : Int32).toInt = 0 := (by decide); have : (1 : Int32).toInt = 1 := (by decide); omega) (by have : (0 : Int32).toInt = 0 := (by decide); have : (1 : Int32).toInt = 1 := (by decide); omega) (by have : (0 : Int32).toInt = 0 := (by decide); have : (1 : Int32).toInt = 1 := (by decide); omega) (by have : (0 : Int32).toInt = 0 := (by decide); have : (1 : Int32).toInt = 1 := (by decide); omega) (by have : (0 : Int32).toInt = 0 := (by decide); have : (1 : Int32).toInt = 1 := (by decide); omega) (by have : (0 : Int32).toInt = 0 := (by decide); have : (1 : Int32).toInt = 1 := (by decide); omega) (by have : (0 : Int32).toInt = 0 := (by decide); have : (1 : Int32).toInt = 1 := (by decide); omega) (by have : (0 : Int32).toInt = 0 := (by decide); have : (1 : Int32).toInt = 1 := (by decide); omega) (by have : (0 : Int32).toInt = 0 := (by decide); have : (1 : Int32).toInt = 1 := (by decide); omega) hI o_refl c171 (Or.inr (by rw [(up_eq (j := 5) eS170 (by decide)), ← q65]; exact by_r u64_0 b166)) hQ (lv_sub hl [0, 1] rfl)
          · have h238 := ib_eq k60
            refine lv_aload_n hx hb dX12_next_72 rfl (lv_at hl 0 rfl) ?_
            refine lv_iconst (v := 0) hx hb dX12_next_73 (by decide) ?_
            refine xputi E hs hQ 0 (by decide) c59 rfl 8 (by decide) q1476 rfl rfl (Nat.le_of_ble_eq_true rfl) dX12_next_74 (fun H locs S239 eS239 hQ => ?_)
            have hI := invM_up_0 hI eS239 ⟨y0_0_0, y0_0_6, y0_0_7, 0, y0_0_7, 0, 0, y0_0_12, y0_0_13, y0_0_14, y0_0_15, y0_0_26, y0_0_27, y0_0_29, y0_0_30, y0_0_31, y0_0_32, y0_0_33, y0_0_36, rfl, By0_0_6, By0_0_7, (ib_wk (by decide : Bd 0 (0) (0)) (by decide) (by decide)), By0_0_12, By0_0_26, By0_0_27, By0_0_29, By0_0_30, By0_0_31⟩
            have c240 : S239 0 = .inr (12, [.int y0_0_0, .ref (ad 1), .ref (ad 2), .ref (ad 3), .ref (ad 4), .ref (ad 5), .int y0_0_6, .int y0_0_7, .int 0, .int y0_0_7, .int 0, .long 0, .int y0_0_12, .int y0_0_13, .int y0_0_14, .int y0_0_15, .ref (ad 6), .ref (ad 7), .ref (ad 8), .ref (ad 9), .ref (ad 10), .ref (ad 11), .ref (ad 12), .ref (ad 13), .ref (ad 14), .ref (ad 15), .int y0_0_26, .int y0_0_27, .ref (ad 16), .int y0_0_29, .int y0_0_30, .int y0_0_31, .int y0_0_32, .int y0_0_33, .ref (ad 17), .ref (ad 18), .int y0_0_36, .ref (ad 19)]) := up_at eS239 rfl
            refine lv_goto (tgt := 307) hx hb dX12_next_77 (by decide) ?_
            have q241 : fld (S239 0) 6 = y0_0_6.toInt := fld_of c240 rfl
            have q242 : fld (S239 0) 7 = y0_0_7.toInt := fld_of c240 rfl
            have q243 : fld (S 0) 12 = v11.toInt := fld_of c29 rfl
            have q244 : fld (S239 0) 12 = y0_0_12.toInt := fld_of c240 rfl
            have q245 : fld (S239 0) 8 = (0 : Int32).toInt := fld_of c240 rfl
            have q245 : fld (S239 0) 8 = 0 := q245.trans (by decide)
            exact xrv E hr hlk hQ (⟨hI, (up_o (up_o (up_o (up_o (o_trans o_refl hf0 (by decide)) eS54 (by decide)) eS56 (by decide)) eS58 (by decide)) eS239 (by decide)), (by omega), ⟨by omega, by omega⟩, ⟨by omega, by omega⟩, (by omega), (by omega)⟩) dX12_next_307
        · have h246 := ib_ne k51
          have b247 : Bd r50 (1) (1) := rf_nlo b50 (by decide : Bd 0 (0) (0)) h246
          have g248 := g50_0.resolve_left (by omega)
          clear g50_0
          have b249 : Bd y0_0_6 (1) (1200) := ⟨by omega, (By0_0_6).2⟩
          have b250 : Bd y0_0_7 (0) (1199) := ⟨(By0_0_7).1, by omega⟩
          refine lv_aload_n hx hb dX12_next_30 rfl (lv_at hl 0 rfl) ?_
          refine lv_dup hx hb dX12_next_31 rfl ?_
          refine xget E hQ 0 (by decide) cl0_0 rfl 7 (by decide) q1475 rfl dX12_next_32 ?_
          refine lv_iconst (v := 1) hx hb dX12_next_35 (by decide) ?_
          refine lv_iadd hx hb dX12_next_36 ?_
          refine lv_topi (fun z251 e252 => ?_)
          have t253 := ib_add e252 b250 (by decide : Bd 1 (1) (1)) (by decide) (by decide)
          have b254 : Bd z251 (1) (1200) := ib_addb t253 b250 (by decide : Bd 1 (1) (1))
          have t253 : z251.toInt = y0_0_7.toInt + 1 := fold_add t253 rfl (by decide)
          refine xputi E hs hQ 0 (by decide) cl0_0 rfl 7 (by decide) q1475 rfl rfl (Nat.le_of_ble_eq_true rfl) dX12_next_37 (fun H locs S255 eS255 hQ => ?_)
          have hI := invM_up_0 hI eS255 ⟨y0_0_0, y0_0_6, z251, y0_0_8, y0_0_9, y0_0_10, wy0_0_11, y0_0_12, y0_0_13, y0_0_14, y0_0_15, y0_0_26, y0_0_27, y0_0_29, y0_0_30, y0_0_31, y0_0_32, y0_0_33, y0_0_36, rfl, (ib_wk b249 (by decide) (by decide)), (ib_wk b254 (by decide) (by decide)), By0_0_8, By0_0_12, By0_0_26, By0_0_27, By0_0_29, By0_0_30, By0_0_31⟩
          have c256 : S255 0 = .inr (12, [.int y0_0_0, .ref (ad 1), .ref (ad 2), .ref (ad 3), .ref (ad 4), .ref (ad 5), .int y0_0_6, .int z251, .int y0_0_8, .int y0_0_9, .int y0_0_10, .long wy0_0_11, .int y0_0_12, .int y0_0_13, .int y0_0_14, .int y0_0_15, .ref (ad 6), .ref (ad 7), .ref (ad 8), .ref (ad 9), .ref (ad 10), .ref (ad 11), .ref (ad 12), .ref (ad 13), .ref (ad 14), .ref (ad 15), .int y0_0_26, .int y0_0_27, .ref (ad 16), .int y0_0_29, .int y0_0_30, .int y0_0_31, .int y0_0_32, .int y0_0_33, .ref (ad 17), .ref (ad 18), .int y0_0_36, .ref (ad 19)]) := up_at eS255 rfl
          refine lv_goto (tgt := 0) hx hb dX12_next_40 (by decide) ?_
          exact ih0 _ _ _ _ y0_0_0 y0_0_6 z251 y0_0_8 y0_0_9 y0_0_10 wy0_0_11 y0_0_12 y0_0_13 y0_0_14 y0_0_15 y0_0_26 y0_0_27 y0_0_29 y0_0_30 y0_0_31 y0_0_32 y0_0_33 y0_0_36 (ib_wk b249 (by decide) (by decide)) (ib_wk b254 (by decide) (by decide)) By0_0_8 By0_0_12 By0_0_26 By0_0_27 By0_0_29 By0_0_30 By0_0_31 (by omega) (by omega) (by omega) (by omega) (by omega) (by omega) (by omega) hI (up_o hf0 eS255 (by decide)) c256 hQ (lv_sub hl [0] rfl)
  obtain ⟨n0, hn0⟩ := fu_n ((-1) * v4.toInt + 1200)
  exact loop0 n0 _ _ _ _ v1 v2 v4 v6 v8 v9 w10 v11 v13 v14 v15 v16 v18 v20 v22 v24 v26 v27 v28 b3 b5 b7 b12 b17 b19 b21 b23 b25 (by omega) (by omega) (by omega) (by omega) (by omega) (by omega) (by omega) hI o_refl c29 hQ (lv_sub hl [0] rfl)
set_option maxHeartbeats 4000000 in
set_option maxRecDepth 100000 in
theorem gX12_isGood_0 (l : Launch) (g : GG) (ad : Nat → Nat) (hD : Dj ad 20) (S : SS) (hI : InvM g ad S) : Met l yX12_isGood (wG (.code yX12_isGood cX12_isGood 1 (some .boolean))) (Rm 0) (XPre g ad 20 S [.ref (ad 0)]) (va_Qi (fun r S' => S = S' ∧ Bd r (0) (1) ∧ ((r.toInt + (-1) < 0 ∨ (0 ≤ (-1) * fld (S 0) 12))) ∧ (((-1) * r.toInt < 0 ∨ (0 ≤ fld (S 0) 12 + (-1))))) (QB g ad 20) (FA ad 20)) 0 0 (FA ad 20) := by
  refine xmet cX12_isGood "EbbWreckModel" (by decide) rfl (Nat.le_of_ble_eq_true rfl) (fun p e s m below meth c E hr hlk hml hQ ls hl => ?_)
  have hx := E.1
  have hb := E.2.1
  have hs : Sp ad 20 (FA ad 20) := Sp.fa hD
  have hl : lv_has ls 1 [(0, .ref (ad 0))] := hl
  obtain ⟨v1, v2, v4, v6, v8, v9, w10, v11, v13, v14, v15, v16, v18, v20, v22, v24, v26, v27, v28, c29, b3, b5, b7, b12, b17, b19, b21, b23, b25⟩ := invM_0 hI
  have c29 : S 0 = .inr (12, [.int v1, .ref (ad 1), .ref (ad 2), .ref (ad 3), .ref (ad 4), .ref (ad 5), .int v2, .int v4, .int v6, .int v8, .int v9, .long w10, .int v11, .int v13, .int v14, .int v15, .ref (ad 6), .ref (ad 7), .ref (ad 8), .ref (ad 9), .ref (ad 10), .ref (ad 11), .ref (ad 12), .ref (ad 13), .ref (ad 14), .ref (ad 15), .int v16, .int v18, .ref (ad 16), .int v20, .int v22, .int v24, .int v26, .int v27, .ref (ad 17), .ref (ad 18), .int v28, .ref (ad 19)]) := c29
  refine lv_aload_n hx hb dX12_isGood_0 rfl (lv_at hl 0 rfl) ?_
  refine xget E hQ 0 (by decide) c29 rfl 12 (by decide) q1480 rfl dX12_isGood_1 ?_
  refine lv_if_ne (tgt := 11) hx hb dX12_isGood_4 (by decide) (fun k30 => ?_) (fun k30 => ?_)
  · have h31 := ib_ne k30
    have b32 : Bd v11 (1) (3) := rf_nlo b12 (by decide : Bd 0 (0) (0)) h31
    refine lv_iconst (v := 0) hx hb dX12_isGood_11 (by decide) ?_
    have q33 : fld (S 0) 12 = v11.toInt := fld_of c29 rfl
    have q34 : (0 : Int32).toInt = 0 := by decide
    have q35 : (0 : Int32).toInt = 0 := by decide
    exact xrz E hr hlk hQ rfl (⟨rfl, (ib_wk (by decide : Bd 0 (0) (0)) (by decide) (by decide)), Or.inl (by omega), Or.inr (by omega)⟩) dX12_isGood_12
  · have h36 := ib_eq k30
    have b37 : Bd v11 (0) (0) := ⟨(b12).1, ((rf_eq b12 (by decide : Bd 0 (0) (0)) h36).1).2⟩
    refine lv_iconst (v := 1) hx hb dX12_isGood_7 (by decide) ?_
    refine lv_goto (tgt := 12) hx hb dX12_isGood_8 (by decide) ?_
    have q38 : fld (S 0) 12 = v11.toInt := fld_of c29 rfl
    have q39 : (1 : Int32).toInt = 1 := by decide
    have q40 : (1 : Int32).toInt = 1 := by decide
    exact xrz E hr hlk hQ rfl (⟨rfl, (ib_wk (by decide : Bd 1 (1) (1)) (by decide) (by decide)), Or.inr (by omega), Or.inl (by omega)⟩) dX12_isGood_12
set_option maxHeartbeats 4000000 in
set_option maxRecDepth 100000 in
theorem gX12_fails_0 (l : Launch) (g : GG) (ad : Nat → Nat) (hD : Dj ad 20) (S : SS) (hI : InvM g ad S) (a1 : Int32) (ba1 : Bd a1 (1) (3)) : Met l yX12_fails (wG (.code yX12_fails cX12_fails 2 none)) (Rm 0) (XPre g ad 20 S [.ref (ad 0), .int a1]) (va_Qv (fun S' => InvM g ad S' ∧ (∀ j, j ∉ ([0] : List Nat) → S' j = S j) ∧ (0 ≤ fld (S' 0) 12 + (-1)) ∧ (0 ≤ fld (S 0) 6 + (-1) * fld (S' 0) 6 ∧ 0 ≤ fld (S' 0) 6 + (-1) * fld (S 0) 6) ∧ (0 ≤ fld (S 0) 7 + (-1) * fld (S' 0) 7 ∧ 0 ≤ fld (S' 0) 7 + (-1) * fld (S 0) 7) ∧ (0 ≤ fld (S 0) 8 + (-1) * fld (S' 0) 8 ∧ 0 ≤ fld (S' 0) 8 + (-1) * fld (S 0) 8)) (QB g ad 20) (FA ad 20)) 0 0 (FA ad 20) := by
  refine xmet cX12_fails "EbbWreckModel" (by decide) rfl (Nat.le_of_ble_eq_true rfl) (fun p e s m below meth c E hr hlk hml hQ ls hl => ?_)
  have hx := E.1
  have hb := E.2.1
  have hs : Sp ad 20 (FA ad 20) := Sp.fa hD
  have hl : lv_has ls 2 [(0, .ref (ad 0)), (1, .int a1)] := hl
  obtain ⟨v1, v2, v4, v6, v8, v9, w10, v11, v13, v14, v15, v16, v18, v20, v22, v24, v26, v27, v28, c29, b3, b5, b7, b12, b17, b19, b21, b23, b25⟩ := invM_0 hI
  have c29 : S 0 = .inr (12, [.int v1, .ref (ad 1), .ref (ad 2), .ref (ad 3), .ref (ad 4), .ref (ad 5), .int v2, .int v4, .int v6, .int v8, .int v9, .long w10, .int v11, .int v13, .int v14, .int v15, .ref (ad 6), .ref (ad 7), .ref (ad 8), .ref (ad 9), .ref (ad 10), .ref (ad 11), .ref (ad 12), .ref (ad 13), .ref (ad 14), .ref (ad 15), .int v16, .int v18, .ref (ad 16), .int v20, .int v22, .int v24, .int v26, .int v27, .ref (ad 17), .ref (ad 18), .int v28, .ref (ad 19)]) := c29
  refine lv_aload_n hx hb dX12_fails_0 rfl (lv_at hl 0 rfl) ?_
  refine xget E hQ 0 (by decide) c29 rfl 12 (by decide) q1480 rfl dX12_fails_1 ?_
  refine lv_if_eq (tgt := 8) hx hb dX12_fails_4 (by decide) (fun k30 => ?_) (fun k30 => ?_)
  · have h31 := ib_eq k30
    have b32 : Bd v11 (0) (0) := ⟨(b12).1, ((rf_eq b12 (by decide : Bd 0 (0) (0)) h31).1).2⟩
    refine lv_aload_n hx hb dX12_fails_8 rfl (lv_at hl 0 rfl) ?_
    refine lv_iload_n hx hb dX12_fails_9 rfl (lv_at hl 1 rfl) ?_
    refine xputi E hs hQ 0 (by decide) c29 rfl 12 (by decide) q1480 rfl rfl (Nat.le_of_ble_eq_true rfl) dX12_fails_10 (fun H locs S33 eS33 hQ => ?_)
    have hI := invM_up_0 hI eS33 ⟨v1, v2, v4, v6, v8, v9, w10, a1, v13, v14, v15, v16, v18, v20, v22, v24, v26, v27, v28, rfl, b3, b5, b7, (ib_wk ba1 (by decide) (by decide)), b17, b19, b21, b23, b25⟩
    have c34 : S33 0 = .inr (12, [.int v1, .ref (ad 1), .ref (ad 2), .ref (ad 3), .ref (ad 4), .ref (ad 5), .int v2, .int v4, .int v6, .int v8, .int v9, .long w10, .int a1, .int v13, .int v14, .int v15, .ref (ad 6), .ref (ad 7), .ref (ad 8), .ref (ad 9), .ref (ad 10), .ref (ad 11), .ref (ad 12), .ref (ad 13), .ref (ad 14), .ref (ad 15), .int v16, .int v18, .ref (ad 16), .int v20, .int v22, .int v24, .int v26, .int v27, .ref (ad 17), .ref (ad 18), .int v28, .ref (ad 19)]) := up_at eS33 rfl
    refine lv_aload_n hx hb dX12_fails_13 rfl (lv_at hl 0 rfl) ?_
    refine lv_aload_n hx hb dX12_fails_14 rfl (lv_at hl 0 rfl) ?_
    refine xget E hQ 0 (by decide) c34 rfl 9 (by decide) q1477 rfl dX12_fails_15 ?_
    refine xputi E hs hQ 0 (by decide) c34 rfl 13 (by decide) q1481 rfl rfl (Nat.le_of_ble_eq_true rfl) dX12_fails_18 (fun H locs S35 eS35 hQ => ?_)
    have hI := invM_up_0 hI eS35 ⟨v1, v2, v4, v6, v8, v9, w10, a1, v8, v14, v15, v16, v18, v20, v22, v24, v26, v27, v28, rfl, b3, b5, b7, (ib_wk ba1 (by decide) (by decide)), b17, b19, b21, b23, b25⟩
    have c36 : S35 0 = .inr (12, [.int v1, .ref (ad 1), .ref (ad 2), .ref (ad 3), .ref (ad 4), .ref (ad 5), .int v2, .int v4, .int v6, .int v8, .int v9, .long w10, .int a1, .int v8, .int v14, .int v15, .ref (ad 6), .ref (ad 7), .ref (ad 8), .ref (ad 9), .ref (ad 10), .ref (ad 11), .ref (ad 12), .ref (ad 13), .ref (ad 14), .ref (ad 15), .int v16, .int v18, .ref (ad 16), .int v20, .int v22, .int v24, .int v26, .int v27, .ref (ad 17), .ref (ad 18), .int v28, .ref (ad 19)]) := up_at eS35 rfl
    have q37 : fld (S35 0) 12 = a1.toInt := fld_of c36 rfl
    have q38 : fld (S 0) 6 = v2.toInt := fld_of c29 rfl
    have q39 : fld (S35 0) 6 = v2.toInt := fld_of c36 rfl
    have q40 : fld (S 0) 7 = v4.toInt := fld_of c29 rfl
    have q41 : fld (S35 0) 7 = v4.toInt := fld_of c36 rfl
    have q42 : fld (S 0) 8 = v6.toInt := fld_of c29 rfl
    have q43 : fld (S35 0) 8 = v6.toInt := fld_of c36 rfl
    exact xrv E hr hlk hQ (⟨hI, (up_o (up_o o_refl eS33 (by decide)) eS35 (by decide)), (by omega), ⟨by omega, by omega⟩, ⟨by omega, by omega⟩, ⟨by omega, by omega⟩⟩) dX12_fails_21
  · have h44 := ib_ne k30
    have b45 : Bd v11 (1) (3) := rf_nlo b12 (by decide : Bd 0 (0) (0)) h44
    have q46 : fld (S 0) 12 = v11.toInt := fld_of c29 rfl
    have q47 : fld (S 0) 6 = v2.toInt := fld_of c29 rfl
    have q48 : fld (S 0) 7 = v4.toInt := fld_of c29 rfl
    have q49 : fld (S 0) 8 = v6.toInt := fld_of c29 rfl
    exact xrv E hr hlk hQ (⟨hI, o_refl, (by omega), ⟨by omega, by omega⟩, ⟨by omega, by omega⟩, ⟨by omega, by omega⟩⟩) dX12_fails_7
set_option maxHeartbeats 4000000 in
set_option maxRecDepth 100000 in
theorem gX12_is_0 (l : Launch) (g : GG) (ad : Nat → Nat) (hD : Dj ad 20) (S : SS) (hI : InvM g ad S) (wa1 : Int64) : Met l yX12_is (wG (.code yX12_is cX12_is 3 (some .boolean))) (Rm 0) (XPre g ad 20 S [.ref (ad 0), .long wa1]) (va_Qi (fun r S' => S = S' ∧ Bd r (0) (1) ∧ ((r.toInt + (-1) < 0 ∨ (0 ≤ (-1) * fld (S 0) 12 ∧ 0 ≤ fld (S 0) 8 + (-1))))) (QB g ad 20) (FA ad 20)) 0 0 (FA ad 20) := by
  refine xmet cX12_is "EbbWreckModel" (by decide) rfl (Nat.le_of_ble_eq_true rfl) (fun p e s m below meth c E hr hlk hml hQ ls hl => ?_)
  have hx := E.1
  have hb := E.2.1
  have hs : Sp ad 20 (FA ad 20) := Sp.fa hD
  have hl : lv_has ls 3 [(0, .ref (ad 0)), (1, .long wa1)] := hl
  obtain ⟨v1, v2, v4, v6, v8, v9, w10, v11, v13, v14, v15, v16, v18, v20, v22, v24, v26, v27, v28, c29, b3, b5, b7, b12, b17, b19, b21, b23, b25⟩ := invM_0 hI
  have c29 : S 0 = .inr (12, [.int v1, .ref (ad 1), .ref (ad 2), .ref (ad 3), .ref (ad 4), .ref (ad 5), .int v2, .int v4, .int v6, .int v8, .int v9, .long w10, .int v11, .int v13, .int v14, .int v15, .ref (ad 6), .ref (ad 7), .ref (ad 8), .ref (ad 9), .ref (ad 10), .ref (ad 11), .ref (ad 12), .ref (ad 13), .ref (ad 14), .ref (ad 15), .int v16, .int v18, .ref (ad 16), .int v20, .int v22, .int v24, .int v26, .int v27, .ref (ad 17), .ref (ad 18), .int v28, .ref (ad 19)]) := c29
  refine lv_aload_n hx hb dX12_is_0 rfl (lv_at hl 0 rfl) ?_
  refine xget E hQ 0 (by decide) c29 rfl 12 (by decide) q1480 rfl dX12_is_1 ?_
  refine lv_if_ne (tgt := 28) hx hb dX12_is_4 (by decide) (fun k30 => ?_) (fun k30 => ?_)
  · have h31 := ib_ne k30
    have b32 : Bd v11 (1) (3) := rf_nlo b12 (by decide : Bd 0 (0) (0)) h31
    refine lv_iconst (v := 0) hx hb dX12_is_28 (by decide) ?_
    have q33 : fld (S 0) 12 = v11.toInt := fld_of c29 rfl
    have q34 : fld (S 0) 8 = v6.toInt := fld_of c29 rfl
    have q35 : (0 : Int32).toInt = 0 := by decide
    exact xrz E hr hlk hQ rfl (⟨rfl, (ib_wk (by decide : Bd 0 (0) (0)) (by decide) (by decide)), Or.inl (by omega)⟩) dX12_is_29
  · have h36 := ib_eq k30
    have b37 : Bd v11 (0) (0) := ⟨(b12).1, ((rf_eq b12 (by decide : Bd 0 (0) (0)) h36).1).2⟩
    refine lv_aload_n hx hb dX12_is_7 rfl (lv_at hl 0 rfl) ?_
    refine xget E hQ 0 (by decide) c29 rfl 8 (by decide) q1476 rfl dX12_is_8 ?_
    refine lv_iconst (v := 1) hx hb dX12_is_11 (by decide) ?_
    refine lv_icmp_ne (tgt := 28) hx hb dX12_is_12 (by decide) (fun k38 => ?_) (fun k38 => ?_)
    · have h39 := ib_ne k38
      refine lv_iconst (v := 0) hx hb dX12_is_28 (by decide) ?_
      have q40 : fld (S 0) 12 = v11.toInt := fld_of c29 rfl
      have q41 : fld (S 0) 8 = v6.toInt := fld_of c29 rfl
      have q42 : (0 : Int32).toInt = 0 := by decide
      exact xrz E hr hlk hQ rfl (⟨rfl, (ib_wk (by decide : Bd 0 (0) (0)) (by decide) (by decide)), Or.inl (by omega)⟩) dX12_is_29
    · have h43 := ib_eq k38
      have b44 : Bd v6 (1) (1) := ⟨((rf_eq b7 (by decide : Bd 1 (1) (1)) h43).1).1, ((rf_eq b7 (by decide : Bd 1 (1) (1)) h43).1).2⟩
      refine lv_aload_n hx hb dX12_is_15 rfl (lv_at hl 0 rfl) ?_
      refine xget E hQ 0 (by decide) c29 rfl 11 (by decide) q1479 rfl dX12_is_16 ?_
      refine lv_lload_n hx hb dX12_is_19 rfl (lv_at hl 1 rfl) ?_
      refine W.lcmp hx hb dX12_is_20 ?_
      refine lv_if_ne (tgt := 28) hx hb dX12_is_21 (by decide) (fun k45 => ?_) (fun k45 => ?_)
      · have h46 := lc_ne k45
        refine lv_iconst (v := 0) hx hb dX12_is_28 (by decide) ?_
        have q47 : fld (S 0) 12 = v11.toInt := fld_of c29 rfl
        have q48 : fld (S 0) 8 = v6.toInt := fld_of c29 rfl
        have q49 : (0 : Int32).toInt = 0 := by decide
        exact xrz E hr hlk hQ rfl (⟨rfl, (ib_wk (by decide : Bd 0 (0) (0)) (by decide) (by decide)), Or.inl (by omega)⟩) dX12_is_29
      · have h50 := lc_eq k45
        refine lv_iconst (v := 1) hx hb dX12_is_24 (by decide) ?_
        refine lv_goto (tgt := 29) hx hb dX12_is_25 (by decide) ?_
        have q51 : fld (S 0) 12 = v11.toInt := fld_of c29 rfl
        have q52 : fld (S 0) 8 = v6.toInt := fld_of c29 rfl
        have q53 : (1 : Int32).toInt = 1 := by decide
        exact xrz E hr hlk hQ rfl (⟨rfl, (ib_wk (by decide : Bd 1 (1) (1)) (by decide) (by decide)), Or.inr ⟨by omega, by omega⟩⟩) dX12_is_29
set_option maxHeartbeats 4000000 in
set_option maxRecDepth 100000 in
theorem gX12_takes_0 (l : Launch) (g : GG) (ad : Nat → Nat) (hD : Dj ad 20) (S : SS) (hI : InvM g ad S) (wa1 : Int64) (hq1 : 0 ≤ fld (S 0) 6 + (-1) * fld (S 0) 7) : Met l yX12_takes (wG (.code yX12_takes cX12_takes 3 (some .boolean))) (Rm 2) (XPre g ad 20 S [.ref (ad 0), .long wa1]) (va_Qi (fun r S' => InvM g ad S' ∧ (∀ j, j ∉ ([0] : List Nat) → S' j = S j) ∧ Bd r (0) (1) ∧ (0 ≤ fld (S' 0) 6 + (-1) * fld (S' 0) 7) ∧ (0 ≤ fld (S 0) 6 + (-1) * fld (S' 0) 6 ∧ 0 ≤ fld (S' 0) 6 + (-1) * fld (S 0) 6) ∧ (0 ≤ 4 * fld (S 0) 6 + (-4) * fld (S 0) 7 + fld (S 0) 8 + (-4) * fld (S' 0) 6 + 4 * fld (S' 0) 7 + (-1) * fld (S' 0) 8) ∧ (0 ≤ fld (S 0) 12 + (-1) * fld (S' 0) 12 ∧ 0 ≤ fld (S' 0) 12 + (-1) * fld (S 0) 12) ∧ ((r.toInt + (-1) < 0 ∨ (0 ≤ 4 * fld (S 0) 6 + (-4) * fld (S 0) 7 + fld (S 0) 8 + (-4) * fld (S' 0) 6 + 4 * fld (S' 0) 7 + (-1) * fld (S' 0) 8 + (-1))))) (QB g ad 20) (FA ad 20)) 0 0 (FA ad 20) := by
  refine xmet cX12_takes "EbbWreckModel" (by decide) rfl (Nat.le_of_ble_eq_true rfl) (fun p e s m below meth c E hr hlk hml hQ ls hl => ?_)
  have hx := E.1
  have hb := E.2.1
  have hs : Sp ad 20 (FA ad 20) := Sp.fa hD
  have hl : lv_has ls 3 [(0, .ref (ad 0)), (1, .long wa1)] := hl
  obtain ⟨v1, v2, v4, v6, v8, v9, w10, v11, v13, v14, v15, v16, v18, v20, v22, v24, v26, v27, v28, c29, b3, b5, b7, b12, b17, b19, b21, b23, b25⟩ := invM_0 hI
  have c29 : S 0 = .inr (12, [.int v1, .ref (ad 1), .ref (ad 2), .ref (ad 3), .ref (ad 4), .ref (ad 5), .int v2, .int v4, .int v6, .int v8, .int v9, .long w10, .int v11, .int v13, .int v14, .int v15, .ref (ad 6), .ref (ad 7), .ref (ad 8), .ref (ad 9), .ref (ad 10), .ref (ad 11), .ref (ad 12), .ref (ad 13), .ref (ad 14), .ref (ad 15), .int v16, .int v18, .ref (ad 16), .int v20, .int v22, .int v24, .int v26, .int v27, .ref (ad 17), .ref (ad 18), .int v28, .ref (ad 19)]) := c29
  have q30 : fld (S 0) 6 = v2.toInt := fld_of c29 rfl
  have q31 : fld (S 0) 7 = v4.toInt := fld_of c29 rfl
  refine lv_aload_n hx hb dX12_takes_0 rfl (lv_at hl 0 rfl) ?_
  refine lv_lload_n hx hb dX12_takes_1 rfl (lv_at hl 1 rfl) ?_
  refine xcVi E hs hQ hml hl.1 0 (gX12_is_0 l g ad hD S hI wa1) mX12_is q1663 (by decide) c29 rfl rfl ⟨(Nat.le_of_ble_eq_true rfl), (Nat.le_of_ble_eq_true rfl)⟩ ⟨(Nat.le_of_ble_eq_true rfl), (Nat.le_of_ble_eq_true rfl)⟩ (Nat.le_of_ble_eq_true rfl) rfl dX12_takes_2 (fun r32 S32 H locs hp32 hQ _ => ?_)
  obtain ⟨rfl, b32, g32_0⟩ := hp32
  have q33 : fld (S 0) 12 = v11.toInt := fld_of c29 rfl
  have q34 : fld (S 0) 8 = v6.toInt := fld_of c29 rfl
  refine lv_if_ne (tgt := 10) hx hb dX12_takes_5 (by decide) (fun k35 => ?_) (fun k35 => ?_)
  · have h36 := ib_ne k35
    have b37 : Bd r32 (1) (1) := rf_nlo b32 (by decide : Bd 0 (0) (0)) h36
    have g38 := g32_0.resolve_left (by omega)
    clear g32_0
    have b39 : Bd v11 (0) (0) := ⟨(b12).1, by omega⟩
    have b40 : Bd v6 (1) (4) := ⟨by omega, (b7).2⟩
    refine lv_aload_n hx hb dX12_takes_10 rfl (lv_at hl 0 rfl) ?_
    refine xcVv E hs hQ hml hl.1 0 (gX12_next_0 l g ad hD S hI (by omega)) mX12_next q1637 (by decide) c29 rfl rfl ⟨(Nat.le_of_ble_eq_true rfl), (Nat.le_of_ble_eq_true rfl)⟩ ⟨(Nat.le_of_ble_eq_true rfl), (Nat.le_of_ble_eq_true rfl)⟩ (Nat.le_of_ble_eq_true rfl) rfl dX12_takes_11 (fun S41 H locs hp41 hQ _ => ?_)
    obtain ⟨hI, o41, g41_0, g41_1, g41_2, g41_3, g41_4⟩ := hp41
    obtain ⟨v42, v43, v45, v47, v49, v50, w51, v52, v54, v55, v56, v57, v59, v61, v63, v65, v67, v68, v69, c70, b44, b46, b48, b53, b58, b60, b62, b64, b66⟩ := invM_0 hI
    have c70 : S41 0 = .inr (12, [.int v42, .ref (ad 1), .ref (ad 2), .ref (ad 3), .ref (ad 4), .ref (ad 5), .int v43, .int v45, .int v47, .int v49, .int v50, .long w51, .int v52, .int v54, .int v55, .int v56, .ref (ad 6), .ref (ad 7), .ref (ad 8), .ref (ad 9), .ref (ad 10), .ref (ad 11), .ref (ad 12), .ref (ad 13), .ref (ad 14), .ref (ad 15), .int v57, .int v59, .ref (ad 16), .int v61, .int v63, .int v65, .int v67, .int v68, .ref (ad 17), .ref (ad 18), .int v69, .ref (ad 19)]) := c70
    have q71 : fld (S41 0) 6 = v43.toInt := fld_of c70 rfl
    have q72 : fld (S41 0) 7 = v45.toInt := fld_of c70 rfl
    have q73 : fld (S41 0) 12 = v52.toInt := fld_of c70 rfl
    have b74 : Bd v52 (0) (0) := ⟨(b53).1, by omega⟩
    have q75 : fld (S41 0) 8 = v47.toInt := fld_of c70 rfl
    refine lv_iconst (v := 1) hx hb dX12_takes_14 (by decide) ?_
    have q76 : (1 : Int32).toInt = 1 := by decide
    exact xrz E hr hlk hQ rfl (⟨hI, (o_trans o_refl o41 (by decide)), (ib_wk (by decide : Bd 1 (1) (1)) (by decide) (by decide)), (by omega), ⟨by omega, by omega⟩, (by omega), ⟨by omega, by omega⟩, Or.inr (by omega)⟩) dX12_takes_15
  · have h77 := ib_eq k35
    have b78 : Bd r32 (0) (0) := ⟨(b32).1, ((rf_eq b32 (by decide : Bd 0 (0) (0)) h77).1).2⟩
    clear g32_0
    refine lv_iconst (v := 0) hx hb dX12_takes_8 (by decide) ?_
    have q79 : (0 : Int32).toInt = 0 := by decide
    exact xrz E hr hlk hQ rfl (⟨hI, o_refl, (ib_wk (by decide : Bd 0 (0) (0)) (by decide) (by decide)), (by omega), ⟨by omega, by omega⟩, (by omega), ⟨by omega, by omega⟩, Or.inl (by omega)⟩) dX12_takes_9
set_option maxHeartbeats 4000000 in
set_option maxRecDepth 100000 in
theorem gX12_asks_0 (l : Launch) (g : GG) (ad : Nat → Nat) (hD : Dj ad 20) (S : SS) (hI : InvM g ad S) (wa1 : Int64) (hq1 : 0 ≤ fld (S 0) 6 + (-1) * fld (S 0) 7) : Met l yX12_asks (wG (.code yX12_asks cX12_asks 3 none)) (Rm 3) (XPre g ad 20 S [.ref (ad 0), .long wa1]) (va_Qv (fun S' => InvM g ad S' ∧ (∀ j, j ∉ ([0] : List Nat) → S' j = S j) ∧ (0 ≤ fld (S' 0) 6 + (-1) * fld (S' 0) 7) ∧ (0 ≤ fld (S 0) 6 + (-1) * fld (S' 0) 6 ∧ 0 ≤ fld (S' 0) 6 + (-1) * fld (S 0) 6) ∧ (0 ≤ 4 * fld (S 0) 6 + (-4) * fld (S 0) 7 + fld (S 0) 8 + (-4) * fld (S' 0) 6 + 4 * fld (S' 0) 7 + (-1) * fld (S' 0) 8)) (QB g ad 20) (FA ad 20)) 0 0 (FA ad 20) := by
  refine xmet cX12_asks "EbbWreckModel" (by decide) rfl (Nat.le_of_ble_eq_true rfl) (fun p e s m below meth c E hr hlk hml hQ ls hl => ?_)
  have hx := E.1
  have hb := E.2.1
  have hs : Sp ad 20 (FA ad 20) := Sp.fa hD
  have hl : lv_has ls 3 [(0, .ref (ad 0)), (1, .long wa1)] := hl
  obtain ⟨v1, v2, v4, v6, v8, v9, w10, v11, v13, v14, v15, v16, v18, v20, v22, v24, v26, v27, v28, c29, b3, b5, b7, b12, b17, b19, b21, b23, b25⟩ := invM_0 hI
  have c29 : S 0 = .inr (12, [.int v1, .ref (ad 1), .ref (ad 2), .ref (ad 3), .ref (ad 4), .ref (ad 5), .int v2, .int v4, .int v6, .int v8, .int v9, .long w10, .int v11, .int v13, .int v14, .int v15, .ref (ad 6), .ref (ad 7), .ref (ad 8), .ref (ad 9), .ref (ad 10), .ref (ad 11), .ref (ad 12), .ref (ad 13), .ref (ad 14), .ref (ad 15), .int v16, .int v18, .ref (ad 16), .int v20, .int v22, .int v24, .int v26, .int v27, .ref (ad 17), .ref (ad 18), .int v28, .ref (ad 19)]) := c29
  have q30 : fld (S 0) 6 = v2.toInt := fld_of c29 rfl
  have q31 : fld (S 0) 7 = v4.toInt := fld_of c29 rfl
  refine lv_aload_n hx hb dX12_asks_0 rfl (lv_at hl 0 rfl) ?_
  refine lv_lload_n hx hb dX12_asks_1 rfl (lv_at hl 1 rfl) ?_
  refine xcVi E hs hQ hml hl.1 0 (gX12_takes_0 l g ad hD S hI wa1 (by omega)) mX12_takes q1659 (by decide) c29 rfl rfl ⟨(Nat.le_of_ble_eq_true rfl), (Nat.le_of_ble_eq_true rfl)⟩ ⟨(Nat.le_of_ble_eq_true rfl), (Nat.le_of_ble_eq_true rfl)⟩ (Nat.le_of_ble_eq_true rfl) rfl dX12_asks_2 (fun r32 S32 H locs hp32 hQ _ => ?_)
  obtain ⟨hI, o32, b32, g32_0, g32_1, g32_2, g32_3, g32_4⟩ := hp32
  obtain ⟨v33, v34, v36, v38, v40, v41, w42, v43, v45, v46, v47, v48, v50, v52, v54, v56, v58, v59, v60, c61, b35, b37, b39, b44, b49, b51, b53, b55, b57⟩ := invM_0 hI
  have c61 : S32 0 = .inr (12, [.int v33, .ref (ad 1), .ref (ad 2), .ref (ad 3), .ref (ad 4), .ref (ad 5), .int v34, .int v36, .int v38, .int v40, .int v41, .long w42, .int v43, .int v45, .int v46, .int v47, .ref (ad 6), .ref (ad 7), .ref (ad 8), .ref (ad 9), .ref (ad 10), .ref (ad 11), .ref (ad 12), .ref (ad 13), .ref (ad 14), .ref (ad 15), .int v48, .int v50, .ref (ad 16), .int v52, .int v54, .int v56, .int v58, .int v59, .ref (ad 17), .ref (ad 18), .int v60, .ref (ad 19)]) := c61
  have q62 : fld (S32 0) 6 = v34.toInt := fld_of c61 rfl
  have q63 : fld (S32 0) 7 = v36.toInt := fld_of c61 rfl
  have q64 : fld (S 0) 8 = v6.toInt := fld_of c29 rfl
  have q65 : fld (S32 0) 8 = v38.toInt := fld_of c61 rfl
  have q66 : fld (S 0) 12 = v11.toInt := fld_of c29 rfl
  have q67 : fld (S32 0) 12 = v43.toInt := fld_of c61 rfl
  refine lv_if_ne (tgt := 13) hx hb dX12_asks_5 (by decide) (fun k68 => ?_) (fun k68 => ?_)
  · have h69 := ib_ne k68
    have b70 : Bd r32 (1) (1) := rf_nlo b32 (by decide : Bd 0 (0) (0)) h69
    have g71 := g32_4.resolve_left (by omega)
    clear g32_4
    exact xrv E hr hlk hQ (⟨hI, (o_trans o_refl o32 (by decide)), (by omega), ⟨by omega, by omega⟩, (by omega)⟩) dX12_asks_13
  · have h72 := ib_eq k68
    have b73 : Bd r32 (0) (0) := ⟨(b32).1, ((rf_eq b32 (by decide : Bd 0 (0) (0)) h72).1).2⟩
    clear g32_4
    refine lv_aload_n hx hb dX12_asks_8 rfl (lv_at hl 0 rfl) ?_
    refine lv_iconst (v := 1) hx hb dX12_asks_9 (by decide) ?_
    refine xcVv E hs hQ hml hl.1 0 (gX12_fails_0 l g ad hD S32 hI 1 (ib_wk (by decide : Bd 1 (1) (1)) (by decide) (by decide))) mX12_fails q1667 (by decide) c61 rfl rfl ⟨(Nat.le_of_ble_eq_true rfl), (Nat.le_of_ble_eq_true rfl)⟩ ⟨(Nat.le_of_ble_eq_true rfl), (Nat.le_of_ble_eq_true rfl)⟩ (Nat.le_of_ble_eq_true rfl) rfl dX12_asks_10 (fun S74 H locs hp74 hQ _ => ?_)
    obtain ⟨hI, o74, g74_0, g74_1, g74_2, g74_3⟩ := hp74
    obtain ⟨v75, v76, v78, v80, v82, v83, w84, v85, v87, v88, v89, v90, v92, v94, v96, v98, v100, v101, v102, c103, b77, b79, b81, b86, b91, b93, b95, b97, b99⟩ := invM_0 hI
    have c103 : S74 0 = .inr (12, [.int v75, .ref (ad 1), .ref (ad 2), .ref (ad 3), .ref (ad 4), .ref (ad 5), .int v76, .int v78, .int v80, .int v82, .int v83, .long w84, .int v85, .int v87, .int v88, .int v89, .ref (ad 6), .ref (ad 7), .ref (ad 8), .ref (ad 9), .ref (ad 10), .ref (ad 11), .ref (ad 12), .ref (ad 13), .ref (ad 14), .ref (ad 15), .int v90, .int v92, .ref (ad 16), .int v94, .int v96, .int v98, .int v100, .int v101, .ref (ad 17), .ref (ad 18), .int v102, .ref (ad 19)]) := c103
    have q104 : fld (S74 0) 12 = v85.toInt := fld_of c103 rfl
    have b105 : Bd v85 (1) (3) := ⟨by omega, (b86).2⟩
    have q106 : fld (S74 0) 6 = v76.toInt := fld_of c103 rfl
    have q107 : fld (S74 0) 7 = v78.toInt := fld_of c103 rfl
    have q108 : fld (S74 0) 8 = v80.toInt := fld_of c103 rfl
    exact xrv E hr hlk hQ (⟨hI, (o_trans (o_trans o_refl o32 (by decide)) o74 (by decide)), (by omega), ⟨by omega, by omega⟩, (by omega)⟩) dX12_asks_13
set_option maxHeartbeats 4000000 in
set_option maxRecDepth 100000 in
theorem gX12_number_0 (l : Launch) (g : GG) (ad : Nat → Nat) (hD : Dj ad 20) (S : SS) (hI : InvM g ad S) (a1 : Int32) (a2 : Int32) (ba1 : Bd a1 (3) (3)) (ba2 : Bd a2 (12) (12)) (hq1 : 0 ≤ fld (S 0) 6 + (-1) * fld (S 0) 7) : Met l yX12_number (wG (.code yX12_number cX12_number 4 (some .int))) (Rm 2) (XPre g ad 20 S [.ref (ad 0), .int a1, .int a2]) (va_Qi (fun r S' => InvM g ad S' ∧ (∀ j, j ∉ ([0] : List Nat) → S' j = S j) ∧ Bd r (3) (12) ∧ (0 ≤ fld (S' 0) 6 + (-1) * fld (S' 0) 7) ∧ (0 ≤ fld (S 0) 6 + (-1) * fld (S' 0) 6 ∧ 0 ≤ fld (S' 0) 6 + (-1) * fld (S 0) 6) ∧ (0 ≤ 4 * fld (S 0) 6 + (-4) * fld (S 0) 7 + fld (S 0) 8 + (-4) * fld (S' 0) 6 + 4 * fld (S' 0) 7 + (-1) * fld (S' 0) 8)) (QB g ad 20) (FA ad 20)) 0 0 (FA ad 20) := by
  refine xmet cX12_number "EbbWreckModel" (by decide) rfl (Nat.le_of_ble_eq_true rfl) (fun p e s m below meth c E hr hlk hml hQ ls hl => ?_)
  have hx := E.1
  have hb := E.2.1
  have hs : Sp ad 20 (FA ad 20) := Sp.fa hD
  have hl : lv_has ls 4 [(0, .ref (ad 0)), (1, .int a1), (2, .int a2)] := hl
  obtain ⟨v1, v2, v4, v6, v8, v9, w10, v11, v13, v14, v15, v16, v18, v20, v22, v24, v26, v27, v28, c29, b3, b5, b7, b12, b17, b19, b21, b23, b25⟩ := invM_0 hI
  have c29 : S 0 = .inr (12, [.int v1, .ref (ad 1), .ref (ad 2), .ref (ad 3), .ref (ad 4), .ref (ad 5), .int v2, .int v4, .int v6, .int v8, .int v9, .long w10, .int v11, .int v13, .int v14, .int v15, .ref (ad 6), .ref (ad 7), .ref (ad 8), .ref (ad 9), .ref (ad 10), .ref (ad 11), .ref (ad 12), .ref (ad 13), .ref (ad 14), .ref (ad 15), .int v16, .int v18, .ref (ad 16), .int v20, .int v22, .int v24, .int v26, .int v27, .ref (ad 17), .ref (ad 18), .int v28, .ref (ad 19)]) := c29
  have q30 : fld (S 0) 6 = v2.toInt := fld_of c29 rfl
  have q31 : fld (S 0) 7 = v4.toInt := fld_of c29 rfl
  refine lv_aload_n hx hb dX12_number_0 rfl (lv_at hl 0 rfl) ?_
  refine xget E hQ 0 (by decide) c29 rfl 12 (by decide) q1480 rfl dX12_number_1 ?_
  refine lv_if_eq (tgt := 9) hx hb dX12_number_4 (by decide) (fun k32 => ?_) (fun k32 => ?_)
  · have h33 := ib_eq k32
    have b34 : Bd v11 (0) (0) := ⟨(b12).1, ((rf_eq b12 (by decide : Bd 0 (0) (0)) h33).1).2⟩
    refine lv_aload_n hx hb dX12_number_9 rfl (lv_at hl 0 rfl) ?_
    refine xget E hQ 0 (by decide) c29 rfl 8 (by decide) q1476 rfl dX12_number_10 ?_
    refine lv_iconst (v := 2) hx hb dX12_number_13 (by decide) ?_
    refine lv_icmp_eq (tgt := 24) hx hb dX12_number_14 (by decide) (fun k35 => ?_) (fun k35 => ?_)
    · have h36 := ib_eq k35
      have b37 : Bd v6 (2) (2) := ⟨((rf_eq b7 (by decide : Bd 2 (2) (2)) h36).1).1, ((rf_eq b7 (by decide : Bd 2 (2) (2)) h36).1).2⟩
      refine lv_aload_n hx hb dX12_number_24 rfl (lv_at hl 0 rfl) ?_
      refine xget E hQ 0 (by decide) c29 rfl 10 (by decide) q1478 rfl dX12_number_25 ?_
      refine lv_i2l hx hb dX12_number_28 rfl ?_
      refine lv_topl (fun w38 e39 => ?_)
      have t40 : w38.toInt = v9.toInt := by rw [e39]; exact i2l_i _
      have b41 : BdL w38 (-2147483648) (2147483647) := (by have h1 := ((ib_full v9)).1; have h2 := ((ib_full v9)).2; exact ⟨by omega, by omega⟩)
      refine lv_iload_n hx hb dX12_number_29 rfl (lv_at hl 1 rfl) ?_
      refine lv_i2l hx hb dX12_number_30 rfl ?_
      refine lv_topl (fun w42 e43 => ?_)
      have t44 : w42.toInt = a1.toInt := by rw [e43]; exact i2l_i _
      have b45 : BdL w42 (3) (3) := (by have h1 := (ba1).1; have h2 := (ba1).2; exact ⟨by omega, by omega⟩)
      refine lv_iload_n hx hb dX12_number_31 rfl (lv_at hl 2 rfl) ?_
      refine lv_i2l hx hb dX12_number_32 rfl ?_
      refine lv_topl (fun w46 e47 => ?_)
      have t48 : w46.toInt = a2.toInt := by rw [e47]; exact i2l_i _
      have b49 : BdL w46 (12) (12) := (by have h1 := (ba2).1; have h2 := (ba2).2; exact ⟨by omega, by omega⟩)
      refine xcSi E hs hQ hml hl.1 (gX12_in l g ad hD S hI w38 w42 w46) mX12_in q1591 rfl ⟨(Nat.le_of_ble_eq_true rfl), (Nat.le_of_ble_eq_true rfl)⟩ ⟨(Nat.le_of_ble_eq_true rfl), (Nat.le_of_ble_eq_true rfl)⟩ (Nat.le_of_ble_eq_true rfl) rfl dX12_number_33 (fun r50 S50 H locs hp50 hQ => ?_)
      obtain ⟨rfl, b50, g50_0, u50_0⟩ := hp50
      refine lv_if_ne (tgt := 46) hx hb dX12_number_36 (by decide) (fun k51 => ?_) (fun k51 => ?_)
      · have h52 := ib_ne k51
        have b53 : Bd r50 (1) (1) := rf_nlo b50 (by decide : Bd 0 (0) (0)) h52
        have g54 := g50_0.resolve_left (by omega)
        clear g50_0
        have b55 : BdL w38 (3) (12) := ⟨by omega, by omega⟩
        have b56 : Bd v9 (3) (12) := ⟨by omega, by omega⟩
        refine lv_aload_n hx hb dX12_number_46 rfl (lv_at hl 0 rfl) ?_
        refine xget E hQ 0 (by decide) c29 rfl 10 (by decide) q1478 rfl dX12_number_47 ?_
        refine lv_istore_n (lv' := [(3, .int v9), (0, .ref (ad 0)), (1, .int a1), (2, .int a2)]) hx hb dX12_number_50 rfl hl (by decide) rfl (fun ls hl => ?_)
        refine lv_aload_n hx hb dX12_number_51 rfl (lv_at hl 1 rfl) ?_
        refine xcVv E hs hQ hml hl.1 0 (gX12_next_0 l g ad hD S hI (by omega)) mX12_next q1637 (by decide) c29 rfl rfl ⟨(Nat.le_of_ble_eq_true rfl), (Nat.le_of_ble_eq_true rfl)⟩ ⟨(Nat.le_of_ble_eq_true rfl), (Nat.le_of_ble_eq_true rfl)⟩ (Nat.le_of_ble_eq_true rfl) rfl dX12_number_52 (fun S57 H locs hp57 hQ _ => ?_)
        obtain ⟨hI, o57, g57_0, g57_1, g57_2, g57_3, g57_4⟩ := hp57
        obtain ⟨v58, v59, v61, v63, v65, v66, w67, v68, v70, v71, v72, v73, v75, v77, v79, v81, v83, v84, v85, c86, b60, b62, b64, b69, b74, b76, b78, b80, b82⟩ := invM_0 hI
        have c86 : S57 0 = .inr (12, [.int v58, .ref (ad 1), .ref (ad 2), .ref (ad 3), .ref (ad 4), .ref (ad 5), .int v59, .int v61, .int v63, .int v65, .int v66, .long w67, .int v68, .int v70, .int v71, .int v72, .ref (ad 6), .ref (ad 7), .ref (ad 8), .ref (ad 9), .ref (ad 10), .ref (ad 11), .ref (ad 12), .ref (ad 13), .ref (ad 14), .ref (ad 15), .int v73, .int v75, .ref (ad 16), .int v77, .int v79, .int v81, .int v83, .int v84, .ref (ad 17), .ref (ad 18), .int v85, .ref (ad 19)]) := c86
        have q87 : fld (S57 0) 6 = v59.toInt := fld_of c86 rfl
        have q88 : fld (S57 0) 7 = v61.toInt := fld_of c86 rfl
        have q89 : fld (S 0) 12 = v11.toInt := fld_of c29 rfl
        have q90 : fld (S57 0) 12 = v68.toInt := fld_of c86 rfl
        have b91 : Bd v68 (0) (0) := ⟨(b69).1, by omega⟩
        have q92 : fld (S57 0) 8 = v63.toInt := fld_of c86 rfl
        refine lv_iload_n hx hb dX12_number_55 rfl (lv_at hl 0 rfl) ?_
        have q93 : fld (S 0) 8 = v6.toInt := fld_of c29 rfl
        exact xri E hr hlk hQ (⟨hI, (o_trans o_refl o57 (by decide)), b56, (by omega), ⟨by omega, by omega⟩, (by omega)⟩) dX12_number_56
      · have h94 := ib_eq k51
        have b95 : Bd r50 (0) (0) := ⟨(b50).1, ((rf_eq b50 (by decide : Bd 0 (0) (0)) h94).1).2⟩
        clear g50_0
        refine lv_aload_n hx hb dX12_number_39 rfl (lv_at hl 0 rfl) ?_
        refine lv_iconst (v := 2) hx hb dX12_number_40 (by decide) ?_
        refine xcVv E hs hQ hml hl.1 0 (gX12_fails_0 l g ad hD S hI 2 (ib_wk (by decide : Bd 2 (2) (2)) (by decide) (by decide))) mX12_fails q1667 (by decide) c29 rfl rfl ⟨(Nat.le_of_ble_eq_true rfl), (Nat.le_of_ble_eq_true rfl)⟩ ⟨(Nat.le_of_ble_eq_true rfl), (Nat.le_of_ble_eq_true rfl)⟩ (Nat.le_of_ble_eq_true rfl) rfl dX12_number_41 (fun S96 H locs hp96 hQ _ => ?_)
        obtain ⟨hI, o96, g96_0, g96_1, g96_2, g96_3⟩ := hp96
        obtain ⟨v97, v98, v100, v102, v104, v105, w106, v107, v109, v110, v111, v112, v114, v116, v118, v120, v122, v123, v124, c125, b99, b101, b103, b108, b113, b115, b117, b119, b121⟩ := invM_0 hI
        have c125 : S96 0 = .inr (12, [.int v97, .ref (ad 1), .ref (ad 2), .ref (ad 3), .ref (ad 4), .ref (ad 5), .int v98, .int v100, .int v102, .int v104, .int v105, .long w106, .int v107, .int v109, .int v110, .int v111, .ref (ad 6), .ref (ad 7), .ref (ad 8), .ref (ad 9), .ref (ad 10), .ref (ad 11), .ref (ad 12), .ref (ad 13), .ref (ad 14), .ref (ad 15), .int v112, .int v114, .ref (ad 16), .int v116, .int v118, .int v120, .int v122, .int v123, .ref (ad 17), .ref (ad 18), .int v124, .ref (ad 19)]) := c125
        have q126 : fld (S96 0) 12 = v107.toInt := fld_of c125 rfl
        have b127 : Bd v107 (1) (3) := ⟨by omega, (b108).2⟩
        have q128 : fld (S96 0) 6 = v98.toInt := fld_of c125 rfl
        have q129 : fld (S96 0) 7 = v100.toInt := fld_of c125 rfl
        have q130 : fld (S 0) 8 = v6.toInt := fld_of c29 rfl
        have q131 : fld (S96 0) 8 = v102.toInt := fld_of c125 rfl
        have b132 : Bd v102 (2) (2) := ⟨by omega, by omega⟩
        refine lv_iload_n hx hb dX12_number_44 rfl (lv_at hl 1 rfl) ?_
        exact xri E hr hlk hQ (⟨hI, (o_trans o_refl o96 (by decide)), (ib_wk ba1 (by decide) (by decide)), (by omega), ⟨by omega, by omega⟩, (by omega)⟩) dX12_number_45
    · have h133 := ib_ne k35
      refine lv_aload_n hx hb dX12_number_17 rfl (lv_at hl 0 rfl) ?_
      refine lv_iconst (v := 1) hx hb dX12_number_18 (by decide) ?_
      refine xcVv E hs hQ hml hl.1 0 (gX12_fails_0 l g ad hD S hI 1 (ib_wk (by decide : Bd 1 (1) (1)) (by decide) (by decide))) mX12_fails q1667 (by decide) c29 rfl rfl ⟨(Nat.le_of_ble_eq_true rfl), (Nat.le_of_ble_eq_true rfl)⟩ ⟨(Nat.le_of_ble_eq_true rfl), (Nat.le_of_ble_eq_true rfl)⟩ (Nat.le_of_ble_eq_true rfl) rfl dX12_number_19 (fun S134 H locs hp134 hQ _ => ?_)
      obtain ⟨hI, o134, g134_0, g134_1, g134_2, g134_3⟩ := hp134
      obtain ⟨v135, v136, v138, v140, v142, v143, w144, v145, v147, v148, v149, v150, v152, v154, v156, v158, v160, v161, v162, c163, b137, b139, b141, b146, b151, b153, b155, b157, b159⟩ := invM_0 hI
      have c163 : S134 0 = .inr (12, [.int v135, .ref (ad 1), .ref (ad 2), .ref (ad 3), .ref (ad 4), .ref (ad 5), .int v136, .int v138, .int v140, .int v142, .int v143, .long w144, .int v145, .int v147, .int v148, .int v149, .ref (ad 6), .ref (ad 7), .ref (ad 8), .ref (ad 9), .ref (ad 10), .ref (ad 11), .ref (ad 12), .ref (ad 13), .ref (ad 14), .ref (ad 15), .int v150, .int v152, .ref (ad 16), .int v154, .int v156, .int v158, .int v160, .int v161, .ref (ad 17), .ref (ad 18), .int v162, .ref (ad 19)]) := c163
      have q164 : fld (S134 0) 12 = v145.toInt := fld_of c163 rfl
      have b165 : Bd v145 (1) (3) := ⟨by omega, (b146).2⟩
      have q166 : fld (S134 0) 6 = v136.toInt := fld_of c163 rfl
      have q167 : fld (S134 0) 7 = v138.toInt := fld_of c163 rfl
      have q168 : fld (S 0) 8 = v6.toInt := fld_of c29 rfl
      have q169 : fld (S134 0) 8 = v140.toInt := fld_of c163 rfl
      refine lv_iload_n hx hb dX12_number_22 rfl (lv_at hl 1 rfl) ?_
      exact xri E hr hlk hQ (⟨hI, (o_trans o_refl o134 (by decide)), (ib_wk ba1 (by decide) (by decide)), (by omega), ⟨by omega, by omega⟩, (by omega)⟩) dX12_number_23
  · have h170 := ib_ne k32
    have b171 : Bd v11 (1) (3) := rf_nlo b12 (by decide : Bd 0 (0) (0)) h170
    refine lv_iload_n hx hb dX12_number_7 rfl (lv_at hl 1 rfl) ?_
    have q172 : fld (S 0) 8 = v6.toInt := fld_of c29 rfl
    exact xri E hr hlk hQ (⟨hI, o_refl, (ib_wk ba1 (by decide) (by decide)), (by omega), ⟨by omega, by omega⟩, (by omega)⟩) dX12_number_8
set_option maxHeartbeats 4000000 in
set_option maxRecDepth 100000 in
theorem gX12_number_1 (l : Launch) (g : GG) (ad : Nat → Nat) (hD : Dj ad 20) (S : SS) (hI : InvM g ad S) (a1 : Int32) (a2 : Int32) (ba1 : Bd a1 (1) (1)) (ba2 : Bd a2 (12) (12)) (hq1 : 0 ≤ fld (S 0) 6 + (-1) * fld (S 0) 7) : Met l yX12_number (wG (.code yX12_number cX12_number 4 (some .int))) (Rm 2) (XPre g ad 20 S [.ref (ad 0), .int a1, .int a2]) (va_Qi (fun r S' => InvM g ad S' ∧ (∀ j, j ∉ ([0] : List Nat) → S' j = S j) ∧ Bd r (1) (12) ∧ (0 ≤ fld (S' 0) 6 + (-1) * fld (S' 0) 7) ∧ (0 ≤ fld (S 0) 6 + (-1) * fld (S' 0) 6 ∧ 0 ≤ fld (S' 0) 6 + (-1) * fld (S 0) 6) ∧ (0 ≤ 4 * fld (S 0) 6 + (-4) * fld (S 0) 7 + fld (S 0) 8 + (-4) * fld (S' 0) 6 + 4 * fld (S' 0) 7 + (-1) * fld (S' 0) 8)) (QB g ad 20) (FA ad 20)) 0 0 (FA ad 20) := by
  refine xmet cX12_number "EbbWreckModel" (by decide) rfl (Nat.le_of_ble_eq_true rfl) (fun p e s m below meth c E hr hlk hml hQ ls hl => ?_)
  have hx := E.1
  have hb := E.2.1
  have hs : Sp ad 20 (FA ad 20) := Sp.fa hD
  have hl : lv_has ls 4 [(0, .ref (ad 0)), (1, .int a1), (2, .int a2)] := hl
  obtain ⟨v1, v2, v4, v6, v8, v9, w10, v11, v13, v14, v15, v16, v18, v20, v22, v24, v26, v27, v28, c29, b3, b5, b7, b12, b17, b19, b21, b23, b25⟩ := invM_0 hI
  have c29 : S 0 = .inr (12, [.int v1, .ref (ad 1), .ref (ad 2), .ref (ad 3), .ref (ad 4), .ref (ad 5), .int v2, .int v4, .int v6, .int v8, .int v9, .long w10, .int v11, .int v13, .int v14, .int v15, .ref (ad 6), .ref (ad 7), .ref (ad 8), .ref (ad 9), .ref (ad 10), .ref (ad 11), .ref (ad 12), .ref (ad 13), .ref (ad 14), .ref (ad 15), .int v16, .int v18, .ref (ad 16), .int v20, .int v22, .int v24, .int v26, .int v27, .ref (ad 17), .ref (ad 18), .int v28, .ref (ad 19)]) := c29
  have q30 : fld (S 0) 6 = v2.toInt := fld_of c29 rfl
  have q31 : fld (S 0) 7 = v4.toInt := fld_of c29 rfl
  refine lv_aload_n hx hb dX12_number_0 rfl (lv_at hl 0 rfl) ?_
  refine xget E hQ 0 (by decide) c29 rfl 12 (by decide) q1480 rfl dX12_number_1 ?_
  refine lv_if_eq (tgt := 9) hx hb dX12_number_4 (by decide) (fun k32 => ?_) (fun k32 => ?_)
  · have h33 := ib_eq k32
    have b34 : Bd v11 (0) (0) := ⟨(b12).1, ((rf_eq b12 (by decide : Bd 0 (0) (0)) h33).1).2⟩
    refine lv_aload_n hx hb dX12_number_9 rfl (lv_at hl 0 rfl) ?_
    refine xget E hQ 0 (by decide) c29 rfl 8 (by decide) q1476 rfl dX12_number_10 ?_
    refine lv_iconst (v := 2) hx hb dX12_number_13 (by decide) ?_
    refine lv_icmp_eq (tgt := 24) hx hb dX12_number_14 (by decide) (fun k35 => ?_) (fun k35 => ?_)
    · have h36 := ib_eq k35
      have b37 : Bd v6 (2) (2) := ⟨((rf_eq b7 (by decide : Bd 2 (2) (2)) h36).1).1, ((rf_eq b7 (by decide : Bd 2 (2) (2)) h36).1).2⟩
      refine lv_aload_n hx hb dX12_number_24 rfl (lv_at hl 0 rfl) ?_
      refine xget E hQ 0 (by decide) c29 rfl 10 (by decide) q1478 rfl dX12_number_25 ?_
      refine lv_i2l hx hb dX12_number_28 rfl ?_
      refine lv_topl (fun w38 e39 => ?_)
      have t40 : w38.toInt = v9.toInt := by rw [e39]; exact i2l_i _
      have b41 : BdL w38 (-2147483648) (2147483647) := (by have h1 := ((ib_full v9)).1; have h2 := ((ib_full v9)).2; exact ⟨by omega, by omega⟩)
      refine lv_iload_n hx hb dX12_number_29 rfl (lv_at hl 1 rfl) ?_
      refine lv_i2l hx hb dX12_number_30 rfl ?_
      refine lv_topl (fun w42 e43 => ?_)
      have t44 : w42.toInt = a1.toInt := by rw [e43]; exact i2l_i _
      have b45 : BdL w42 (1) (1) := (by have h1 := (ba1).1; have h2 := (ba1).2; exact ⟨by omega, by omega⟩)
      refine lv_iload_n hx hb dX12_number_31 rfl (lv_at hl 2 rfl) ?_
      refine lv_i2l hx hb dX12_number_32 rfl ?_
      refine lv_topl (fun w46 e47 => ?_)
      have t48 : w46.toInt = a2.toInt := by rw [e47]; exact i2l_i _
      have b49 : BdL w46 (12) (12) := (by have h1 := (ba2).1; have h2 := (ba2).2; exact ⟨by omega, by omega⟩)
      refine xcSi E hs hQ hml hl.1 (gX12_in l g ad hD S hI w38 w42 w46) mX12_in q1591 rfl ⟨(Nat.le_of_ble_eq_true rfl), (Nat.le_of_ble_eq_true rfl)⟩ ⟨(Nat.le_of_ble_eq_true rfl), (Nat.le_of_ble_eq_true rfl)⟩ (Nat.le_of_ble_eq_true rfl) rfl dX12_number_33 (fun r50 S50 H locs hp50 hQ => ?_)
      obtain ⟨rfl, b50, g50_0, u50_0⟩ := hp50
      refine lv_if_ne (tgt := 46) hx hb dX12_number_36 (by decide) (fun k51 => ?_) (fun k51 => ?_)
      · have h52 := ib_ne k51
        have b53 : Bd r50 (1) (1) := rf_nlo b50 (by decide : Bd 0 (0) (0)) h52
        have g54 := g50_0.resolve_left (by omega)
        clear g50_0
        have b55 : BdL w38 (1) (12) := ⟨by omega, by omega⟩
        have b56 : Bd v9 (1) (12) := ⟨by omega, by omega⟩
        refine lv_aload_n hx hb dX12_number_46 rfl (lv_at hl 0 rfl) ?_
        refine xget E hQ 0 (by decide) c29 rfl 10 (by decide) q1478 rfl dX12_number_47 ?_
        refine lv_istore_n (lv' := [(3, .int v9), (0, .ref (ad 0)), (1, .int a1), (2, .int a2)]) hx hb dX12_number_50 rfl hl (by decide) rfl (fun ls hl => ?_)
        refine lv_aload_n hx hb dX12_number_51 rfl (lv_at hl 1 rfl) ?_
        refine xcVv E hs hQ hml hl.1 0 (gX12_next_0 l g ad hD S hI (by omega)) mX12_next q1637 (by decide) c29 rfl rfl ⟨(Nat.le_of_ble_eq_true rfl), (Nat.le_of_ble_eq_true rfl)⟩ ⟨(Nat.le_of_ble_eq_true rfl), (Nat.le_of_ble_eq_true rfl)⟩ (Nat.le_of_ble_eq_true rfl) rfl dX12_number_52 (fun S57 H locs hp57 hQ _ => ?_)
        obtain ⟨hI, o57, g57_0, g57_1, g57_2, g57_3, g57_4⟩ := hp57
        obtain ⟨v58, v59, v61, v63, v65, v66, w67, v68, v70, v71, v72, v73, v75, v77, v79, v81, v83, v84, v85, c86, b60, b62, b64, b69, b74, b76, b78, b80, b82⟩ := invM_0 hI
        have c86 : S57 0 = .inr (12, [.int v58, .ref (ad 1), .ref (ad 2), .ref (ad 3), .ref (ad 4), .ref (ad 5), .int v59, .int v61, .int v63, .int v65, .int v66, .long w67, .int v68, .int v70, .int v71, .int v72, .ref (ad 6), .ref (ad 7), .ref (ad 8), .ref (ad 9), .ref (ad 10), .ref (ad 11), .ref (ad 12), .ref (ad 13), .ref (ad 14), .ref (ad 15), .int v73, .int v75, .ref (ad 16), .int v77, .int v79, .int v81, .int v83, .int v84, .ref (ad 17), .ref (ad 18), .int v85, .ref (ad 19)]) := c86
        have q87 : fld (S57 0) 6 = v59.toInt := fld_of c86 rfl
        have q88 : fld (S57 0) 7 = v61.toInt := fld_of c86 rfl
        have q89 : fld (S 0) 12 = v11.toInt := fld_of c29 rfl
        have q90 : fld (S57 0) 12 = v68.toInt := fld_of c86 rfl
        have b91 : Bd v68 (0) (0) := ⟨(b69).1, by omega⟩
        have q92 : fld (S57 0) 8 = v63.toInt := fld_of c86 rfl
        refine lv_iload_n hx hb dX12_number_55 rfl (lv_at hl 0 rfl) ?_
        have q93 : fld (S 0) 8 = v6.toInt := fld_of c29 rfl
        exact xri E hr hlk hQ (⟨hI, (o_trans o_refl o57 (by decide)), b56, (by omega), ⟨by omega, by omega⟩, (by omega)⟩) dX12_number_56
      · have h94 := ib_eq k51
        have b95 : Bd r50 (0) (0) := ⟨(b50).1, ((rf_eq b50 (by decide : Bd 0 (0) (0)) h94).1).2⟩
        clear g50_0
        refine lv_aload_n hx hb dX12_number_39 rfl (lv_at hl 0 rfl) ?_
        refine lv_iconst (v := 2) hx hb dX12_number_40 (by decide) ?_
        refine xcVv E hs hQ hml hl.1 0 (gX12_fails_0 l g ad hD S hI 2 (ib_wk (by decide : Bd 2 (2) (2)) (by decide) (by decide))) mX12_fails q1667 (by decide) c29 rfl rfl ⟨(Nat.le_of_ble_eq_true rfl), (Nat.le_of_ble_eq_true rfl)⟩ ⟨(Nat.le_of_ble_eq_true rfl), (Nat.le_of_ble_eq_true rfl)⟩ (Nat.le_of_ble_eq_true rfl) rfl dX12_number_41 (fun S96 H locs hp96 hQ _ => ?_)
        obtain ⟨hI, o96, g96_0, g96_1, g96_2, g96_3⟩ := hp96
        obtain ⟨v97, v98, v100, v102, v104, v105, w106, v107, v109, v110, v111, v112, v114, v116, v118, v120, v122, v123, v124, c125, b99, b101, b103, b108, b113, b115, b117, b119, b121⟩ := invM_0 hI
        have c125 : S96 0 = .inr (12, [.int v97, .ref (ad 1), .ref (ad 2), .ref (ad 3), .ref (ad 4), .ref (ad 5), .int v98, .int v100, .int v102, .int v104, .int v105, .long w106, .int v107, .int v109, .int v110, .int v111, .ref (ad 6), .ref (ad 7), .ref (ad 8), .ref (ad 9), .ref (ad 10), .ref (ad 11), .ref (ad 12), .ref (ad 13), .ref (ad 14), .ref (ad 15), .int v112, .int v114, .ref (ad 16), .int v116, .int v118, .int v120, .int v122, .int v123, .ref (ad 17), .ref (ad 18), .int v124, .ref (ad 19)]) := c125
        have q126 : fld (S96 0) 12 = v107.toInt := fld_of c125 rfl
        have b127 : Bd v107 (1) (3) := ⟨by omega, (b108).2⟩
        have q128 : fld (S96 0) 6 = v98.toInt := fld_of c125 rfl
        have q129 : fld (S96 0) 7 = v100.toInt := fld_of c125 rfl
        have q130 : fld (S 0) 8 = v6.toInt := fld_of c29 rfl
        have q131 : fld (S96 0) 8 = v102.toInt := fld_of c125 rfl
        have b132 : Bd v102 (2) (2) := ⟨by omega, by omega⟩
        refine lv_iload_n hx hb dX12_number_44 rfl (lv_at hl 1 rfl) ?_
        exact xri E hr hlk hQ (⟨hI, (o_trans o_refl o96 (by decide)), (ib_wk ba1 (by decide) (by decide)), (by omega), ⟨by omega, by omega⟩, (by omega)⟩) dX12_number_45
    · have h133 := ib_ne k35
      refine lv_aload_n hx hb dX12_number_17 rfl (lv_at hl 0 rfl) ?_
      refine lv_iconst (v := 1) hx hb dX12_number_18 (by decide) ?_
      refine xcVv E hs hQ hml hl.1 0 (gX12_fails_0 l g ad hD S hI 1 (ib_wk (by decide : Bd 1 (1) (1)) (by decide) (by decide))) mX12_fails q1667 (by decide) c29 rfl rfl ⟨(Nat.le_of_ble_eq_true rfl), (Nat.le_of_ble_eq_true rfl)⟩ ⟨(Nat.le_of_ble_eq_true rfl), (Nat.le_of_ble_eq_true rfl)⟩ (Nat.le_of_ble_eq_true rfl) rfl dX12_number_19 (fun S134 H locs hp134 hQ _ => ?_)
      obtain ⟨hI, o134, g134_0, g134_1, g134_2, g134_3⟩ := hp134
      obtain ⟨v135, v136, v138, v140, v142, v143, w144, v145, v147, v148, v149, v150, v152, v154, v156, v158, v160, v161, v162, c163, b137, b139, b141, b146, b151, b153, b155, b157, b159⟩ := invM_0 hI
      have c163 : S134 0 = .inr (12, [.int v135, .ref (ad 1), .ref (ad 2), .ref (ad 3), .ref (ad 4), .ref (ad 5), .int v136, .int v138, .int v140, .int v142, .int v143, .long w144, .int v145, .int v147, .int v148, .int v149, .ref (ad 6), .ref (ad 7), .ref (ad 8), .ref (ad 9), .ref (ad 10), .ref (ad 11), .ref (ad 12), .ref (ad 13), .ref (ad 14), .ref (ad 15), .int v150, .int v152, .ref (ad 16), .int v154, .int v156, .int v158, .int v160, .int v161, .ref (ad 17), .ref (ad 18), .int v162, .ref (ad 19)]) := c163
      have q164 : fld (S134 0) 12 = v145.toInt := fld_of c163 rfl
      have b165 : Bd v145 (1) (3) := ⟨by omega, (b146).2⟩
      have q166 : fld (S134 0) 6 = v136.toInt := fld_of c163 rfl
      have q167 : fld (S134 0) 7 = v138.toInt := fld_of c163 rfl
      have q168 : fld (S 0) 8 = v6.toInt := fld_of c29 rfl
      have q169 : fld (S134 0) 8 = v140.toInt := fld_of c163 rfl
      refine lv_iload_n hx hb dX12_number_22 rfl (lv_at hl 1 rfl) ?_
      exact xri E hr hlk hQ (⟨hI, (o_trans o_refl o134 (by decide)), (ib_wk ba1 (by decide) (by decide)), (by omega), ⟨by omega, by omega⟩, (by omega)⟩) dX12_number_23
  · have h170 := ib_ne k32
    have b171 : Bd v11 (1) (3) := rf_nlo b12 (by decide : Bd 0 (0) (0)) h170
    refine lv_iload_n hx hb dX12_number_7 rfl (lv_at hl 1 rfl) ?_
    have q172 : fld (S 0) 8 = v6.toInt := fld_of c29 rfl
    exact xri E hr hlk hQ (⟨hI, o_refl, (ib_wk ba1 (by decide) (by decide)), (by omega), ⟨by omega, by omega⟩, (by omega)⟩) dX12_number_8
set_option maxHeartbeats 4000000 in
set_option maxRecDepth 100000 in
theorem gX12_number_2 (l : Launch) (g : GG) (ad : Nat → Nat) (hD : Dj ad 20) (S : SS) (hI : InvM g ad S) (a1 : Int32) (a2 : Int32) (ba1 : Bd a1 (0) (0)) (ba2 : Bd a2 (6) (6)) (hq1 : 0 ≤ fld (S 0) 6 + (-1) * fld (S 0) 7) : Met l yX12_number (wG (.code yX12_number cX12_number 4 (some .int))) (Rm 2) (XPre g ad 20 S [.ref (ad 0), .int a1, .int a2]) (va_Qi (fun r S' => InvM g ad S' ∧ (∀ j, j ∉ ([0] : List Nat) → S' j = S j) ∧ Bd r (0) (6) ∧ (0 ≤ fld (S' 0) 6 + (-1) * fld (S' 0) 7) ∧ (0 ≤ fld (S 0) 6 + (-1) * fld (S' 0) 6 ∧ 0 ≤ fld (S' 0) 6 + (-1) * fld (S 0) 6) ∧ (0 ≤ 4 * fld (S 0) 6 + (-4) * fld (S 0) 7 + fld (S 0) 8 + (-4) * fld (S' 0) 6 + 4 * fld (S' 0) 7 + (-1) * fld (S' 0) 8)) (QB g ad 20) (FA ad 20)) 0 0 (FA ad 20) := by
  refine xmet cX12_number "EbbWreckModel" (by decide) rfl (Nat.le_of_ble_eq_true rfl) (fun p e s m below meth c E hr hlk hml hQ ls hl => ?_)
  have hx := E.1
  have hb := E.2.1
  have hs : Sp ad 20 (FA ad 20) := Sp.fa hD
  have hl : lv_has ls 4 [(0, .ref (ad 0)), (1, .int a1), (2, .int a2)] := hl
  obtain ⟨v1, v2, v4, v6, v8, v9, w10, v11, v13, v14, v15, v16, v18, v20, v22, v24, v26, v27, v28, c29, b3, b5, b7, b12, b17, b19, b21, b23, b25⟩ := invM_0 hI
  have c29 : S 0 = .inr (12, [.int v1, .ref (ad 1), .ref (ad 2), .ref (ad 3), .ref (ad 4), .ref (ad 5), .int v2, .int v4, .int v6, .int v8, .int v9, .long w10, .int v11, .int v13, .int v14, .int v15, .ref (ad 6), .ref (ad 7), .ref (ad 8), .ref (ad 9), .ref (ad 10), .ref (ad 11), .ref (ad 12), .ref (ad 13), .ref (ad 14), .ref (ad 15), .int v16, .int v18, .ref (ad 16), .int v20, .int v22, .int v24, .int v26, .int v27, .ref (ad 17), .ref (ad 18), .int v28, .ref (ad 19)]) := c29
  have q30 : fld (S 0) 6 = v2.toInt := fld_of c29 rfl
  have q31 : fld (S 0) 7 = v4.toInt := fld_of c29 rfl
  refine lv_aload_n hx hb dX12_number_0 rfl (lv_at hl 0 rfl) ?_
  refine xget E hQ 0 (by decide) c29 rfl 12 (by decide) q1480 rfl dX12_number_1 ?_
  refine lv_if_eq (tgt := 9) hx hb dX12_number_4 (by decide) (fun k32 => ?_) (fun k32 => ?_)
  · have h33 := ib_eq k32
    have b34 : Bd v11 (0) (0) := ⟨(b12).1, ((rf_eq b12 (by decide : Bd 0 (0) (0)) h33).1).2⟩
    refine lv_aload_n hx hb dX12_number_9 rfl (lv_at hl 0 rfl) ?_
    refine xget E hQ 0 (by decide) c29 rfl 8 (by decide) q1476 rfl dX12_number_10 ?_
    refine lv_iconst (v := 2) hx hb dX12_number_13 (by decide) ?_
    refine lv_icmp_eq (tgt := 24) hx hb dX12_number_14 (by decide) (fun k35 => ?_) (fun k35 => ?_)
    · have h36 := ib_eq k35
      have b37 : Bd v6 (2) (2) := ⟨((rf_eq b7 (by decide : Bd 2 (2) (2)) h36).1).1, ((rf_eq b7 (by decide : Bd 2 (2) (2)) h36).1).2⟩
      refine lv_aload_n hx hb dX12_number_24 rfl (lv_at hl 0 rfl) ?_
      refine xget E hQ 0 (by decide) c29 rfl 10 (by decide) q1478 rfl dX12_number_25 ?_
      refine lv_i2l hx hb dX12_number_28 rfl ?_
      refine lv_topl (fun w38 e39 => ?_)
      have t40 : w38.toInt = v9.toInt := by rw [e39]; exact i2l_i _
      have b41 : BdL w38 (-2147483648) (2147483647) := (by have h1 := ((ib_full v9)).1; have h2 := ((ib_full v9)).2; exact ⟨by omega, by omega⟩)
      refine lv_iload_n hx hb dX12_number_29 rfl (lv_at hl 1 rfl) ?_
      refine lv_i2l hx hb dX12_number_30 rfl ?_
      refine lv_topl (fun w42 e43 => ?_)
      have t44 : w42.toInt = a1.toInt := by rw [e43]; exact i2l_i _
      have b45 : BdL w42 (0) (0) := (by have h1 := (ba1).1; have h2 := (ba1).2; exact ⟨by omega, by omega⟩)
      refine lv_iload_n hx hb dX12_number_31 rfl (lv_at hl 2 rfl) ?_
      refine lv_i2l hx hb dX12_number_32 rfl ?_
      refine lv_topl (fun w46 e47 => ?_)
      have t48 : w46.toInt = a2.toInt := by rw [e47]; exact i2l_i _
      have b49 : BdL w46 (6) (6) := (by have h1 := (ba2).1; have h2 := (ba2).2; exact ⟨by omega, by omega⟩)
      refine xcSi E hs hQ hml hl.1 (gX12_in l g ad hD S hI w38 w42 w46) mX12_in q1591 rfl ⟨(Nat.le_of_ble_eq_true rfl), (Nat.le_of_ble_eq_true rfl)⟩ ⟨(Nat.le_of_ble_eq_true rfl), (Nat.le_of_ble_eq_true rfl)⟩ (Nat.le_of_ble_eq_true rfl) rfl dX12_number_33 (fun r50 S50 H locs hp50 hQ => ?_)
      obtain ⟨rfl, b50, g50_0, u50_0⟩ := hp50
      refine lv_if_ne (tgt := 46) hx hb dX12_number_36 (by decide) (fun k51 => ?_) (fun k51 => ?_)
      · have h52 := ib_ne k51
        have b53 : Bd r50 (1) (1) := rf_nlo b50 (by decide : Bd 0 (0) (0)) h52
        have g54 := g50_0.resolve_left (by omega)
        clear g50_0
        have b55 : BdL w38 (0) (6) := ⟨by omega, by omega⟩
        have b56 : Bd v9 (0) (6) := ⟨by omega, by omega⟩
        refine lv_aload_n hx hb dX12_number_46 rfl (lv_at hl 0 rfl) ?_
        refine xget E hQ 0 (by decide) c29 rfl 10 (by decide) q1478 rfl dX12_number_47 ?_
        refine lv_istore_n (lv' := [(3, .int v9), (0, .ref (ad 0)), (1, .int a1), (2, .int a2)]) hx hb dX12_number_50 rfl hl (by decide) rfl (fun ls hl => ?_)
        refine lv_aload_n hx hb dX12_number_51 rfl (lv_at hl 1 rfl) ?_
        refine xcVv E hs hQ hml hl.1 0 (gX12_next_0 l g ad hD S hI (by omega)) mX12_next q1637 (by decide) c29 rfl rfl ⟨(Nat.le_of_ble_eq_true rfl), (Nat.le_of_ble_eq_true rfl)⟩ ⟨(Nat.le_of_ble_eq_true rfl), (Nat.le_of_ble_eq_true rfl)⟩ (Nat.le_of_ble_eq_true rfl) rfl dX12_number_52 (fun S57 H locs hp57 hQ _ => ?_)
        obtain ⟨hI, o57, g57_0, g57_1, g57_2, g57_3, g57_4⟩ := hp57
        obtain ⟨v58, v59, v61, v63, v65, v66, w67, v68, v70, v71, v72, v73, v75, v77, v79, v81, v83, v84, v85, c86, b60, b62, b64, b69, b74, b76, b78, b80, b82⟩ := invM_0 hI
        have c86 : S57 0 = .inr (12, [.int v58, .ref (ad 1), .ref (ad 2), .ref (ad 3), .ref (ad 4), .ref (ad 5), .int v59, .int v61, .int v63, .int v65, .int v66, .long w67, .int v68, .int v70, .int v71, .int v72, .ref (ad 6), .ref (ad 7), .ref (ad 8), .ref (ad 9), .ref (ad 10), .ref (ad 11), .ref (ad 12), .ref (ad 13), .ref (ad 14), .ref (ad 15), .int v73, .int v75, .ref (ad 16), .int v77, .int v79, .int v81, .int v83, .int v84, .ref (ad 17), .ref (ad 18), .int v85, .ref (ad 19)]) := c86
        have q87 : fld (S57 0) 6 = v59.toInt := fld_of c86 rfl
        have q88 : fld (S57 0) 7 = v61.toInt := fld_of c86 rfl
        have q89 : fld (S 0) 12 = v11.toInt := fld_of c29 rfl
        have q90 : fld (S57 0) 12 = v68.toInt := fld_of c86 rfl
        have b91 : Bd v68 (0) (0) := ⟨(b69).1, by omega⟩
        have q92 : fld (S57 0) 8 = v63.toInt := fld_of c86 rfl
        refine lv_iload_n hx hb dX12_number_55 rfl (lv_at hl 0 rfl) ?_
        have q93 : fld (S 0) 8 = v6.toInt := fld_of c29 rfl
        exact xri E hr hlk hQ (⟨hI, (o_trans o_refl o57 (by decide)), b56, (by omega), ⟨by omega, by omega⟩, (by omega)⟩) dX12_number_56
      · have h94 := ib_eq k51
        have b95 : Bd r50 (0) (0) := ⟨(b50).1, ((rf_eq b50 (by decide : Bd 0 (0) (0)) h94).1).2⟩
        clear g50_0
        refine lv_aload_n hx hb dX12_number_39 rfl (lv_at hl 0 rfl) ?_
        refine lv_iconst (v := 2) hx hb dX12_number_40 (by decide) ?_
        refine xcVv E hs hQ hml hl.1 0 (gX12_fails_0 l g ad hD S hI 2 (ib_wk (by decide : Bd 2 (2) (2)) (by decide) (by decide))) mX12_fails q1667 (by decide) c29 rfl rfl ⟨(Nat.le_of_ble_eq_true rfl), (Nat.le_of_ble_eq_true rfl)⟩ ⟨(Nat.le_of_ble_eq_true rfl), (Nat.le_of_ble_eq_true rfl)⟩ (Nat.le_of_ble_eq_true rfl) rfl dX12_number_41 (fun S96 H locs hp96 hQ _ => ?_)
        obtain ⟨hI, o96, g96_0, g96_1, g96_2, g96_3⟩ := hp96
        obtain ⟨v97, v98, v100, v102, v104, v105, w106, v107, v109, v110, v111, v112, v114, v116, v118, v120, v122, v123, v124, c125, b99, b101, b103, b108, b113, b115, b117, b119, b121⟩ := invM_0 hI
        have c125 : S96 0 = .inr (12, [.int v97, .ref (ad 1), .ref (ad 2), .ref (ad 3), .ref (ad 4), .ref (ad 5), .int v98, .int v100, .int v102, .int v104, .int v105, .long w106, .int v107, .int v109, .int v110, .int v111, .ref (ad 6), .ref (ad 7), .ref (ad 8), .ref (ad 9), .ref (ad 10), .ref (ad 11), .ref (ad 12), .ref (ad 13), .ref (ad 14), .ref (ad 15), .int v112, .int v114, .ref (ad 16), .int v116, .int v118, .int v120, .int v122, .int v123, .ref (ad 17), .ref (ad 18), .int v124, .ref (ad 19)]) := c125
        have q126 : fld (S96 0) 12 = v107.toInt := fld_of c125 rfl
        have b127 : Bd v107 (1) (3) := ⟨by omega, (b108).2⟩
        have q128 : fld (S96 0) 6 = v98.toInt := fld_of c125 rfl
        have q129 : fld (S96 0) 7 = v100.toInt := fld_of c125 rfl
        have q130 : fld (S 0) 8 = v6.toInt := fld_of c29 rfl
        have q131 : fld (S96 0) 8 = v102.toInt := fld_of c125 rfl
        have b132 : Bd v102 (2) (2) := ⟨by omega, by omega⟩
        refine lv_iload_n hx hb dX12_number_44 rfl (lv_at hl 1 rfl) ?_
        exact xri E hr hlk hQ (⟨hI, (o_trans o_refl o96 (by decide)), (ib_wk ba1 (by decide) (by decide)), (by omega), ⟨by omega, by omega⟩, (by omega)⟩) dX12_number_45
    · have h133 := ib_ne k35
      refine lv_aload_n hx hb dX12_number_17 rfl (lv_at hl 0 rfl) ?_
      refine lv_iconst (v := 1) hx hb dX12_number_18 (by decide) ?_
      refine xcVv E hs hQ hml hl.1 0 (gX12_fails_0 l g ad hD S hI 1 (ib_wk (by decide : Bd 1 (1) (1)) (by decide) (by decide))) mX12_fails q1667 (by decide) c29 rfl rfl ⟨(Nat.le_of_ble_eq_true rfl), (Nat.le_of_ble_eq_true rfl)⟩ ⟨(Nat.le_of_ble_eq_true rfl), (Nat.le_of_ble_eq_true rfl)⟩ (Nat.le_of_ble_eq_true rfl) rfl dX12_number_19 (fun S134 H locs hp134 hQ _ => ?_)
      obtain ⟨hI, o134, g134_0, g134_1, g134_2, g134_3⟩ := hp134
      obtain ⟨v135, v136, v138, v140, v142, v143, w144, v145, v147, v148, v149, v150, v152, v154, v156, v158, v160, v161, v162, c163, b137, b139, b141, b146, b151, b153, b155, b157, b159⟩ := invM_0 hI
      have c163 : S134 0 = .inr (12, [.int v135, .ref (ad 1), .ref (ad 2), .ref (ad 3), .ref (ad 4), .ref (ad 5), .int v136, .int v138, .int v140, .int v142, .int v143, .long w144, .int v145, .int v147, .int v148, .int v149, .ref (ad 6), .ref (ad 7), .ref (ad 8), .ref (ad 9), .ref (ad 10), .ref (ad 11), .ref (ad 12), .ref (ad 13), .ref (ad 14), .ref (ad 15), .int v150, .int v152, .ref (ad 16), .int v154, .int v156, .int v158, .int v160, .int v161, .ref (ad 17), .ref (ad 18), .int v162, .ref (ad 19)]) := c163
      have q164 : fld (S134 0) 12 = v145.toInt := fld_of c163 rfl
      have b165 : Bd v145 (1) (3) := ⟨by omega, (b146).2⟩
      have q166 : fld (S134 0) 6 = v136.toInt := fld_of c163 rfl
      have q167 : fld (S134 0) 7 = v138.toInt := fld_of c163 rfl
      have q168 : fld (S 0) 8 = v6.toInt := fld_of c29 rfl
      have q169 : fld (S134 0) 8 = v140.toInt := fld_of c163 rfl
      refine lv_iload_n hx hb dX12_number_22 rfl (lv_at hl 1 rfl) ?_
      exact xri E hr hlk hQ (⟨hI, (o_trans o_refl o134 (by decide)), (ib_wk ba1 (by decide) (by decide)), (by omega), ⟨by omega, by omega⟩, (by omega)⟩) dX12_number_23
  · have h170 := ib_ne k32
    have b171 : Bd v11 (1) (3) := rf_nlo b12 (by decide : Bd 0 (0) (0)) h170
    refine lv_iload_n hx hb dX12_number_7 rfl (lv_at hl 1 rfl) ?_
    have q172 : fld (S 0) 8 = v6.toInt := fld_of c29 rfl
    exact xri E hr hlk hQ (⟨hI, o_refl, (ib_wk ba1 (by decide) (by decide)), (by omega), ⟨by omega, by omega⟩, (by omega)⟩) dX12_number_8
set_option maxHeartbeats 4000000 in
set_option maxRecDepth 100000 in
theorem gX12_number_3 (l : Launch) (g : GG) (ad : Nat → Nat) (hD : Dj ad 20) (S : SS) (hI : InvM g ad S) (a1 : Int32) (a2 : Int32) (ba1 : Bd a1 (0) (0)) (ba2 : Bd a2 (100) (100)) (hq1 : 0 ≤ fld (S 0) 6 + (-1) * fld (S 0) 7) : Met l yX12_number (wG (.code yX12_number cX12_number 4 (some .int))) (Rm 2) (XPre g ad 20 S [.ref (ad 0), .int a1, .int a2]) (va_Qi (fun r S' => InvM g ad S' ∧ (∀ j, j ∉ ([0] : List Nat) → S' j = S j) ∧ Bd r (0) (100) ∧ (0 ≤ fld (S' 0) 6 + (-1) * fld (S' 0) 7) ∧ (0 ≤ fld (S 0) 6 + (-1) * fld (S' 0) 6 ∧ 0 ≤ fld (S' 0) 6 + (-1) * fld (S 0) 6) ∧ (0 ≤ 4 * fld (S 0) 6 + (-4) * fld (S 0) 7 + fld (S 0) 8 + (-4) * fld (S' 0) 6 + 4 * fld (S' 0) 7 + (-1) * fld (S' 0) 8)) (QB g ad 20) (FA ad 20)) 0 0 (FA ad 20) := by
  refine xmet cX12_number "EbbWreckModel" (by decide) rfl (Nat.le_of_ble_eq_true rfl) (fun p e s m below meth c E hr hlk hml hQ ls hl => ?_)
  have hx := E.1
  have hb := E.2.1
  have hs : Sp ad 20 (FA ad 20) := Sp.fa hD
  have hl : lv_has ls 4 [(0, .ref (ad 0)), (1, .int a1), (2, .int a2)] := hl
  obtain ⟨v1, v2, v4, v6, v8, v9, w10, v11, v13, v14, v15, v16, v18, v20, v22, v24, v26, v27, v28, c29, b3, b5, b7, b12, b17, b19, b21, b23, b25⟩ := invM_0 hI
  have c29 : S 0 = .inr (12, [.int v1, .ref (ad 1), .ref (ad 2), .ref (ad 3), .ref (ad 4), .ref (ad 5), .int v2, .int v4, .int v6, .int v8, .int v9, .long w10, .int v11, .int v13, .int v14, .int v15, .ref (ad 6), .ref (ad 7), .ref (ad 8), .ref (ad 9), .ref (ad 10), .ref (ad 11), .ref (ad 12), .ref (ad 13), .ref (ad 14), .ref (ad 15), .int v16, .int v18, .ref (ad 16), .int v20, .int v22, .int v24, .int v26, .int v27, .ref (ad 17), .ref (ad 18), .int v28, .ref (ad 19)]) := c29
  have q30 : fld (S 0) 6 = v2.toInt := fld_of c29 rfl
  have q31 : fld (S 0) 7 = v4.toInt := fld_of c29 rfl
  refine lv_aload_n hx hb dX12_number_0 rfl (lv_at hl 0 rfl) ?_
  refine xget E hQ 0 (by decide) c29 rfl 12 (by decide) q1480 rfl dX12_number_1 ?_
  refine lv_if_eq (tgt := 9) hx hb dX12_number_4 (by decide) (fun k32 => ?_) (fun k32 => ?_)
  · have h33 := ib_eq k32
    have b34 : Bd v11 (0) (0) := ⟨(b12).1, ((rf_eq b12 (by decide : Bd 0 (0) (0)) h33).1).2⟩
    refine lv_aload_n hx hb dX12_number_9 rfl (lv_at hl 0 rfl) ?_
    refine xget E hQ 0 (by decide) c29 rfl 8 (by decide) q1476 rfl dX12_number_10 ?_
    refine lv_iconst (v := 2) hx hb dX12_number_13 (by decide) ?_
    refine lv_icmp_eq (tgt := 24) hx hb dX12_number_14 (by decide) (fun k35 => ?_) (fun k35 => ?_)
    · have h36 := ib_eq k35
      have b37 : Bd v6 (2) (2) := ⟨((rf_eq b7 (by decide : Bd 2 (2) (2)) h36).1).1, ((rf_eq b7 (by decide : Bd 2 (2) (2)) h36).1).2⟩
      refine lv_aload_n hx hb dX12_number_24 rfl (lv_at hl 0 rfl) ?_
      refine xget E hQ 0 (by decide) c29 rfl 10 (by decide) q1478 rfl dX12_number_25 ?_
      refine lv_i2l hx hb dX12_number_28 rfl ?_
      refine lv_topl (fun w38 e39 => ?_)
      have t40 : w38.toInt = v9.toInt := by rw [e39]; exact i2l_i _
      have b41 : BdL w38 (-2147483648) (2147483647) := (by have h1 := ((ib_full v9)).1; have h2 := ((ib_full v9)).2; exact ⟨by omega, by omega⟩)
      refine lv_iload_n hx hb dX12_number_29 rfl (lv_at hl 1 rfl) ?_
      refine lv_i2l hx hb dX12_number_30 rfl ?_
      refine lv_topl (fun w42 e43 => ?_)
      have t44 : w42.toInt = a1.toInt := by rw [e43]; exact i2l_i _
      have b45 : BdL w42 (0) (0) := (by have h1 := (ba1).1; have h2 := (ba1).2; exact ⟨by omega, by omega⟩)
      refine lv_iload_n hx hb dX12_number_31 rfl (lv_at hl 2 rfl) ?_
      refine lv_i2l hx hb dX12_number_32 rfl ?_
      refine lv_topl (fun w46 e47 => ?_)
      have t48 : w46.toInt = a2.toInt := by rw [e47]; exact i2l_i _
      have b49 : BdL w46 (100) (100) := (by have h1 := (ba2).1; have h2 := (ba2).2; exact ⟨by omega, by omega⟩)
      refine xcSi E hs hQ hml hl.1 (gX12_in l g ad hD S hI w38 w42 w46) mX12_in q1591 rfl ⟨(Nat.le_of_ble_eq_true rfl), (Nat.le_of_ble_eq_true rfl)⟩ ⟨(Nat.le_of_ble_eq_true rfl), (Nat.le_of_ble_eq_true rfl)⟩ (Nat.le_of_ble_eq_true rfl) rfl dX12_number_33 (fun r50 S50 H locs hp50 hQ => ?_)
      obtain ⟨rfl, b50, g50_0, u50_0⟩ := hp50
      refine lv_if_ne (tgt := 46) hx hb dX12_number_36 (by decide) (fun k51 => ?_) (fun k51 => ?_)
      · have h52 := ib_ne k51
        have b53 : Bd r50 (1) (1) := rf_nlo b50 (by decide : Bd 0 (0) (0)) h52
        have g54 := g50_0.resolve_left (by omega)
        clear g50_0
        have b55 : BdL w38 (0) (100) := ⟨by omega, by omega⟩
        have b56 : Bd v9 (0) (100) := ⟨by omega, by omega⟩
        refine lv_aload_n hx hb dX12_number_46 rfl (lv_at hl 0 rfl) ?_
        refine xget E hQ 0 (by decide) c29 rfl 10 (by decide) q1478 rfl dX12_number_47 ?_
        refine lv_istore_n (lv' := [(3, .int v9), (0, .ref (ad 0)), (1, .int a1), (2, .int a2)]) hx hb dX12_number_50 rfl hl (by decide) rfl (fun ls hl => ?_)
        refine lv_aload_n hx hb dX12_number_51 rfl (lv_at hl 1 rfl) ?_
        refine xcVv E hs hQ hml hl.1 0 (gX12_next_0 l g ad hD S hI (by omega)) mX12_next q1637 (by decide) c29 rfl rfl ⟨(Nat.le_of_ble_eq_true rfl), (Nat.le_of_ble_eq_true rfl)⟩ ⟨(Nat.le_of_ble_eq_true rfl), (Nat.le_of_ble_eq_true rfl)⟩ (Nat.le_of_ble_eq_true rfl) rfl dX12_number_52 (fun S57 H locs hp57 hQ _ => ?_)
        obtain ⟨hI, o57, g57_0, g57_1, g57_2, g57_3, g57_4⟩ := hp57
        obtain ⟨v58, v59, v61, v63, v65, v66, w67, v68, v70, v71, v72, v73, v75, v77, v79, v81, v83, v84, v85, c86, b60, b62, b64, b69, b74, b76, b78, b80, b82⟩ := invM_0 hI
        have c86 : S57 0 = .inr (12, [.int v58, .ref (ad 1), .ref (ad 2), .ref (ad 3), .ref (ad 4), .ref (ad 5), .int v59, .int v61, .int v63, .int v65, .int v66, .long w67, .int v68, .int v70, .int v71, .int v72, .ref (ad 6), .ref (ad 7), .ref (ad 8), .ref (ad 9), .ref (ad 10), .ref (ad 11), .ref (ad 12), .ref (ad 13), .ref (ad 14), .ref (ad 15), .int v73, .int v75, .ref (ad 16), .int v77, .int v79, .int v81, .int v83, .int v84, .ref (ad 17), .ref (ad 18), .int v85, .ref (ad 19)]) := c86
        have q87 : fld (S57 0) 6 = v59.toInt := fld_of c86 rfl
        have q88 : fld (S57 0) 7 = v61.toInt := fld_of c86 rfl
        have q89 : fld (S 0) 12 = v11.toInt := fld_of c29 rfl
        have q90 : fld (S57 0) 12 = v68.toInt := fld_of c86 rfl
        have b91 : Bd v68 (0) (0) := ⟨(b69).1, by omega⟩
        have q92 : fld (S57 0) 8 = v63.toInt := fld_of c86 rfl
        refine lv_iload_n hx hb dX12_number_55 rfl (lv_at hl 0 rfl) ?_
        have q93 : fld (S 0) 8 = v6.toInt := fld_of c29 rfl
        exact xri E hr hlk hQ (⟨hI, (o_trans o_refl o57 (by decide)), b56, (by omega), ⟨by omega, by omega⟩, (by omega)⟩) dX12_number_56
      · have h94 := ib_eq k51
        have b95 : Bd r50 (0) (0) := ⟨(b50).1, ((rf_eq b50 (by decide : Bd 0 (0) (0)) h94).1).2⟩
        clear g50_0
        refine lv_aload_n hx hb dX12_number_39 rfl (lv_at hl 0 rfl) ?_
        refine lv_iconst (v := 2) hx hb dX12_number_40 (by decide) ?_
        refine xcVv E hs hQ hml hl.1 0 (gX12_fails_0 l g ad hD S hI 2 (ib_wk (by decide : Bd 2 (2) (2)) (by decide) (by decide))) mX12_fails q1667 (by decide) c29 rfl rfl ⟨(Nat.le_of_ble_eq_true rfl), (Nat.le_of_ble_eq_true rfl)⟩ ⟨(Nat.le_of_ble_eq_true rfl), (Nat.le_of_ble_eq_true rfl)⟩ (Nat.le_of_ble_eq_true rfl) rfl dX12_number_41 (fun S96 H locs hp96 hQ _ => ?_)
        obtain ⟨hI, o96, g96_0, g96_1, g96_2, g96_3⟩ := hp96
        obtain ⟨v97, v98, v100, v102, v104, v105, w106, v107, v109, v110, v111, v112, v114, v116, v118, v120, v122, v123, v124, c125, b99, b101, b103, b108, b113, b115, b117, b119, b121⟩ := invM_0 hI
        have c125 : S96 0 = .inr (12, [.int v97, .ref (ad 1), .ref (ad 2), .ref (ad 3), .ref (ad 4), .ref (ad 5), .int v98, .int v100, .int v102, .int v104, .int v105, .long w106, .int v107, .int v109, .int v110, .int v111, .ref (ad 6), .ref (ad 7), .ref (ad 8), .ref (ad 9), .ref (ad 10), .ref (ad 11), .ref (ad 12), .ref (ad 13), .ref (ad 14), .ref (ad 15), .int v112, .int v114, .ref (ad 16), .int v116, .int v118, .int v120, .int v122, .int v123, .ref (ad 17), .ref (ad 18), .int v124, .ref (ad 19)]) := c125
        have q126 : fld (S96 0) 12 = v107.toInt := fld_of c125 rfl
        have b127 : Bd v107 (1) (3) := ⟨by omega, (b108).2⟩
        have q128 : fld (S96 0) 6 = v98.toInt := fld_of c125 rfl
        have q129 : fld (S96 0) 7 = v100.toInt := fld_of c125 rfl
        have q130 : fld (S 0) 8 = v6.toInt := fld_of c29 rfl
        have q131 : fld (S96 0) 8 = v102.toInt := fld_of c125 rfl
        have b132 : Bd v102 (2) (2) := ⟨by omega, by omega⟩
        refine lv_iload_n hx hb dX12_number_44 rfl (lv_at hl 1 rfl) ?_
        exact xri E hr hlk hQ (⟨hI, (o_trans o_refl o96 (by decide)), (ib_wk ba1 (by decide) (by decide)), (by omega), ⟨by omega, by omega⟩, (by omega)⟩) dX12_number_45
    · have h133 := ib_ne k35
      refine lv_aload_n hx hb dX12_number_17 rfl (lv_at hl 0 rfl) ?_
      refine lv_iconst (v := 1) hx hb dX12_number_18 (by decide) ?_
      refine xcVv E hs hQ hml hl.1 0 (gX12_fails_0 l g ad hD S hI 1 (ib_wk (by decide : Bd 1 (1) (1)) (by decide) (by decide))) mX12_fails q1667 (by decide) c29 rfl rfl ⟨(Nat.le_of_ble_eq_true rfl), (Nat.le_of_ble_eq_true rfl)⟩ ⟨(Nat.le_of_ble_eq_true rfl), (Nat.le_of_ble_eq_true rfl)⟩ (Nat.le_of_ble_eq_true rfl) rfl dX12_number_19 (fun S134 H locs hp134 hQ _ => ?_)
      obtain ⟨hI, o134, g134_0, g134_1, g134_2, g134_3⟩ := hp134
      obtain ⟨v135, v136, v138, v140, v142, v143, w144, v145, v147, v148, v149, v150, v152, v154, v156, v158, v160, v161, v162, c163, b137, b139, b141, b146, b151, b153, b155, b157, b159⟩ := invM_0 hI
      have c163 : S134 0 = .inr (12, [.int v135, .ref (ad 1), .ref (ad 2), .ref (ad 3), .ref (ad 4), .ref (ad 5), .int v136, .int v138, .int v140, .int v142, .int v143, .long w144, .int v145, .int v147, .int v148, .int v149, .ref (ad 6), .ref (ad 7), .ref (ad 8), .ref (ad 9), .ref (ad 10), .ref (ad 11), .ref (ad 12), .ref (ad 13), .ref (ad 14), .ref (ad 15), .int v150, .int v152, .ref (ad 16), .int v154, .int v156, .int v158, .int v160, .int v161, .ref (ad 17), .ref (ad 18), .int v162, .ref (ad 19)]) := c163
      have q164 : fld (S134 0) 12 = v145.toInt := fld_of c163 rfl
      have b165 : Bd v145 (1) (3) := ⟨by omega, (b146).2⟩
      have q166 : fld (S134 0) 6 = v136.toInt := fld_of c163 rfl
      have q167 : fld (S134 0) 7 = v138.toInt := fld_of c163 rfl
      have q168 : fld (S 0) 8 = v6.toInt := fld_of c29 rfl
      have q169 : fld (S134 0) 8 = v140.toInt := fld_of c163 rfl
      refine lv_iload_n hx hb dX12_number_22 rfl (lv_at hl 1 rfl) ?_
      exact xri E hr hlk hQ (⟨hI, (o_trans o_refl o134 (by decide)), (ib_wk ba1 (by decide) (by decide)), (by omega), ⟨by omega, by omega⟩, (by omega)⟩) dX12_number_23
  · have h170 := ib_ne k32
    have b171 : Bd v11 (1) (3) := rf_nlo b12 (by decide : Bd 0 (0) (0)) h170
    refine lv_iload_n hx hb dX12_number_7 rfl (lv_at hl 1 rfl) ?_
    have q172 : fld (S 0) 8 = v6.toInt := fld_of c29 rfl
    exact xri E hr hlk hQ (⟨hI, o_refl, (ib_wk ba1 (by decide) (by decide)), (by omega), ⟨by omega, by omega⟩, (by omega)⟩) dX12_number_8
set_option maxHeartbeats 4000000 in
set_option maxRecDepth 100000 in
theorem gX12_number_4 (l : Launch) (g : GG) (ad : Nat → Nat) (hD : Dj ad 20) (S : SS) (hI : InvM g ad S) (a1 : Int32) (a2 : Int32) (ba1 : Bd a1 (0) (0)) (ba2 : Bd a2 (3) (3)) (hq1 : 0 ≤ fld (S 0) 6 + (-1) * fld (S 0) 7) : Met l yX12_number (wG (.code yX12_number cX12_number 4 (some .int))) (Rm 2) (XPre g ad 20 S [.ref (ad 0), .int a1, .int a2]) (va_Qi (fun r S' => InvM g ad S' ∧ (∀ j, j ∉ ([0] : List Nat) → S' j = S j) ∧ Bd r (0) (3) ∧ (0 ≤ fld (S' 0) 6 + (-1) * fld (S' 0) 7) ∧ (0 ≤ fld (S 0) 6 + (-1) * fld (S' 0) 6 ∧ 0 ≤ fld (S' 0) 6 + (-1) * fld (S 0) 6) ∧ (0 ≤ 4 * fld (S 0) 6 + (-4) * fld (S 0) 7 + fld (S 0) 8 + (-4) * fld (S' 0) 6 + 4 * fld (S' 0) 7 + (-1) * fld (S' 0) 8)) (QB g ad 20) (FA ad 20)) 0 0 (FA ad 20) := by
  refine xmet cX12_number "EbbWreckModel" (by decide) rfl (Nat.le_of_ble_eq_true rfl) (fun p e s m below meth c E hr hlk hml hQ ls hl => ?_)
  have hx := E.1
  have hb := E.2.1
  have hs : Sp ad 20 (FA ad 20) := Sp.fa hD
  have hl : lv_has ls 4 [(0, .ref (ad 0)), (1, .int a1), (2, .int a2)] := hl
  obtain ⟨v1, v2, v4, v6, v8, v9, w10, v11, v13, v14, v15, v16, v18, v20, v22, v24, v26, v27, v28, c29, b3, b5, b7, b12, b17, b19, b21, b23, b25⟩ := invM_0 hI
  have c29 : S 0 = .inr (12, [.int v1, .ref (ad 1), .ref (ad 2), .ref (ad 3), .ref (ad 4), .ref (ad 5), .int v2, .int v4, .int v6, .int v8, .int v9, .long w10, .int v11, .int v13, .int v14, .int v15, .ref (ad 6), .ref (ad 7), .ref (ad 8), .ref (ad 9), .ref (ad 10), .ref (ad 11), .ref (ad 12), .ref (ad 13), .ref (ad 14), .ref (ad 15), .int v16, .int v18, .ref (ad 16), .int v20, .int v22, .int v24, .int v26, .int v27, .ref (ad 17), .ref (ad 18), .int v28, .ref (ad 19)]) := c29
  have q30 : fld (S 0) 6 = v2.toInt := fld_of c29 rfl
  have q31 : fld (S 0) 7 = v4.toInt := fld_of c29 rfl
  refine lv_aload_n hx hb dX12_number_0 rfl (lv_at hl 0 rfl) ?_
  refine xget E hQ 0 (by decide) c29 rfl 12 (by decide) q1480 rfl dX12_number_1 ?_
  refine lv_if_eq (tgt := 9) hx hb dX12_number_4 (by decide) (fun k32 => ?_) (fun k32 => ?_)
  · have h33 := ib_eq k32
    have b34 : Bd v11 (0) (0) := ⟨(b12).1, ((rf_eq b12 (by decide : Bd 0 (0) (0)) h33).1).2⟩
    refine lv_aload_n hx hb dX12_number_9 rfl (lv_at hl 0 rfl) ?_
    refine xget E hQ 0 (by decide) c29 rfl 8 (by decide) q1476 rfl dX12_number_10 ?_
    refine lv_iconst (v := 2) hx hb dX12_number_13 (by decide) ?_
    refine lv_icmp_eq (tgt := 24) hx hb dX12_number_14 (by decide) (fun k35 => ?_) (fun k35 => ?_)
    · have h36 := ib_eq k35
      have b37 : Bd v6 (2) (2) := ⟨((rf_eq b7 (by decide : Bd 2 (2) (2)) h36).1).1, ((rf_eq b7 (by decide : Bd 2 (2) (2)) h36).1).2⟩
      refine lv_aload_n hx hb dX12_number_24 rfl (lv_at hl 0 rfl) ?_
      refine xget E hQ 0 (by decide) c29 rfl 10 (by decide) q1478 rfl dX12_number_25 ?_
      refine lv_i2l hx hb dX12_number_28 rfl ?_
      refine lv_topl (fun w38 e39 => ?_)
      have t40 : w38.toInt = v9.toInt := by rw [e39]; exact i2l_i _
      have b41 : BdL w38 (-2147483648) (2147483647) := (by have h1 := ((ib_full v9)).1; have h2 := ((ib_full v9)).2; exact ⟨by omega, by omega⟩)
      refine lv_iload_n hx hb dX12_number_29 rfl (lv_at hl 1 rfl) ?_
      refine lv_i2l hx hb dX12_number_30 rfl ?_
      refine lv_topl (fun w42 e43 => ?_)
      have t44 : w42.toInt = a1.toInt := by rw [e43]; exact i2l_i _
      have b45 : BdL w42 (0) (0) := (by have h1 := (ba1).1; have h2 := (ba1).2; exact ⟨by omega, by omega⟩)
      refine lv_iload_n hx hb dX12_number_31 rfl (lv_at hl 2 rfl) ?_
      refine lv_i2l hx hb dX12_number_32 rfl ?_
      refine lv_topl (fun w46 e47 => ?_)
      have t48 : w46.toInt = a2.toInt := by rw [e47]; exact i2l_i _
      have b49 : BdL w46 (3) (3) := (by have h1 := (ba2).1; have h2 := (ba2).2; exact ⟨by omega, by omega⟩)
      refine xcSi E hs hQ hml hl.1 (gX12_in l g ad hD S hI w38 w42 w46) mX12_in q1591 rfl ⟨(Nat.le_of_ble_eq_true rfl), (Nat.le_of_ble_eq_true rfl)⟩ ⟨(Nat.le_of_ble_eq_true rfl), (Nat.le_of_ble_eq_true rfl)⟩ (Nat.le_of_ble_eq_true rfl) rfl dX12_number_33 (fun r50 S50 H locs hp50 hQ => ?_)
      obtain ⟨rfl, b50, g50_0, u50_0⟩ := hp50
      refine lv_if_ne (tgt := 46) hx hb dX12_number_36 (by decide) (fun k51 => ?_) (fun k51 => ?_)
      · have h52 := ib_ne k51
        have b53 : Bd r50 (1) (1) := rf_nlo b50 (by decide : Bd 0 (0) (0)) h52
        have g54 := g50_0.resolve_left (by omega)
        clear g50_0
        have b55 : BdL w38 (0) (3) := ⟨by omega, by omega⟩
        have b56 : Bd v9 (0) (3) := ⟨by omega, by omega⟩
        refine lv_aload_n hx hb dX12_number_46 rfl (lv_at hl 0 rfl) ?_
        refine xget E hQ 0 (by decide) c29 rfl 10 (by decide) q1478 rfl dX12_number_47 ?_
        refine lv_istore_n (lv' := [(3, .int v9), (0, .ref (ad 0)), (1, .int a1), (2, .int a2)]) hx hb dX12_number_50 rfl hl (by decide) rfl (fun ls hl => ?_)
        refine lv_aload_n hx hb dX12_number_51 rfl (lv_at hl 1 rfl) ?_
        refine xcVv E hs hQ hml hl.1 0 (gX12_next_0 l g ad hD S hI (by omega)) mX12_next q1637 (by decide) c29 rfl rfl ⟨(Nat.le_of_ble_eq_true rfl), (Nat.le_of_ble_eq_true rfl)⟩ ⟨(Nat.le_of_ble_eq_true rfl), (Nat.le_of_ble_eq_true rfl)⟩ (Nat.le_of_ble_eq_true rfl) rfl dX12_number_52 (fun S57 H locs hp57 hQ _ => ?_)
        obtain ⟨hI, o57, g57_0, g57_1, g57_2, g57_3, g57_4⟩ := hp57
        obtain ⟨v58, v59, v61, v63, v65, v66, w67, v68, v70, v71, v72, v73, v75, v77, v79, v81, v83, v84, v85, c86, b60, b62, b64, b69, b74, b76, b78, b80, b82⟩ := invM_0 hI
        have c86 : S57 0 = .inr (12, [.int v58, .ref (ad 1), .ref (ad 2), .ref (ad 3), .ref (ad 4), .ref (ad 5), .int v59, .int v61, .int v63, .int v65, .int v66, .long w67, .int v68, .int v70, .int v71, .int v72, .ref (ad 6), .ref (ad 7), .ref (ad 8), .ref (ad 9), .ref (ad 10), .ref (ad 11), .ref (ad 12), .ref (ad 13), .ref (ad 14), .ref (ad 15), .int v73, .int v75, .ref (ad 16), .int v77, .int v79, .int v81, .int v83, .int v84, .ref (ad 17), .ref (ad 18), .int v85, .ref (ad 19)]) := c86
        have q87 : fld (S57 0) 6 = v59.toInt := fld_of c86 rfl
        have q88 : fld (S57 0) 7 = v61.toInt := fld_of c86 rfl
        have q89 : fld (S 0) 12 = v11.toInt := fld_of c29 rfl
        have q90 : fld (S57 0) 12 = v68.toInt := fld_of c86 rfl
        have b91 : Bd v68 (0) (0) := ⟨(b69).1, by omega⟩
        have q92 : fld (S57 0) 8 = v63.toInt := fld_of c86 rfl
        refine lv_iload_n hx hb dX12_number_55 rfl (lv_at hl 0 rfl) ?_
        have q93 : fld (S 0) 8 = v6.toInt := fld_of c29 rfl
        exact xri E hr hlk hQ (⟨hI, (o_trans o_refl o57 (by decide)), b56, (by omega), ⟨by omega, by omega⟩, (by omega)⟩) dX12_number_56
      · have h94 := ib_eq k51
        have b95 : Bd r50 (0) (0) := ⟨(b50).1, ((rf_eq b50 (by decide : Bd 0 (0) (0)) h94).1).2⟩
        clear g50_0
        refine lv_aload_n hx hb dX12_number_39 rfl (lv_at hl 0 rfl) ?_
        refine lv_iconst (v := 2) hx hb dX12_number_40 (by decide) ?_
        refine xcVv E hs hQ hml hl.1 0 (gX12_fails_0 l g ad hD S hI 2 (ib_wk (by decide : Bd 2 (2) (2)) (by decide) (by decide))) mX12_fails q1667 (by decide) c29 rfl rfl ⟨(Nat.le_of_ble_eq_true rfl), (Nat.le_of_ble_eq_true rfl)⟩ ⟨(Nat.le_of_ble_eq_true rfl), (Nat.le_of_ble_eq_true rfl)⟩ (Nat.le_of_ble_eq_true rfl) rfl dX12_number_41 (fun S96 H locs hp96 hQ _ => ?_)
        obtain ⟨hI, o96, g96_0, g96_1, g96_2, g96_3⟩ := hp96
        obtain ⟨v97, v98, v100, v102, v104, v105, w106, v107, v109, v110, v111, v112, v114, v116, v118, v120, v122, v123, v124, c125, b99, b101, b103, b108, b113, b115, b117, b119, b121⟩ := invM_0 hI
        have c125 : S96 0 = .inr (12, [.int v97, .ref (ad 1), .ref (ad 2), .ref (ad 3), .ref (ad 4), .ref (ad 5), .int v98, .int v100, .int v102, .int v104, .int v105, .long w106, .int v107, .int v109, .int v110, .int v111, .ref (ad 6), .ref (ad 7), .ref (ad 8), .ref (ad 9), .ref (ad 10), .ref (ad 11), .ref (ad 12), .ref (ad 13), .ref (ad 14), .ref (ad 15), .int v112, .int v114, .ref (ad 16), .int v116, .int v118, .int v120, .int v122, .int v123, .ref (ad 17), .ref (ad 18), .int v124, .ref (ad 19)]) := c125
        have q126 : fld (S96 0) 12 = v107.toInt := fld_of c125 rfl
        have b127 : Bd v107 (1) (3) := ⟨by omega, (b108).2⟩
        have q128 : fld (S96 0) 6 = v98.toInt := fld_of c125 rfl
        have q129 : fld (S96 0) 7 = v100.toInt := fld_of c125 rfl
        have q130 : fld (S 0) 8 = v6.toInt := fld_of c29 rfl
        have q131 : fld (S96 0) 8 = v102.toInt := fld_of c125 rfl
        have b132 : Bd v102 (2) (2) := ⟨by omega, by omega⟩
        refine lv_iload_n hx hb dX12_number_44 rfl (lv_at hl 1 rfl) ?_
        exact xri E hr hlk hQ (⟨hI, (o_trans o_refl o96 (by decide)), (ib_wk ba1 (by decide) (by decide)), (by omega), ⟨by omega, by omega⟩, (by omega)⟩) dX12_number_45
    · have h133 := ib_ne k35
      refine lv_aload_n hx hb dX12_number_17 rfl (lv_at hl 0 rfl) ?_
      refine lv_iconst (v := 1) hx hb dX12_number_18 (by decide) ?_
      refine xcVv E hs hQ hml hl.1 0 (gX12_fails_0 l g ad hD S hI 1 (ib_wk (by decide : Bd 1 (1) (1)) (by decide) (by decide))) mX12_fails q1667 (by decide) c29 rfl rfl ⟨(Nat.le_of_ble_eq_true rfl), (Nat.le_of_ble_eq_true rfl)⟩ ⟨(Nat.le_of_ble_eq_true rfl), (Nat.le_of_ble_eq_true rfl)⟩ (Nat.le_of_ble_eq_true rfl) rfl dX12_number_19 (fun S134 H locs hp134 hQ _ => ?_)
      obtain ⟨hI, o134, g134_0, g134_1, g134_2, g134_3⟩ := hp134
      obtain ⟨v135, v136, v138, v140, v142, v143, w144, v145, v147, v148, v149, v150, v152, v154, v156, v158, v160, v161, v162, c163, b137, b139, b141, b146, b151, b153, b155, b157, b159⟩ := invM_0 hI
      have c163 : S134 0 = .inr (12, [.int v135, .ref (ad 1), .ref (ad 2), .ref (ad 3), .ref (ad 4), .ref (ad 5), .int v136, .int v138, .int v140, .int v142, .int v143, .long w144, .int v145, .int v147, .int v148, .int v149, .ref (ad 6), .ref (ad 7), .ref (ad 8), .ref (ad 9), .ref (ad 10), .ref (ad 11), .ref (ad 12), .ref (ad 13), .ref (ad 14), .ref (ad 15), .int v150, .int v152, .ref (ad 16), .int v154, .int v156, .int v158, .int v160, .int v161, .ref (ad 17), .ref (ad 18), .int v162, .ref (ad 19)]) := c163
      have q164 : fld (S134 0) 12 = v145.toInt := fld_of c163 rfl
      have b165 : Bd v145 (1) (3) := ⟨by omega, (b146).2⟩
      have q166 : fld (S134 0) 6 = v136.toInt := fld_of c163 rfl
      have q167 : fld (S134 0) 7 = v138.toInt := fld_of c163 rfl
      have q168 : fld (S 0) 8 = v6.toInt := fld_of c29 rfl
      have q169 : fld (S134 0) 8 = v140.toInt := fld_of c163 rfl
      refine lv_iload_n hx hb dX12_number_22 rfl (lv_at hl 1 rfl) ?_
      exact xri E hr hlk hQ (⟨hI, (o_trans o_refl o134 (by decide)), (ib_wk ba1 (by decide) (by decide)), (by omega), ⟨by omega, by omega⟩, (by omega)⟩) dX12_number_23
  · have h170 := ib_ne k32
    have b171 : Bd v11 (1) (3) := rf_nlo b12 (by decide : Bd 0 (0) (0)) h170
    refine lv_iload_n hx hb dX12_number_7 rfl (lv_at hl 1 rfl) ?_
    have q172 : fld (S 0) 8 = v6.toInt := fld_of c29 rfl
    exact xri E hr hlk hQ (⟨hI, o_refl, (ib_wk ba1 (by decide) (by decide)), (by omega), ⟨by omega, by omega⟩, (by omega)⟩) dX12_number_8
set_option maxHeartbeats 4000000 in
set_option maxRecDepth 100000 in
theorem gX12_number_5 (l : Launch) (g : GG) (ad : Nat → Nat) (hD : Dj ad 20) (S : SS) (hI : InvM g ad S) (a1 : Int32) (a2 : Int32) (ba1 : Bd a1 (0) (0)) (ba2 : Bd a2 (999) (999)) (hq1 : 0 ≤ fld (S 0) 6 + (-1) * fld (S 0) 7) : Met l yX12_number (wG (.code yX12_number cX12_number 4 (some .int))) (Rm 2) (XPre g ad 20 S [.ref (ad 0), .int a1, .int a2]) (va_Qi (fun r S' => InvM g ad S' ∧ (∀ j, j ∉ ([0] : List Nat) → S' j = S j) ∧ Bd r (0) (999) ∧ (0 ≤ fld (S' 0) 6 + (-1) * fld (S' 0) 7) ∧ (0 ≤ fld (S 0) 6 + (-1) * fld (S' 0) 6 ∧ 0 ≤ fld (S' 0) 6 + (-1) * fld (S 0) 6) ∧ (0 ≤ 4 * fld (S 0) 6 + (-4) * fld (S 0) 7 + fld (S 0) 8 + (-4) * fld (S' 0) 6 + 4 * fld (S' 0) 7 + (-1) * fld (S' 0) 8)) (QB g ad 20) (FA ad 20)) 0 0 (FA ad 20) := by
  refine xmet cX12_number "EbbWreckModel" (by decide) rfl (Nat.le_of_ble_eq_true rfl) (fun p e s m below meth c E hr hlk hml hQ ls hl => ?_)
  have hx := E.1
  have hb := E.2.1
  have hs : Sp ad 20 (FA ad 20) := Sp.fa hD
  have hl : lv_has ls 4 [(0, .ref (ad 0)), (1, .int a1), (2, .int a2)] := hl
  obtain ⟨v1, v2, v4, v6, v8, v9, w10, v11, v13, v14, v15, v16, v18, v20, v22, v24, v26, v27, v28, c29, b3, b5, b7, b12, b17, b19, b21, b23, b25⟩ := invM_0 hI
  have c29 : S 0 = .inr (12, [.int v1, .ref (ad 1), .ref (ad 2), .ref (ad 3), .ref (ad 4), .ref (ad 5), .int v2, .int v4, .int v6, .int v8, .int v9, .long w10, .int v11, .int v13, .int v14, .int v15, .ref (ad 6), .ref (ad 7), .ref (ad 8), .ref (ad 9), .ref (ad 10), .ref (ad 11), .ref (ad 12), .ref (ad 13), .ref (ad 14), .ref (ad 15), .int v16, .int v18, .ref (ad 16), .int v20, .int v22, .int v24, .int v26, .int v27, .ref (ad 17), .ref (ad 18), .int v28, .ref (ad 19)]) := c29
  have q30 : fld (S 0) 6 = v2.toInt := fld_of c29 rfl
  have q31 : fld (S 0) 7 = v4.toInt := fld_of c29 rfl
  refine lv_aload_n hx hb dX12_number_0 rfl (lv_at hl 0 rfl) ?_
  refine xget E hQ 0 (by decide) c29 rfl 12 (by decide) q1480 rfl dX12_number_1 ?_
  refine lv_if_eq (tgt := 9) hx hb dX12_number_4 (by decide) (fun k32 => ?_) (fun k32 => ?_)
  · have h33 := ib_eq k32
    have b34 : Bd v11 (0) (0) := ⟨(b12).1, ((rf_eq b12 (by decide : Bd 0 (0) (0)) h33).1).2⟩
    refine lv_aload_n hx hb dX12_number_9 rfl (lv_at hl 0 rfl) ?_
    refine xget E hQ 0 (by decide) c29 rfl 8 (by decide) q1476 rfl dX12_number_10 ?_
    refine lv_iconst (v := 2) hx hb dX12_number_13 (by decide) ?_
    refine lv_icmp_eq (tgt := 24) hx hb dX12_number_14 (by decide) (fun k35 => ?_) (fun k35 => ?_)
    · have h36 := ib_eq k35
      have b37 : Bd v6 (2) (2) := ⟨((rf_eq b7 (by decide : Bd 2 (2) (2)) h36).1).1, ((rf_eq b7 (by decide : Bd 2 (2) (2)) h36).1).2⟩
      refine lv_aload_n hx hb dX12_number_24 rfl (lv_at hl 0 rfl) ?_
      refine xget E hQ 0 (by decide) c29 rfl 10 (by decide) q1478 rfl dX12_number_25 ?_
      refine lv_i2l hx hb dX12_number_28 rfl ?_
      refine lv_topl (fun w38 e39 => ?_)
      have t40 : w38.toInt = v9.toInt := by rw [e39]; exact i2l_i _
      have b41 : BdL w38 (-2147483648) (2147483647) := (by have h1 := ((ib_full v9)).1; have h2 := ((ib_full v9)).2; exact ⟨by omega, by omega⟩)
      refine lv_iload_n hx hb dX12_number_29 rfl (lv_at hl 1 rfl) ?_
      refine lv_i2l hx hb dX12_number_30 rfl ?_
      refine lv_topl (fun w42 e43 => ?_)
      have t44 : w42.toInt = a1.toInt := by rw [e43]; exact i2l_i _
      have b45 : BdL w42 (0) (0) := (by have h1 := (ba1).1; have h2 := (ba1).2; exact ⟨by omega, by omega⟩)
      refine lv_iload_n hx hb dX12_number_31 rfl (lv_at hl 2 rfl) ?_
      refine lv_i2l hx hb dX12_number_32 rfl ?_
      refine lv_topl (fun w46 e47 => ?_)
      have t48 : w46.toInt = a2.toInt := by rw [e47]; exact i2l_i _
      have b49 : BdL w46 (999) (999) := (by have h1 := (ba2).1; have h2 := (ba2).2; exact ⟨by omega, by omega⟩)
      refine xcSi E hs hQ hml hl.1 (gX12_in l g ad hD S hI w38 w42 w46) mX12_in q1591 rfl ⟨(Nat.le_of_ble_eq_true rfl), (Nat.le_of_ble_eq_true rfl)⟩ ⟨(Nat.le_of_ble_eq_true rfl), (Nat.le_of_ble_eq_true rfl)⟩ (Nat.le_of_ble_eq_true rfl) rfl dX12_number_33 (fun r50 S50 H locs hp50 hQ => ?_)
      obtain ⟨rfl, b50, g50_0, u50_0⟩ := hp50
      refine lv_if_ne (tgt := 46) hx hb dX12_number_36 (by decide) (fun k51 => ?_) (fun k51 => ?_)
      · have h52 := ib_ne k51
        have b53 : Bd r50 (1) (1) := rf_nlo b50 (by decide : Bd 0 (0) (0)) h52
        have g54 := g50_0.resolve_left (by omega)
        clear g50_0
        have b55 : BdL w38 (0) (999) := ⟨by omega, by omega⟩
        have b56 : Bd v9 (0) (999) := ⟨by omega, by omega⟩
        refine lv_aload_n hx hb dX12_number_46 rfl (lv_at hl 0 rfl) ?_
        refine xget E hQ 0 (by decide) c29 rfl 10 (by decide) q1478 rfl dX12_number_47 ?_
        refine lv_istore_n (lv' := [(3, .int v9), (0, .ref (ad 0)), (1, .int a1), (2, .int a2)]) hx hb dX12_number_50 rfl hl (by decide) rfl (fun ls hl => ?_)
        refine lv_aload_n hx hb dX12_number_51 rfl (lv_at hl 1 rfl) ?_
        refine xcVv E hs hQ hml hl.1 0 (gX12_next_0 l g ad hD S hI (by omega)) mX12_next q1637 (by decide) c29 rfl rfl ⟨(Nat.le_of_ble_eq_true rfl), (Nat.le_of_ble_eq_true rfl)⟩ ⟨(Nat.le_of_ble_eq_true rfl), (Nat.le_of_ble_eq_true rfl)⟩ (Nat.le_of_ble_eq_true rfl) rfl dX12_number_52 (fun S57 H locs hp57 hQ _ => ?_)
        obtain ⟨hI, o57, g57_0, g57_1, g57_2, g57_3, g57_4⟩ := hp57
        obtain ⟨v58, v59, v61, v63, v65, v66, w67, v68, v70, v71, v72, v73, v75, v77, v79, v81, v83, v84, v85, c86, b60, b62, b64, b69, b74, b76, b78, b80, b82⟩ := invM_0 hI
        have c86 : S57 0 = .inr (12, [.int v58, .ref (ad 1), .ref (ad 2), .ref (ad 3), .ref (ad 4), .ref (ad 5), .int v59, .int v61, .int v63, .int v65, .int v66, .long w67, .int v68, .int v70, .int v71, .int v72, .ref (ad 6), .ref (ad 7), .ref (ad 8), .ref (ad 9), .ref (ad 10), .ref (ad 11), .ref (ad 12), .ref (ad 13), .ref (ad 14), .ref (ad 15), .int v73, .int v75, .ref (ad 16), .int v77, .int v79, .int v81, .int v83, .int v84, .ref (ad 17), .ref (ad 18), .int v85, .ref (ad 19)]) := c86
        have q87 : fld (S57 0) 6 = v59.toInt := fld_of c86 rfl
        have q88 : fld (S57 0) 7 = v61.toInt := fld_of c86 rfl
        have q89 : fld (S 0) 12 = v11.toInt := fld_of c29 rfl
        have q90 : fld (S57 0) 12 = v68.toInt := fld_of c86 rfl
        have b91 : Bd v68 (0) (0) := ⟨(b69).1, by omega⟩
        have q92 : fld (S57 0) 8 = v63.toInt := fld_of c86 rfl
        refine lv_iload_n hx hb dX12_number_55 rfl (lv_at hl 0 rfl) ?_
        have q93 : fld (S 0) 8 = v6.toInt := fld_of c29 rfl
        exact xri E hr hlk hQ (⟨hI, (o_trans o_refl o57 (by decide)), b56, (by omega), ⟨by omega, by omega⟩, (by omega)⟩) dX12_number_56
      · have h94 := ib_eq k51
        have b95 : Bd r50 (0) (0) := ⟨(b50).1, ((rf_eq b50 (by decide : Bd 0 (0) (0)) h94).1).2⟩
        clear g50_0
        refine lv_aload_n hx hb dX12_number_39 rfl (lv_at hl 0 rfl) ?_
        refine lv_iconst (v := 2) hx hb dX12_number_40 (by decide) ?_
        refine xcVv E hs hQ hml hl.1 0 (gX12_fails_0 l g ad hD S hI 2 (ib_wk (by decide : Bd 2 (2) (2)) (by decide) (by decide))) mX12_fails q1667 (by decide) c29 rfl rfl ⟨(Nat.le_of_ble_eq_true rfl), (Nat.le_of_ble_eq_true rfl)⟩ ⟨(Nat.le_of_ble_eq_true rfl), (Nat.le_of_ble_eq_true rfl)⟩ (Nat.le_of_ble_eq_true rfl) rfl dX12_number_41 (fun S96 H locs hp96 hQ _ => ?_)
        obtain ⟨hI, o96, g96_0, g96_1, g96_2, g96_3⟩ := hp96
        obtain ⟨v97, v98, v100, v102, v104, v105, w106, v107, v109, v110, v111, v112, v114, v116, v118, v120, v122, v123, v124, c125, b99, b101, b103, b108, b113, b115, b117, b119, b121⟩ := invM_0 hI
        have c125 : S96 0 = .inr (12, [.int v97, .ref (ad 1), .ref (ad 2), .ref (ad 3), .ref (ad 4), .ref (ad 5), .int v98, .int v100, .int v102, .int v104, .int v105, .long w106, .int v107, .int v109, .int v110, .int v111, .ref (ad 6), .ref (ad 7), .ref (ad 8), .ref (ad 9), .ref (ad 10), .ref (ad 11), .ref (ad 12), .ref (ad 13), .ref (ad 14), .ref (ad 15), .int v112, .int v114, .ref (ad 16), .int v116, .int v118, .int v120, .int v122, .int v123, .ref (ad 17), .ref (ad 18), .int v124, .ref (ad 19)]) := c125
        have q126 : fld (S96 0) 12 = v107.toInt := fld_of c125 rfl
        have b127 : Bd v107 (1) (3) := ⟨by omega, (b108).2⟩
        have q128 : fld (S96 0) 6 = v98.toInt := fld_of c125 rfl
        have q129 : fld (S96 0) 7 = v100.toInt := fld_of c125 rfl
        have q130 : fld (S 0) 8 = v6.toInt := fld_of c29 rfl
        have q131 : fld (S96 0) 8 = v102.toInt := fld_of c125 rfl
        have b132 : Bd v102 (2) (2) := ⟨by omega, by omega⟩
        refine lv_iload_n hx hb dX12_number_44 rfl (lv_at hl 1 rfl) ?_
        exact xri E hr hlk hQ (⟨hI, (o_trans o_refl o96 (by decide)), (ib_wk ba1 (by decide) (by decide)), (by omega), ⟨by omega, by omega⟩, (by omega)⟩) dX12_number_45
    · have h133 := ib_ne k35
      refine lv_aload_n hx hb dX12_number_17 rfl (lv_at hl 0 rfl) ?_
      refine lv_iconst (v := 1) hx hb dX12_number_18 (by decide) ?_
      refine xcVv E hs hQ hml hl.1 0 (gX12_fails_0 l g ad hD S hI 1 (ib_wk (by decide : Bd 1 (1) (1)) (by decide) (by decide))) mX12_fails q1667 (by decide) c29 rfl rfl ⟨(Nat.le_of_ble_eq_true rfl), (Nat.le_of_ble_eq_true rfl)⟩ ⟨(Nat.le_of_ble_eq_true rfl), (Nat.le_of_ble_eq_true rfl)⟩ (Nat.le_of_ble_eq_true rfl) rfl dX12_number_19 (fun S134 H locs hp134 hQ _ => ?_)
      obtain ⟨hI, o134, g134_0, g134_1, g134_2, g134_3⟩ := hp134
      obtain ⟨v135, v136, v138, v140, v142, v143, w144, v145, v147, v148, v149, v150, v152, v154, v156, v158, v160, v161, v162, c163, b137, b139, b141, b146, b151, b153, b155, b157, b159⟩ := invM_0 hI
      have c163 : S134 0 = .inr (12, [.int v135, .ref (ad 1), .ref (ad 2), .ref (ad 3), .ref (ad 4), .ref (ad 5), .int v136, .int v138, .int v140, .int v142, .int v143, .long w144, .int v145, .int v147, .int v148, .int v149, .ref (ad 6), .ref (ad 7), .ref (ad 8), .ref (ad 9), .ref (ad 10), .ref (ad 11), .ref (ad 12), .ref (ad 13), .ref (ad 14), .ref (ad 15), .int v150, .int v152, .ref (ad 16), .int v154, .int v156, .int v158, .int v160, .int v161, .ref (ad 17), .ref (ad 18), .int v162, .ref (ad 19)]) := c163
      have q164 : fld (S134 0) 12 = v145.toInt := fld_of c163 rfl
      have b165 : Bd v145 (1) (3) := ⟨by omega, (b146).2⟩
      have q166 : fld (S134 0) 6 = v136.toInt := fld_of c163 rfl
      have q167 : fld (S134 0) 7 = v138.toInt := fld_of c163 rfl
      have q168 : fld (S 0) 8 = v6.toInt := fld_of c29 rfl
      have q169 : fld (S134 0) 8 = v140.toInt := fld_of c163 rfl
      refine lv_iload_n hx hb dX12_number_22 rfl (lv_at hl 1 rfl) ?_
      exact xri E hr hlk hQ (⟨hI, (o_trans o_refl o134 (by decide)), (ib_wk ba1 (by decide) (by decide)), (by omega), ⟨by omega, by omega⟩, (by omega)⟩) dX12_number_23
  · have h170 := ib_ne k32
    have b171 : Bd v11 (1) (3) := rf_nlo b12 (by decide : Bd 0 (0) (0)) h170
    refine lv_iload_n hx hb dX12_number_7 rfl (lv_at hl 1 rfl) ?_
    have q172 : fld (S 0) 8 = v6.toInt := fld_of c29 rfl
    exact xri E hr hlk hQ (⟨hI, o_refl, (ib_wk ba1 (by decide) (by decide)), (by omega), ⟨by omega, by omega⟩, (by omega)⟩) dX12_number_8
set_option maxHeartbeats 4000000 in
set_option maxRecDepth 100000 in
theorem gX12_number_6 (l : Launch) (g : GG) (ad : Nat → Nat) (hD : Dj ad 20) (S : SS) (hI : InvM g ad S) (a1 : Int32) (a2 : Int32) (ba1 : Bd a1 (0) (0)) (ba2 : Bd a2 (99) (99)) (hq1 : 0 ≤ fld (S 0) 6 + (-1) * fld (S 0) 7) : Met l yX12_number (wG (.code yX12_number cX12_number 4 (some .int))) (Rm 2) (XPre g ad 20 S [.ref (ad 0), .int a1, .int a2]) (va_Qi (fun r S' => InvM g ad S' ∧ (∀ j, j ∉ ([0] : List Nat) → S' j = S j) ∧ Bd r (0) (99) ∧ (0 ≤ fld (S' 0) 6 + (-1) * fld (S' 0) 7) ∧ (0 ≤ fld (S 0) 6 + (-1) * fld (S' 0) 6 ∧ 0 ≤ fld (S' 0) 6 + (-1) * fld (S 0) 6) ∧ (0 ≤ 4 * fld (S 0) 6 + (-4) * fld (S 0) 7 + fld (S 0) 8 + (-4) * fld (S' 0) 6 + 4 * fld (S' 0) 7 + (-1) * fld (S' 0) 8)) (QB g ad 20) (FA ad 20)) 0 0 (FA ad 20) := by
  refine xmet cX12_number "EbbWreckModel" (by decide) rfl (Nat.le_of_ble_eq_true rfl) (fun p e s m below meth c E hr hlk hml hQ ls hl => ?_)
  have hx := E.1
  have hb := E.2.1
  have hs : Sp ad 20 (FA ad 20) := Sp.fa hD
  have hl : lv_has ls 4 [(0, .ref (ad 0)), (1, .int a1), (2, .int a2)] := hl
  obtain ⟨v1, v2, v4, v6, v8, v9, w10, v11, v13, v14, v15, v16, v18, v20, v22, v24, v26, v27, v28, c29, b3, b5, b7, b12, b17, b19, b21, b23, b25⟩ := invM_0 hI
  have c29 : S 0 = .inr (12, [.int v1, .ref (ad 1), .ref (ad 2), .ref (ad 3), .ref (ad 4), .ref (ad 5), .int v2, .int v4, .int v6, .int v8, .int v9, .long w10, .int v11, .int v13, .int v14, .int v15, .ref (ad 6), .ref (ad 7), .ref (ad 8), .ref (ad 9), .ref (ad 10), .ref (ad 11), .ref (ad 12), .ref (ad 13), .ref (ad 14), .ref (ad 15), .int v16, .int v18, .ref (ad 16), .int v20, .int v22, .int v24, .int v26, .int v27, .ref (ad 17), .ref (ad 18), .int v28, .ref (ad 19)]) := c29
  have q30 : fld (S 0) 6 = v2.toInt := fld_of c29 rfl
  have q31 : fld (S 0) 7 = v4.toInt := fld_of c29 rfl
  refine lv_aload_n hx hb dX12_number_0 rfl (lv_at hl 0 rfl) ?_
  refine xget E hQ 0 (by decide) c29 rfl 12 (by decide) q1480 rfl dX12_number_1 ?_
  refine lv_if_eq (tgt := 9) hx hb dX12_number_4 (by decide) (fun k32 => ?_) (fun k32 => ?_)
  · have h33 := ib_eq k32
    have b34 : Bd v11 (0) (0) := ⟨(b12).1, ((rf_eq b12 (by decide : Bd 0 (0) (0)) h33).1).2⟩
    refine lv_aload_n hx hb dX12_number_9 rfl (lv_at hl 0 rfl) ?_
    refine xget E hQ 0 (by decide) c29 rfl 8 (by decide) q1476 rfl dX12_number_10 ?_
    refine lv_iconst (v := 2) hx hb dX12_number_13 (by decide) ?_
    refine lv_icmp_eq (tgt := 24) hx hb dX12_number_14 (by decide) (fun k35 => ?_) (fun k35 => ?_)
    · have h36 := ib_eq k35
      have b37 : Bd v6 (2) (2) := ⟨((rf_eq b7 (by decide : Bd 2 (2) (2)) h36).1).1, ((rf_eq b7 (by decide : Bd 2 (2) (2)) h36).1).2⟩
      refine lv_aload_n hx hb dX12_number_24 rfl (lv_at hl 0 rfl) ?_
      refine xget E hQ 0 (by decide) c29 rfl 10 (by decide) q1478 rfl dX12_number_25 ?_
      refine lv_i2l hx hb dX12_number_28 rfl ?_
      refine lv_topl (fun w38 e39 => ?_)
      have t40 : w38.toInt = v9.toInt := by rw [e39]; exact i2l_i _
      have b41 : BdL w38 (-2147483648) (2147483647) := (by have h1 := ((ib_full v9)).1; have h2 := ((ib_full v9)).2; exact ⟨by omega, by omega⟩)
      refine lv_iload_n hx hb dX12_number_29 rfl (lv_at hl 1 rfl) ?_
      refine lv_i2l hx hb dX12_number_30 rfl ?_
      refine lv_topl (fun w42 e43 => ?_)
      have t44 : w42.toInt = a1.toInt := by rw [e43]; exact i2l_i _
      have b45 : BdL w42 (0) (0) := (by have h1 := (ba1).1; have h2 := (ba1).2; exact ⟨by omega, by omega⟩)
      refine lv_iload_n hx hb dX12_number_31 rfl (lv_at hl 2 rfl) ?_
      refine lv_i2l hx hb dX12_number_32 rfl ?_
      refine lv_topl (fun w46 e47 => ?_)
      have t48 : w46.toInt = a2.toInt := by rw [e47]; exact i2l_i _
      have b49 : BdL w46 (99) (99) := (by have h1 := (ba2).1; have h2 := (ba2).2; exact ⟨by omega, by omega⟩)
      refine xcSi E hs hQ hml hl.1 (gX12_in l g ad hD S hI w38 w42 w46) mX12_in q1591 rfl ⟨(Nat.le_of_ble_eq_true rfl), (Nat.le_of_ble_eq_true rfl)⟩ ⟨(Nat.le_of_ble_eq_true rfl), (Nat.le_of_ble_eq_true rfl)⟩ (Nat.le_of_ble_eq_true rfl) rfl dX12_number_33 (fun r50 S50 H locs hp50 hQ => ?_)
      obtain ⟨rfl, b50, g50_0, u50_0⟩ := hp50
      refine lv_if_ne (tgt := 46) hx hb dX12_number_36 (by decide) (fun k51 => ?_) (fun k51 => ?_)
      · have h52 := ib_ne k51
        have b53 : Bd r50 (1) (1) := rf_nlo b50 (by decide : Bd 0 (0) (0)) h52
        have g54 := g50_0.resolve_left (by omega)
        clear g50_0
        have b55 : BdL w38 (0) (99) := ⟨by omega, by omega⟩
        have b56 : Bd v9 (0) (99) := ⟨by omega, by omega⟩
        refine lv_aload_n hx hb dX12_number_46 rfl (lv_at hl 0 rfl) ?_
        refine xget E hQ 0 (by decide) c29 rfl 10 (by decide) q1478 rfl dX12_number_47 ?_
        refine lv_istore_n (lv' := [(3, .int v9), (0, .ref (ad 0)), (1, .int a1), (2, .int a2)]) hx hb dX12_number_50 rfl hl (by decide) rfl (fun ls hl => ?_)
        refine lv_aload_n hx hb dX12_number_51 rfl (lv_at hl 1 rfl) ?_
        refine xcVv E hs hQ hml hl.1 0 (gX12_next_0 l g ad hD S hI (by omega)) mX12_next q1637 (by decide) c29 rfl rfl ⟨(Nat.le_of_ble_eq_true rfl), (Nat.le_of_ble_eq_true rfl)⟩ ⟨(Nat.le_of_ble_eq_true rfl), (Nat.le_of_ble_eq_true rfl)⟩ (Nat.le_of_ble_eq_true rfl) rfl dX12_number_52 (fun S57 H locs hp57 hQ _ => ?_)
        obtain ⟨hI, o57, g57_0, g57_1, g57_2, g57_3, g57_4⟩ := hp57
        obtain ⟨v58, v59, v61, v63, v65, v66, w67, v68, v70, v71, v72, v73, v75, v77, v79, v81, v83, v84, v85, c86, b60, b62, b64, b69, b74, b76, b78, b80, b82⟩ := invM_0 hI
        have c86 : S57 0 = .inr (12, [.int v58, .ref (ad 1), .ref (ad 2), .ref (ad 3), .ref (ad 4), .ref (ad 5), .int v59, .int v61, .int v63, .int v65, .int v66, .long w67, .int v68, .int v70, .int v71, .int v72, .ref (ad 6), .ref (ad 7), .ref (ad 8), .ref (ad 9), .ref (ad 10), .ref (ad 11), .ref (ad 12), .ref (ad 13), .ref (ad 14), .ref (ad 15), .int v73, .int v75, .ref (ad 16), .int v77, .int v79, .int v81, .int v83, .int v84, .ref (ad 17), .ref (ad 18), .int v85, .ref (ad 19)]) := c86
        have q87 : fld (S57 0) 6 = v59.toInt := fld_of c86 rfl
        have q88 : fld (S57 0) 7 = v61.toInt := fld_of c86 rfl
        have q89 : fld (S 0) 12 = v11.toInt := fld_of c29 rfl
        have q90 : fld (S57 0) 12 = v68.toInt := fld_of c86 rfl
        have b91 : Bd v68 (0) (0) := ⟨(b69).1, by omega⟩
        have q92 : fld (S57 0) 8 = v63.toInt := fld_of c86 rfl
        refine lv_iload_n hx hb dX12_number_55 rfl (lv_at hl 0 rfl) ?_
        have q93 : fld (S 0) 8 = v6.toInt := fld_of c29 rfl
        exact xri E hr hlk hQ (⟨hI, (o_trans o_refl o57 (by decide)), b56, (by omega), ⟨by omega, by omega⟩, (by omega)⟩) dX12_number_56
      · have h94 := ib_eq k51
        have b95 : Bd r50 (0) (0) := ⟨(b50).1, ((rf_eq b50 (by decide : Bd 0 (0) (0)) h94).1).2⟩
        clear g50_0
        refine lv_aload_n hx hb dX12_number_39 rfl (lv_at hl 0 rfl) ?_
        refine lv_iconst (v := 2) hx hb dX12_number_40 (by decide) ?_
        refine xcVv E hs hQ hml hl.1 0 (gX12_fails_0 l g ad hD S hI 2 (ib_wk (by decide : Bd 2 (2) (2)) (by decide) (by decide))) mX12_fails q1667 (by decide) c29 rfl rfl ⟨(Nat.le_of_ble_eq_true rfl), (Nat.le_of_ble_eq_true rfl)⟩ ⟨(Nat.le_of_ble_eq_true rfl), (Nat.le_of_ble_eq_true rfl)⟩ (Nat.le_of_ble_eq_true rfl) rfl dX12_number_41 (fun S96 H locs hp96 hQ _ => ?_)
        obtain ⟨hI, o96, g96_0, g96_1, g96_2, g96_3⟩ := hp96
        obtain ⟨v97, v98, v100, v102, v104, v105, w106, v107, v109, v110, v111, v112, v114, v116, v118, v120, v122, v123, v124, c125, b99, b101, b103, b108, b113, b115, b117, b119, b121⟩ := invM_0 hI
        have c125 : S96 0 = .inr (12, [.int v97, .ref (ad 1), .ref (ad 2), .ref (ad 3), .ref (ad 4), .ref (ad 5), .int v98, .int v100, .int v102, .int v104, .int v105, .long w106, .int v107, .int v109, .int v110, .int v111, .ref (ad 6), .ref (ad 7), .ref (ad 8), .ref (ad 9), .ref (ad 10), .ref (ad 11), .ref (ad 12), .ref (ad 13), .ref (ad 14), .ref (ad 15), .int v112, .int v114, .ref (ad 16), .int v116, .int v118, .int v120, .int v122, .int v123, .ref (ad 17), .ref (ad 18), .int v124, .ref (ad 19)]) := c125
        have q126 : fld (S96 0) 12 = v107.toInt := fld_of c125 rfl
        have b127 : Bd v107 (1) (3) := ⟨by omega, (b108).2⟩
        have q128 : fld (S96 0) 6 = v98.toInt := fld_of c125 rfl
        have q129 : fld (S96 0) 7 = v100.toInt := fld_of c125 rfl
        have q130 : fld (S 0) 8 = v6.toInt := fld_of c29 rfl
        have q131 : fld (S96 0) 8 = v102.toInt := fld_of c125 rfl
        have b132 : Bd v102 (2) (2) := ⟨by omega, by omega⟩
        refine lv_iload_n hx hb dX12_number_44 rfl (lv_at hl 1 rfl) ?_
        exact xri E hr hlk hQ (⟨hI, (o_trans o_refl o96 (by decide)), (ib_wk ba1 (by decide) (by decide)), (by omega), ⟨by omega, by omega⟩, (by omega)⟩) dX12_number_45
    · have h133 := ib_ne k35
      refine lv_aload_n hx hb dX12_number_17 rfl (lv_at hl 0 rfl) ?_
      refine lv_iconst (v := 1) hx hb dX12_number_18 (by decide) ?_
      refine xcVv E hs hQ hml hl.1 0 (gX12_fails_0 l g ad hD S hI 1 (ib_wk (by decide : Bd 1 (1) (1)) (by decide) (by decide))) mX12_fails q1667 (by decide) c29 rfl rfl ⟨(Nat.le_of_ble_eq_true rfl), (Nat.le_of_ble_eq_true rfl)⟩ ⟨(Nat.le_of_ble_eq_true rfl), (Nat.le_of_ble_eq_true rfl)⟩ (Nat.le_of_ble_eq_true rfl) rfl dX12_number_19 (fun S134 H locs hp134 hQ _ => ?_)
      obtain ⟨hI, o134, g134_0, g134_1, g134_2, g134_3⟩ := hp134
      obtain ⟨v135, v136, v138, v140, v142, v143, w144, v145, v147, v148, v149, v150, v152, v154, v156, v158, v160, v161, v162, c163, b137, b139, b141, b146, b151, b153, b155, b157, b159⟩ := invM_0 hI
      have c163 : S134 0 = .inr (12, [.int v135, .ref (ad 1), .ref (ad 2), .ref (ad 3), .ref (ad 4), .ref (ad 5), .int v136, .int v138, .int v140, .int v142, .int v143, .long w144, .int v145, .int v147, .int v148, .int v149, .ref (ad 6), .ref (ad 7), .ref (ad 8), .ref (ad 9), .ref (ad 10), .ref (ad 11), .ref (ad 12), .ref (ad 13), .ref (ad 14), .ref (ad 15), .int v150, .int v152, .ref (ad 16), .int v154, .int v156, .int v158, .int v160, .int v161, .ref (ad 17), .ref (ad 18), .int v162, .ref (ad 19)]) := c163
      have q164 : fld (S134 0) 12 = v145.toInt := fld_of c163 rfl
      have b165 : Bd v145 (1) (3) := ⟨by omega, (b146).2⟩
      have q166 : fld (S134 0) 6 = v136.toInt := fld_of c163 rfl
      have q167 : fld (S134 0) 7 = v138.toInt := fld_of c163 rfl
      have q168 : fld (S 0) 8 = v6.toInt := fld_of c29 rfl
      have q169 : fld (S134 0) 8 = v140.toInt := fld_of c163 rfl
      refine lv_iload_n hx hb dX12_number_22 rfl (lv_at hl 1 rfl) ?_
      exact xri E hr hlk hQ (⟨hI, (o_trans o_refl o134 (by decide)), (ib_wk ba1 (by decide) (by decide)), (by omega), ⟨by omega, by omega⟩, (by omega)⟩) dX12_number_23
  · have h170 := ib_ne k32
    have b171 : Bd v11 (1) (3) := rf_nlo b12 (by decide : Bd 0 (0) (0)) h170
    refine lv_iload_n hx hb dX12_number_7 rfl (lv_at hl 1 rfl) ?_
    have q172 : fld (S 0) 8 = v6.toInt := fld_of c29 rfl
    exact xri E hr hlk hQ (⟨hI, o_refl, (ib_wk ba1 (by decide) (by decide)), (by omega), ⟨by omega, by omega⟩, (by omega)⟩) dX12_number_8
set_option maxHeartbeats 4000000 in
set_option maxRecDepth 100000 in
theorem gX12_number_7 (l : Launch) (g : GG) (ad : Nat → Nat) (hD : Dj ad 20) (S : SS) (hI : InvM g ad S) (a1 : Int32) (a2 : Int32) (ba1 : Bd a1 (0) (0)) (ba2 : Bd a2 (5) (5)) (hq1 : 0 ≤ fld (S 0) 6 + (-1) * fld (S 0) 7) : Met l yX12_number (wG (.code yX12_number cX12_number 4 (some .int))) (Rm 2) (XPre g ad 20 S [.ref (ad 0), .int a1, .int a2]) (va_Qi (fun r S' => InvM g ad S' ∧ (∀ j, j ∉ ([0] : List Nat) → S' j = S j) ∧ Bd r (0) (5) ∧ (0 ≤ fld (S' 0) 6 + (-1) * fld (S' 0) 7) ∧ (0 ≤ fld (S 0) 6 + (-1) * fld (S' 0) 6 ∧ 0 ≤ fld (S' 0) 6 + (-1) * fld (S 0) 6) ∧ (0 ≤ 4 * fld (S 0) 6 + (-4) * fld (S 0) 7 + fld (S 0) 8 + (-4) * fld (S' 0) 6 + 4 * fld (S' 0) 7 + (-1) * fld (S' 0) 8)) (QB g ad 20) (FA ad 20)) 0 0 (FA ad 20) := by
  refine xmet cX12_number "EbbWreckModel" (by decide) rfl (Nat.le_of_ble_eq_true rfl) (fun p e s m below meth c E hr hlk hml hQ ls hl => ?_)
  have hx := E.1
  have hb := E.2.1
  have hs : Sp ad 20 (FA ad 20) := Sp.fa hD
  have hl : lv_has ls 4 [(0, .ref (ad 0)), (1, .int a1), (2, .int a2)] := hl
  obtain ⟨v1, v2, v4, v6, v8, v9, w10, v11, v13, v14, v15, v16, v18, v20, v22, v24, v26, v27, v28, c29, b3, b5, b7, b12, b17, b19, b21, b23, b25⟩ := invM_0 hI
  have c29 : S 0 = .inr (12, [.int v1, .ref (ad 1), .ref (ad 2), .ref (ad 3), .ref (ad 4), .ref (ad 5), .int v2, .int v4, .int v6, .int v8, .int v9, .long w10, .int v11, .int v13, .int v14, .int v15, .ref (ad 6), .ref (ad 7), .ref (ad 8), .ref (ad 9), .ref (ad 10), .ref (ad 11), .ref (ad 12), .ref (ad 13), .ref (ad 14), .ref (ad 15), .int v16, .int v18, .ref (ad 16), .int v20, .int v22, .int v24, .int v26, .int v27, .ref (ad 17), .ref (ad 18), .int v28, .ref (ad 19)]) := c29
  have q30 : fld (S 0) 6 = v2.toInt := fld_of c29 rfl
  have q31 : fld (S 0) 7 = v4.toInt := fld_of c29 rfl
  refine lv_aload_n hx hb dX12_number_0 rfl (lv_at hl 0 rfl) ?_
  refine xget E hQ 0 (by decide) c29 rfl 12 (by decide) q1480 rfl dX12_number_1 ?_
  refine lv_if_eq (tgt := 9) hx hb dX12_number_4 (by decide) (fun k32 => ?_) (fun k32 => ?_)
  · have h33 := ib_eq k32
    have b34 : Bd v11 (0) (0) := ⟨(b12).1, ((rf_eq b12 (by decide : Bd 0 (0) (0)) h33).1).2⟩
    refine lv_aload_n hx hb dX12_number_9 rfl (lv_at hl 0 rfl) ?_
    refine xget E hQ 0 (by decide) c29 rfl 8 (by decide) q1476 rfl dX12_number_10 ?_
    refine lv_iconst (v := 2) hx hb dX12_number_13 (by decide) ?_
    refine lv_icmp_eq (tgt := 24) hx hb dX12_number_14 (by decide) (fun k35 => ?_) (fun k35 => ?_)
    · have h36 := ib_eq k35
      have b37 : Bd v6 (2) (2) := ⟨((rf_eq b7 (by decide : Bd 2 (2) (2)) h36).1).1, ((rf_eq b7 (by decide : Bd 2 (2) (2)) h36).1).2⟩
      refine lv_aload_n hx hb dX12_number_24 rfl (lv_at hl 0 rfl) ?_
      refine xget E hQ 0 (by decide) c29 rfl 10 (by decide) q1478 rfl dX12_number_25 ?_
      refine lv_i2l hx hb dX12_number_28 rfl ?_
      refine lv_topl (fun w38 e39 => ?_)
      have t40 : w38.toInt = v9.toInt := by rw [e39]; exact i2l_i _
      have b41 : BdL w38 (-2147483648) (2147483647) := (by have h1 := ((ib_full v9)).1; have h2 := ((ib_full v9)).2; exact ⟨by omega, by omega⟩)
      refine lv_iload_n hx hb dX12_number_29 rfl (lv_at hl 1 rfl) ?_
      refine lv_i2l hx hb dX12_number_30 rfl ?_
      refine lv_topl (fun w42 e43 => ?_)
      have t44 : w42.toInt = a1.toInt := by rw [e43]; exact i2l_i _
      have b45 : BdL w42 (0) (0) := (by have h1 := (ba1).1; have h2 := (ba1).2; exact ⟨by omega, by omega⟩)
      refine lv_iload_n hx hb dX12_number_31 rfl (lv_at hl 2 rfl) ?_
      refine lv_i2l hx hb dX12_number_32 rfl ?_
      refine lv_topl (fun w46 e47 => ?_)
      have t48 : w46.toInt = a2.toInt := by rw [e47]; exact i2l_i _
      have b49 : BdL w46 (5) (5) := (by have h1 := (ba2).1; have h2 := (ba2).2; exact ⟨by omega, by omega⟩)
      refine xcSi E hs hQ hml hl.1 (gX12_in l g ad hD S hI w38 w42 w46) mX12_in q1591 rfl ⟨(Nat.le_of_ble_eq_true rfl), (Nat.le_of_ble_eq_true rfl)⟩ ⟨(Nat.le_of_ble_eq_true rfl), (Nat.le_of_ble_eq_true rfl)⟩ (Nat.le_of_ble_eq_true rfl) rfl dX12_number_33 (fun r50 S50 H locs hp50 hQ => ?_)
      obtain ⟨rfl, b50, g50_0, u50_0⟩ := hp50
      refine lv_if_ne (tgt := 46) hx hb dX12_number_36 (by decide) (fun k51 => ?_) (fun k51 => ?_)
      · have h52 := ib_ne k51
        have b53 : Bd r50 (1) (1) := rf_nlo b50 (by decide : Bd 0 (0) (0)) h52
        have g54 := g50_0.resolve_left (by omega)
        clear g50_0
        have b55 : BdL w38 (0) (5) := ⟨by omega, by omega⟩
        have b56 : Bd v9 (0) (5) := ⟨by omega, by omega⟩
        refine lv_aload_n hx hb dX12_number_46 rfl (lv_at hl 0 rfl) ?_
        refine xget E hQ 0 (by decide) c29 rfl 10 (by decide) q1478 rfl dX12_number_47 ?_
        refine lv_istore_n (lv' := [(3, .int v9), (0, .ref (ad 0)), (1, .int a1), (2, .int a2)]) hx hb dX12_number_50 rfl hl (by decide) rfl (fun ls hl => ?_)
        refine lv_aload_n hx hb dX12_number_51 rfl (lv_at hl 1 rfl) ?_
        refine xcVv E hs hQ hml hl.1 0 (gX12_next_0 l g ad hD S hI (by omega)) mX12_next q1637 (by decide) c29 rfl rfl ⟨(Nat.le_of_ble_eq_true rfl), (Nat.le_of_ble_eq_true rfl)⟩ ⟨(Nat.le_of_ble_eq_true rfl), (Nat.le_of_ble_eq_true rfl)⟩ (Nat.le_of_ble_eq_true rfl) rfl dX12_number_52 (fun S57 H locs hp57 hQ _ => ?_)
        obtain ⟨hI, o57, g57_0, g57_1, g57_2, g57_3, g57_4⟩ := hp57
        obtain ⟨v58, v59, v61, v63, v65, v66, w67, v68, v70, v71, v72, v73, v75, v77, v79, v81, v83, v84, v85, c86, b60, b62, b64, b69, b74, b76, b78, b80, b82⟩ := invM_0 hI
        have c86 : S57 0 = .inr (12, [.int v58, .ref (ad 1), .ref (ad 2), .ref (ad 3), .ref (ad 4), .ref (ad 5), .int v59, .int v61, .int v63, .int v65, .int v66, .long w67, .int v68, .int v70, .int v71, .int v72, .ref (ad 6), .ref (ad 7), .ref (ad 8), .ref (ad 9), .ref (ad 10), .ref (ad 11), .ref (ad 12), .ref (ad 13), .ref (ad 14), .ref (ad 15), .int v73, .int v75, .ref (ad 16), .int v77, .int v79, .int v81, .int v83, .int v84, .ref (ad 17), .ref (ad 18), .int v85, .ref (ad 19)]) := c86
        have q87 : fld (S57 0) 6 = v59.toInt := fld_of c86 rfl
        have q88 : fld (S57 0) 7 = v61.toInt := fld_of c86 rfl
        have q89 : fld (S 0) 12 = v11.toInt := fld_of c29 rfl
        have q90 : fld (S57 0) 12 = v68.toInt := fld_of c86 rfl
        have b91 : Bd v68 (0) (0) := ⟨(b69).1, by omega⟩
        have q92 : fld (S57 0) 8 = v63.toInt := fld_of c86 rfl
        refine lv_iload_n hx hb dX12_number_55 rfl (lv_at hl 0 rfl) ?_
        have q93 : fld (S 0) 8 = v6.toInt := fld_of c29 rfl
        exact xri E hr hlk hQ (⟨hI, (o_trans o_refl o57 (by decide)), b56, (by omega), ⟨by omega, by omega⟩, (by omega)⟩) dX12_number_56
      · have h94 := ib_eq k51
        have b95 : Bd r50 (0) (0) := ⟨(b50).1, ((rf_eq b50 (by decide : Bd 0 (0) (0)) h94).1).2⟩
        clear g50_0
        refine lv_aload_n hx hb dX12_number_39 rfl (lv_at hl 0 rfl) ?_
        refine lv_iconst (v := 2) hx hb dX12_number_40 (by decide) ?_
        refine xcVv E hs hQ hml hl.1 0 (gX12_fails_0 l g ad hD S hI 2 (ib_wk (by decide : Bd 2 (2) (2)) (by decide) (by decide))) mX12_fails q1667 (by decide) c29 rfl rfl ⟨(Nat.le_of_ble_eq_true rfl), (Nat.le_of_ble_eq_true rfl)⟩ ⟨(Nat.le_of_ble_eq_true rfl), (Nat.le_of_ble_eq_true rfl)⟩ (Nat.le_of_ble_eq_true rfl) rfl dX12_number_41 (fun S96 H locs hp96 hQ _ => ?_)
        obtain ⟨hI, o96, g96_0, g96_1, g96_2, g96_3⟩ := hp96
        obtain ⟨v97, v98, v100, v102, v104, v105, w106, v107, v109, v110, v111, v112, v114, v116, v118, v120, v122, v123, v124, c125, b99, b101, b103, b108, b113, b115, b117, b119, b121⟩ := invM_0 hI
        have c125 : S96 0 = .inr (12, [.int v97, .ref (ad 1), .ref (ad 2), .ref (ad 3), .ref (ad 4), .ref (ad 5), .int v98, .int v100, .int v102, .int v104, .int v105, .long w106, .int v107, .int v109, .int v110, .int v111, .ref (ad 6), .ref (ad 7), .ref (ad 8), .ref (ad 9), .ref (ad 10), .ref (ad 11), .ref (ad 12), .ref (ad 13), .ref (ad 14), .ref (ad 15), .int v112, .int v114, .ref (ad 16), .int v116, .int v118, .int v120, .int v122, .int v123, .ref (ad 17), .ref (ad 18), .int v124, .ref (ad 19)]) := c125
        have q126 : fld (S96 0) 12 = v107.toInt := fld_of c125 rfl
        have b127 : Bd v107 (1) (3) := ⟨by omega, (b108).2⟩
        have q128 : fld (S96 0) 6 = v98.toInt := fld_of c125 rfl
        have q129 : fld (S96 0) 7 = v100.toInt := fld_of c125 rfl
        have q130 : fld (S 0) 8 = v6.toInt := fld_of c29 rfl
        have q131 : fld (S96 0) 8 = v102.toInt := fld_of c125 rfl
        have b132 : Bd v102 (2) (2) := ⟨by omega, by omega⟩
        refine lv_iload_n hx hb dX12_number_44 rfl (lv_at hl 1 rfl) ?_
        exact xri E hr hlk hQ (⟨hI, (o_trans o_refl o96 (by decide)), (ib_wk ba1 (by decide) (by decide)), (by omega), ⟨by omega, by omega⟩, (by omega)⟩) dX12_number_45
    · have h133 := ib_ne k35
      refine lv_aload_n hx hb dX12_number_17 rfl (lv_at hl 0 rfl) ?_
      refine lv_iconst (v := 1) hx hb dX12_number_18 (by decide) ?_
      refine xcVv E hs hQ hml hl.1 0 (gX12_fails_0 l g ad hD S hI 1 (ib_wk (by decide : Bd 1 (1) (1)) (by decide) (by decide))) mX12_fails q1667 (by decide) c29 rfl rfl ⟨(Nat.le_of_ble_eq_true rfl), (Nat.le_of_ble_eq_true rfl)⟩ ⟨(Nat.le_of_ble_eq_true rfl), (Nat.le_of_ble_eq_true rfl)⟩ (Nat.le_of_ble_eq_true rfl) rfl dX12_number_19 (fun S134 H locs hp134 hQ _ => ?_)
      obtain ⟨hI, o134, g134_0, g134_1, g134_2, g134_3⟩ := hp134
      obtain ⟨v135, v136, v138, v140, v142, v143, w144, v145, v147, v148, v149, v150, v152, v154, v156, v158, v160, v161, v162, c163, b137, b139, b141, b146, b151, b153, b155, b157, b159⟩ := invM_0 hI
      have c163 : S134 0 = .inr (12, [.int v135, .ref (ad 1), .ref (ad 2), .ref (ad 3), .ref (ad 4), .ref (ad 5), .int v136, .int v138, .int v140, .int v142, .int v143, .long w144, .int v145, .int v147, .int v148, .int v149, .ref (ad 6), .ref (ad 7), .ref (ad 8), .ref (ad 9), .ref (ad 10), .ref (ad 11), .ref (ad 12), .ref (ad 13), .ref (ad 14), .ref (ad 15), .int v150, .int v152, .ref (ad 16), .int v154, .int v156, .int v158, .int v160, .int v161, .ref (ad 17), .ref (ad 18), .int v162, .ref (ad 19)]) := c163
      have q164 : fld (S134 0) 12 = v145.toInt := fld_of c163 rfl
      have b165 : Bd v145 (1) (3) := ⟨by omega, (b146).2⟩
      have q166 : fld (S134 0) 6 = v136.toInt := fld_of c163 rfl
      have q167 : fld (S134 0) 7 = v138.toInt := fld_of c163 rfl
      have q168 : fld (S 0) 8 = v6.toInt := fld_of c29 rfl
      have q169 : fld (S134 0) 8 = v140.toInt := fld_of c163 rfl
      refine lv_iload_n hx hb dX12_number_22 rfl (lv_at hl 1 rfl) ?_
      exact xri E hr hlk hQ (⟨hI, (o_trans o_refl o134 (by decide)), (ib_wk ba1 (by decide) (by decide)), (by omega), ⟨by omega, by omega⟩, (by omega)⟩) dX12_number_23
  · have h170 := ib_ne k32
    have b171 : Bd v11 (1) (3) := rf_nlo b12 (by decide : Bd 0 (0) (0)) h170
    refine lv_iload_n hx hb dX12_number_7 rfl (lv_at hl 1 rfl) ?_
    have q172 : fld (S 0) 8 = v6.toInt := fld_of c29 rfl
    exact xri E hr hlk hQ (⟨hI, o_refl, (ib_wk ba1 (by decide) (by decide)), (by omega), ⟨by omega, by omega⟩, (by omega)⟩) dX12_number_8
set_option maxHeartbeats 4000000 in
set_option maxRecDepth 100000 in
theorem gX12_number_8 (l : Launch) (g : GG) (ad : Nat → Nat) (hD : Dj ad 20) (S : SS) (hI : InvM g ad S) (a1 : Int32) (a2 : Int32) (ba1 : Bd a1 (0) (0)) (ba2 : Bd a2 (-1) (11)) (hq1 : 0 ≤ fld (S 0) 6 + (-1) * fld (S 0) 7) : Met l yX12_number (wG (.code yX12_number cX12_number 4 (some .int))) (Rm 2) (XPre g ad 20 S [.ref (ad 0), .int a1, .int a2]) (va_Qi (fun r S' => InvM g ad S' ∧ (∀ j, j ∉ ([0] : List Nat) → S' j = S j) ∧ Bd r (0) (11) ∧ (0 ≤ fld (S' 0) 6 + (-1) * fld (S' 0) 7) ∧ (0 ≤ fld (S 0) 6 + (-1) * fld (S' 0) 6 ∧ 0 ≤ fld (S' 0) 6 + (-1) * fld (S 0) 6) ∧ (0 ≤ 4 * fld (S 0) 6 + (-4) * fld (S 0) 7 + fld (S 0) 8 + (-4) * fld (S' 0) 6 + 4 * fld (S' 0) 7 + (-1) * fld (S' 0) 8)) (QB g ad 20) (FA ad 20)) 0 0 (FA ad 20) := by
  refine xmet cX12_number "EbbWreckModel" (by decide) rfl (Nat.le_of_ble_eq_true rfl) (fun p e s m below meth c E hr hlk hml hQ ls hl => ?_)
  have hx := E.1
  have hb := E.2.1
  have hs : Sp ad 20 (FA ad 20) := Sp.fa hD
  have hl : lv_has ls 4 [(0, .ref (ad 0)), (1, .int a1), (2, .int a2)] := hl
  obtain ⟨v1, v2, v4, v6, v8, v9, w10, v11, v13, v14, v15, v16, v18, v20, v22, v24, v26, v27, v28, c29, b3, b5, b7, b12, b17, b19, b21, b23, b25⟩ := invM_0 hI
  have c29 : S 0 = .inr (12, [.int v1, .ref (ad 1), .ref (ad 2), .ref (ad 3), .ref (ad 4), .ref (ad 5), .int v2, .int v4, .int v6, .int v8, .int v9, .long w10, .int v11, .int v13, .int v14, .int v15, .ref (ad 6), .ref (ad 7), .ref (ad 8), .ref (ad 9), .ref (ad 10), .ref (ad 11), .ref (ad 12), .ref (ad 13), .ref (ad 14), .ref (ad 15), .int v16, .int v18, .ref (ad 16), .int v20, .int v22, .int v24, .int v26, .int v27, .ref (ad 17), .ref (ad 18), .int v28, .ref (ad 19)]) := c29
  have q30 : fld (S 0) 6 = v2.toInt := fld_of c29 rfl
  have q31 : fld (S 0) 7 = v4.toInt := fld_of c29 rfl
  refine lv_aload_n hx hb dX12_number_0 rfl (lv_at hl 0 rfl) ?_
  refine xget E hQ 0 (by decide) c29 rfl 12 (by decide) q1480 rfl dX12_number_1 ?_
  refine lv_if_eq (tgt := 9) hx hb dX12_number_4 (by decide) (fun k32 => ?_) (fun k32 => ?_)
  · have h33 := ib_eq k32
    have b34 : Bd v11 (0) (0) := ⟨(b12).1, ((rf_eq b12 (by decide : Bd 0 (0) (0)) h33).1).2⟩
    refine lv_aload_n hx hb dX12_number_9 rfl (lv_at hl 0 rfl) ?_
    refine xget E hQ 0 (by decide) c29 rfl 8 (by decide) q1476 rfl dX12_number_10 ?_
    refine lv_iconst (v := 2) hx hb dX12_number_13 (by decide) ?_
    refine lv_icmp_eq (tgt := 24) hx hb dX12_number_14 (by decide) (fun k35 => ?_) (fun k35 => ?_)
    · have h36 := ib_eq k35
      have b37 : Bd v6 (2) (2) := ⟨((rf_eq b7 (by decide : Bd 2 (2) (2)) h36).1).1, ((rf_eq b7 (by decide : Bd 2 (2) (2)) h36).1).2⟩
      refine lv_aload_n hx hb dX12_number_24 rfl (lv_at hl 0 rfl) ?_
      refine xget E hQ 0 (by decide) c29 rfl 10 (by decide) q1478 rfl dX12_number_25 ?_
      refine lv_i2l hx hb dX12_number_28 rfl ?_
      refine lv_topl (fun w38 e39 => ?_)
      have t40 : w38.toInt = v9.toInt := by rw [e39]; exact i2l_i _
      have b41 : BdL w38 (-2147483648) (2147483647) := (by have h1 := ((ib_full v9)).1; have h2 := ((ib_full v9)).2; exact ⟨by omega, by omega⟩)
      refine lv_iload_n hx hb dX12_number_29 rfl (lv_at hl 1 rfl) ?_
      refine lv_i2l hx hb dX12_number_30 rfl ?_
      refine lv_topl (fun w42 e43 => ?_)
      have t44 : w42.toInt = a1.toInt := by rw [e43]; exact i2l_i _
      have b45 : BdL w42 (0) (0) := (by have h1 := (ba1).1; have h2 := (ba1).2; exact ⟨by omega, by omega⟩)
      refine lv_iload_n hx hb dX12_number_31 rfl (lv_at hl 2 rfl) ?_
      refine lv_i2l hx hb dX12_number_32 rfl ?_
      refine lv_topl (fun w46 e47 => ?_)
      have t48 : w46.toInt = a2.toInt := by rw [e47]; exact i2l_i _
      have b49 : BdL w46 (-1) (11) := (by have h1 := (ba2).1; have h2 := (ba2).2; exact ⟨by omega, by omega⟩)
      refine xcSi E hs hQ hml hl.1 (gX12_in l g ad hD S hI w38 w42 w46) mX12_in q1591 rfl ⟨(Nat.le_of_ble_eq_true rfl), (Nat.le_of_ble_eq_true rfl)⟩ ⟨(Nat.le_of_ble_eq_true rfl), (Nat.le_of_ble_eq_true rfl)⟩ (Nat.le_of_ble_eq_true rfl) rfl dX12_number_33 (fun r50 S50 H locs hp50 hQ => ?_)
      obtain ⟨rfl, b50, g50_0, u50_0⟩ := hp50
      refine lv_if_ne (tgt := 46) hx hb dX12_number_36 (by decide) (fun k51 => ?_) (fun k51 => ?_)
      · have h52 := ib_ne k51
        have b53 : Bd r50 (1) (1) := rf_nlo b50 (by decide : Bd 0 (0) (0)) h52
        have g54 := g50_0.resolve_left (by omega)
        clear g50_0
        have b55 : BdL w38 (0) (11) := ⟨by omega, by omega⟩
        have b56 : BdL w46 (0) (11) := ⟨by omega, (b49).2⟩
        have b57 : Bd v9 (0) (11) := ⟨by omega, by omega⟩
        have b58 : Bd a2 (0) (11) := ⟨by omega, (ba2).2⟩
        refine lv_aload_n hx hb dX12_number_46 rfl (lv_at hl 0 rfl) ?_
        refine xget E hQ 0 (by decide) c29 rfl 10 (by decide) q1478 rfl dX12_number_47 ?_
        refine lv_istore_n (lv' := [(3, .int v9), (0, .ref (ad 0)), (1, .int a1), (2, .int a2)]) hx hb dX12_number_50 rfl hl (by decide) rfl (fun ls hl => ?_)
        refine lv_aload_n hx hb dX12_number_51 rfl (lv_at hl 1 rfl) ?_
        refine xcVv E hs hQ hml hl.1 0 (gX12_next_0 l g ad hD S hI (by omega)) mX12_next q1637 (by decide) c29 rfl rfl ⟨(Nat.le_of_ble_eq_true rfl), (Nat.le_of_ble_eq_true rfl)⟩ ⟨(Nat.le_of_ble_eq_true rfl), (Nat.le_of_ble_eq_true rfl)⟩ (Nat.le_of_ble_eq_true rfl) rfl dX12_number_52 (fun S59 H locs hp59 hQ _ => ?_)
        obtain ⟨hI, o59, g59_0, g59_1, g59_2, g59_3, g59_4⟩ := hp59
        obtain ⟨v60, v61, v63, v65, v67, v68, w69, v70, v72, v73, v74, v75, v77, v79, v81, v83, v85, v86, v87, c88, b62, b64, b66, b71, b76, b78, b80, b82, b84⟩ := invM_0 hI
        have c88 : S59 0 = .inr (12, [.int v60, .ref (ad 1), .ref (ad 2), .ref (ad 3), .ref (ad 4), .ref (ad 5), .int v61, .int v63, .int v65, .int v67, .int v68, .long w69, .int v70, .int v72, .int v73, .int v74, .ref (ad 6), .ref (ad 7), .ref (ad 8), .ref (ad 9), .ref (ad 10), .ref (ad 11), .ref (ad 12), .ref (ad 13), .ref (ad 14), .ref (ad 15), .int v75, .int v77, .ref (ad 16), .int v79, .int v81, .int v83, .int v85, .int v86, .ref (ad 17), .ref (ad 18), .int v87, .ref (ad 19)]) := c88
        have q89 : fld (S59 0) 6 = v61.toInt := fld_of c88 rfl
        have q90 : fld (S59 0) 7 = v63.toInt := fld_of c88 rfl
        have q91 : fld (S 0) 12 = v11.toInt := fld_of c29 rfl
        have q92 : fld (S59 0) 12 = v70.toInt := fld_of c88 rfl
        have b93 : Bd v70 (0) (0) := ⟨(b71).1, by omega⟩
        have q94 : fld (S59 0) 8 = v65.toInt := fld_of c88 rfl
        refine lv_iload_n hx hb dX12_number_55 rfl (lv_at hl 0 rfl) ?_
        have q95 : fld (S 0) 8 = v6.toInt := fld_of c29 rfl
        exact xri E hr hlk hQ (⟨hI, (o_trans o_refl o59 (by decide)), b57, (by omega), ⟨by omega, by omega⟩, (by omega)⟩) dX12_number_56
      · have h96 := ib_eq k51
        have b97 : Bd r50 (0) (0) := ⟨(b50).1, ((rf_eq b50 (by decide : Bd 0 (0) (0)) h96).1).2⟩
        clear g50_0
        refine lv_aload_n hx hb dX12_number_39 rfl (lv_at hl 0 rfl) ?_
        refine lv_iconst (v := 2) hx hb dX12_number_40 (by decide) ?_
        refine xcVv E hs hQ hml hl.1 0 (gX12_fails_0 l g ad hD S hI 2 (ib_wk (by decide : Bd 2 (2) (2)) (by decide) (by decide))) mX12_fails q1667 (by decide) c29 rfl rfl ⟨(Nat.le_of_ble_eq_true rfl), (Nat.le_of_ble_eq_true rfl)⟩ ⟨(Nat.le_of_ble_eq_true rfl), (Nat.le_of_ble_eq_true rfl)⟩ (Nat.le_of_ble_eq_true rfl) rfl dX12_number_41 (fun S98 H locs hp98 hQ _ => ?_)
        obtain ⟨hI, o98, g98_0, g98_1, g98_2, g98_3⟩ := hp98
        obtain ⟨v99, v100, v102, v104, v106, v107, w108, v109, v111, v112, v113, v114, v116, v118, v120, v122, v124, v125, v126, c127, b101, b103, b105, b110, b115, b117, b119, b121, b123⟩ := invM_0 hI
        have c127 : S98 0 = .inr (12, [.int v99, .ref (ad 1), .ref (ad 2), .ref (ad 3), .ref (ad 4), .ref (ad 5), .int v100, .int v102, .int v104, .int v106, .int v107, .long w108, .int v109, .int v111, .int v112, .int v113, .ref (ad 6), .ref (ad 7), .ref (ad 8), .ref (ad 9), .ref (ad 10), .ref (ad 11), .ref (ad 12), .ref (ad 13), .ref (ad 14), .ref (ad 15), .int v114, .int v116, .ref (ad 16), .int v118, .int v120, .int v122, .int v124, .int v125, .ref (ad 17), .ref (ad 18), .int v126, .ref (ad 19)]) := c127
        have q128 : fld (S98 0) 12 = v109.toInt := fld_of c127 rfl
        have b129 : Bd v109 (1) (3) := ⟨by omega, (b110).2⟩
        have q130 : fld (S98 0) 6 = v100.toInt := fld_of c127 rfl
        have q131 : fld (S98 0) 7 = v102.toInt := fld_of c127 rfl
        have q132 : fld (S 0) 8 = v6.toInt := fld_of c29 rfl
        have q133 : fld (S98 0) 8 = v104.toInt := fld_of c127 rfl
        have b134 : Bd v104 (2) (2) := ⟨by omega, by omega⟩
        refine lv_iload_n hx hb dX12_number_44 rfl (lv_at hl 1 rfl) ?_
        exact xri E hr hlk hQ (⟨hI, (o_trans o_refl o98 (by decide)), (ib_wk ba1 (by decide) (by decide)), (by omega), ⟨by omega, by omega⟩, (by omega)⟩) dX12_number_45
    · have h135 := ib_ne k35
      refine lv_aload_n hx hb dX12_number_17 rfl (lv_at hl 0 rfl) ?_
      refine lv_iconst (v := 1) hx hb dX12_number_18 (by decide) ?_
      refine xcVv E hs hQ hml hl.1 0 (gX12_fails_0 l g ad hD S hI 1 (ib_wk (by decide : Bd 1 (1) (1)) (by decide) (by decide))) mX12_fails q1667 (by decide) c29 rfl rfl ⟨(Nat.le_of_ble_eq_true rfl), (Nat.le_of_ble_eq_true rfl)⟩ ⟨(Nat.le_of_ble_eq_true rfl), (Nat.le_of_ble_eq_true rfl)⟩ (Nat.le_of_ble_eq_true rfl) rfl dX12_number_19 (fun S136 H locs hp136 hQ _ => ?_)
      obtain ⟨hI, o136, g136_0, g136_1, g136_2, g136_3⟩ := hp136
      obtain ⟨v137, v138, v140, v142, v144, v145, w146, v147, v149, v150, v151, v152, v154, v156, v158, v160, v162, v163, v164, c165, b139, b141, b143, b148, b153, b155, b157, b159, b161⟩ := invM_0 hI
      have c165 : S136 0 = .inr (12, [.int v137, .ref (ad 1), .ref (ad 2), .ref (ad 3), .ref (ad 4), .ref (ad 5), .int v138, .int v140, .int v142, .int v144, .int v145, .long w146, .int v147, .int v149, .int v150, .int v151, .ref (ad 6), .ref (ad 7), .ref (ad 8), .ref (ad 9), .ref (ad 10), .ref (ad 11), .ref (ad 12), .ref (ad 13), .ref (ad 14), .ref (ad 15), .int v152, .int v154, .ref (ad 16), .int v156, .int v158, .int v160, .int v162, .int v163, .ref (ad 17), .ref (ad 18), .int v164, .ref (ad 19)]) := c165
      have q166 : fld (S136 0) 12 = v147.toInt := fld_of c165 rfl
      have b167 : Bd v147 (1) (3) := ⟨by omega, (b148).2⟩
      have q168 : fld (S136 0) 6 = v138.toInt := fld_of c165 rfl
      have q169 : fld (S136 0) 7 = v140.toInt := fld_of c165 rfl
      have q170 : fld (S 0) 8 = v6.toInt := fld_of c29 rfl
      have q171 : fld (S136 0) 8 = v142.toInt := fld_of c165 rfl
      refine lv_iload_n hx hb dX12_number_22 rfl (lv_at hl 1 rfl) ?_
      exact xri E hr hlk hQ (⟨hI, (o_trans o_refl o136 (by decide)), (ib_wk ba1 (by decide) (by decide)), (by omega), ⟨by omega, by omega⟩, (by omega)⟩) dX12_number_23
  · have h172 := ib_ne k32
    have b173 : Bd v11 (1) (3) := rf_nlo b12 (by decide : Bd 0 (0) (0)) h172
    refine lv_iload_n hx hb dX12_number_7 rfl (lv_at hl 1 rfl) ?_
    have q174 : fld (S 0) 8 = v6.toInt := fld_of c29 rfl
    exact xri E hr hlk hQ (⟨hI, o_refl, (ib_wk ba1 (by decide) (by decide)), (by omega), ⟨by omega, by omega⟩, (by omega)⟩) dX12_number_8
set_option maxHeartbeats 4000000 in
set_option maxRecDepth 100000 in
theorem gX12_number_9 (l : Launch) (g : GG) (ad : Nat → Nat) (hD : Dj ad 20) (S : SS) (hI : InvM g ad S) (a1 : Int32) (a2 : Int32) (ba2 : Bd a2 (-1) (11)) (hq1 : 0 ≤ fld (S 0) 6 + (-1) * fld (S 0) 7) : Met l yX12_number (wG (.code yX12_number cX12_number 4 (some .int))) (Rm 2) (XPre g ad 20 S [.ref (ad 0), .int a1, .int a2]) (va_Qi (fun _ S' => InvM g ad S' ∧ (∀ j, j ∉ ([0] : List Nat) → S' j = S j) ∧ (0 ≤ fld (S' 0) 6 + (-1) * fld (S' 0) 7) ∧ (0 ≤ fld (S 0) 6 + (-1) * fld (S' 0) 6 ∧ 0 ≤ fld (S' 0) 6 + (-1) * fld (S 0) 6) ∧ (0 ≤ 4 * fld (S 0) 6 + (-4) * fld (S 0) 7 + fld (S 0) 8 + (-4) * fld (S' 0) 6 + 4 * fld (S' 0) 7 + (-1) * fld (S' 0) 8)) (QB g ad 20) (FA ad 20)) 0 0 (FA ad 20) := by
  refine xmet cX12_number "EbbWreckModel" (by decide) rfl (Nat.le_of_ble_eq_true rfl) (fun p e s m below meth c E hr hlk hml hQ ls hl => ?_)
  have hx := E.1
  have hb := E.2.1
  have hs : Sp ad 20 (FA ad 20) := Sp.fa hD
  have hl : lv_has ls 4 [(0, .ref (ad 0)), (1, .int a1), (2, .int a2)] := hl
  obtain ⟨v1, v2, v4, v6, v8, v9, w10, v11, v13, v14, v15, v16, v18, v20, v22, v24, v26, v27, v28, c29, b3, b5, b7, b12, b17, b19, b21, b23, b25⟩ := invM_0 hI
  have c29 : S 0 = .inr (12, [.int v1, .ref (ad 1), .ref (ad 2), .ref (ad 3), .ref (ad 4), .ref (ad 5), .int v2, .int v4, .int v6, .int v8, .int v9, .long w10, .int v11, .int v13, .int v14, .int v15, .ref (ad 6), .ref (ad 7), .ref (ad 8), .ref (ad 9), .ref (ad 10), .ref (ad 11), .ref (ad 12), .ref (ad 13), .ref (ad 14), .ref (ad 15), .int v16, .int v18, .ref (ad 16), .int v20, .int v22, .int v24, .int v26, .int v27, .ref (ad 17), .ref (ad 18), .int v28, .ref (ad 19)]) := c29
  have q30 : fld (S 0) 6 = v2.toInt := fld_of c29 rfl
  have q31 : fld (S 0) 7 = v4.toInt := fld_of c29 rfl
  refine lv_aload_n hx hb dX12_number_0 rfl (lv_at hl 0 rfl) ?_
  refine xget E hQ 0 (by decide) c29 rfl 12 (by decide) q1480 rfl dX12_number_1 ?_
  refine lv_if_eq (tgt := 9) hx hb dX12_number_4 (by decide) (fun k32 => ?_) (fun k32 => ?_)
  · have h33 := ib_eq k32
    have b34 : Bd v11 (0) (0) := ⟨(b12).1, ((rf_eq b12 (by decide : Bd 0 (0) (0)) h33).1).2⟩
    refine lv_aload_n hx hb dX12_number_9 rfl (lv_at hl 0 rfl) ?_
    refine xget E hQ 0 (by decide) c29 rfl 8 (by decide) q1476 rfl dX12_number_10 ?_
    refine lv_iconst (v := 2) hx hb dX12_number_13 (by decide) ?_
    refine lv_icmp_eq (tgt := 24) hx hb dX12_number_14 (by decide) (fun k35 => ?_) (fun k35 => ?_)
    · have h36 := ib_eq k35
      have b37 : Bd v6 (2) (2) := ⟨((rf_eq b7 (by decide : Bd 2 (2) (2)) h36).1).1, ((rf_eq b7 (by decide : Bd 2 (2) (2)) h36).1).2⟩
      refine lv_aload_n hx hb dX12_number_24 rfl (lv_at hl 0 rfl) ?_
      refine xget E hQ 0 (by decide) c29 rfl 10 (by decide) q1478 rfl dX12_number_25 ?_
      refine lv_i2l hx hb dX12_number_28 rfl ?_
      refine lv_topl (fun w38 e39 => ?_)
      have t40 : w38.toInt = v9.toInt := by rw [e39]; exact i2l_i _
      have b41 : BdL w38 (-2147483648) (2147483647) := (by have h1 := ((ib_full v9)).1; have h2 := ((ib_full v9)).2; exact ⟨by omega, by omega⟩)
      refine lv_iload_n hx hb dX12_number_29 rfl (lv_at hl 1 rfl) ?_
      refine lv_i2l hx hb dX12_number_30 rfl ?_
      refine lv_topl (fun w42 e43 => ?_)
      have t44 : w42.toInt = a1.toInt := by rw [e43]; exact i2l_i _
      have b45 : BdL w42 (-2147483648) (2147483647) := (by have h1 := ((ib_full a1)).1; have h2 := ((ib_full a1)).2; exact ⟨by omega, by omega⟩)
      refine lv_iload_n hx hb dX12_number_31 rfl (lv_at hl 2 rfl) ?_
      refine lv_i2l hx hb dX12_number_32 rfl ?_
      refine lv_topl (fun w46 e47 => ?_)
      have t48 : w46.toInt = a2.toInt := by rw [e47]; exact i2l_i _
      have b49 : BdL w46 (-1) (11) := (by have h1 := (ba2).1; have h2 := (ba2).2; exact ⟨by omega, by omega⟩)
      refine xcSi E hs hQ hml hl.1 (gX12_in l g ad hD S hI w38 w42 w46) mX12_in q1591 rfl ⟨(Nat.le_of_ble_eq_true rfl), (Nat.le_of_ble_eq_true rfl)⟩ ⟨(Nat.le_of_ble_eq_true rfl), (Nat.le_of_ble_eq_true rfl)⟩ (Nat.le_of_ble_eq_true rfl) rfl dX12_number_33 (fun r50 S50 H locs hp50 hQ => ?_)
      obtain ⟨rfl, b50, g50_0, u50_0⟩ := hp50
      refine lv_if_ne (tgt := 46) hx hb dX12_number_36 (by decide) (fun k51 => ?_) (fun k51 => ?_)
      · have h52 := ib_ne k51
        have b53 : Bd r50 (1) (1) := rf_nlo b50 (by decide : Bd 0 (0) (0)) h52
        have g54 := g50_0.resolve_left (by omega)
        clear g50_0
        have b55 : BdL w38 (-2147483648) (11) := ⟨(b41).1, by omega⟩
        have b56 : BdL w42 (-2147483648) (11) := ⟨(b45).1, by omega⟩
        have b57 : Bd v9 (-2147483648) (11) := ⟨((ib_full v9)).1, by omega⟩
        have b58 : Bd a1 (-2147483648) (11) := ⟨((ib_full a1)).1, by omega⟩
        refine lv_aload_n hx hb dX12_number_46 rfl (lv_at hl 0 rfl) ?_
        refine xget E hQ 0 (by decide) c29 rfl 10 (by decide) q1478 rfl dX12_number_47 ?_
        refine lv_istore_n (lv' := [(3, .int v9), (0, .ref (ad 0)), (1, .int a1), (2, .int a2)]) hx hb dX12_number_50 rfl hl (by decide) rfl (fun ls hl => ?_)
        refine lv_aload_n hx hb dX12_number_51 rfl (lv_at hl 1 rfl) ?_
        refine xcVv E hs hQ hml hl.1 0 (gX12_next_0 l g ad hD S hI (by omega)) mX12_next q1637 (by decide) c29 rfl rfl ⟨(Nat.le_of_ble_eq_true rfl), (Nat.le_of_ble_eq_true rfl)⟩ ⟨(Nat.le_of_ble_eq_true rfl), (Nat.le_of_ble_eq_true rfl)⟩ (Nat.le_of_ble_eq_true rfl) rfl dX12_number_52 (fun S59 H locs hp59 hQ _ => ?_)
        obtain ⟨hI, o59, g59_0, g59_1, g59_2, g59_3, g59_4⟩ := hp59
        obtain ⟨v60, v61, v63, v65, v67, v68, w69, v70, v72, v73, v74, v75, v77, v79, v81, v83, v85, v86, v87, c88, b62, b64, b66, b71, b76, b78, b80, b82, b84⟩ := invM_0 hI
        have c88 : S59 0 = .inr (12, [.int v60, .ref (ad 1), .ref (ad 2), .ref (ad 3), .ref (ad 4), .ref (ad 5), .int v61, .int v63, .int v65, .int v67, .int v68, .long w69, .int v70, .int v72, .int v73, .int v74, .ref (ad 6), .ref (ad 7), .ref (ad 8), .ref (ad 9), .ref (ad 10), .ref (ad 11), .ref (ad 12), .ref (ad 13), .ref (ad 14), .ref (ad 15), .int v75, .int v77, .ref (ad 16), .int v79, .int v81, .int v83, .int v85, .int v86, .ref (ad 17), .ref (ad 18), .int v87, .ref (ad 19)]) := c88
        have q89 : fld (S59 0) 6 = v61.toInt := fld_of c88 rfl
        have q90 : fld (S59 0) 7 = v63.toInt := fld_of c88 rfl
        have q91 : fld (S 0) 12 = v11.toInt := fld_of c29 rfl
        have q92 : fld (S59 0) 12 = v70.toInt := fld_of c88 rfl
        have b93 : Bd v70 (0) (0) := ⟨(b71).1, by omega⟩
        have q94 : fld (S59 0) 8 = v65.toInt := fld_of c88 rfl
        refine lv_iload_n hx hb dX12_number_55 rfl (lv_at hl 0 rfl) ?_
        have q95 : fld (S 0) 8 = v6.toInt := fld_of c29 rfl
        exact xri E hr hlk hQ (⟨hI, (o_trans o_refl o59 (by decide)), (by omega), ⟨by omega, by omega⟩, (by omega)⟩) dX12_number_56
      · have h96 := ib_eq k51
        have b97 : Bd r50 (0) (0) := ⟨(b50).1, ((rf_eq b50 (by decide : Bd 0 (0) (0)) h96).1).2⟩
        clear g50_0
        refine lv_aload_n hx hb dX12_number_39 rfl (lv_at hl 0 rfl) ?_
        refine lv_iconst (v := 2) hx hb dX12_number_40 (by decide) ?_
        refine xcVv E hs hQ hml hl.1 0 (gX12_fails_0 l g ad hD S hI 2 (ib_wk (by decide : Bd 2 (2) (2)) (by decide) (by decide))) mX12_fails q1667 (by decide) c29 rfl rfl ⟨(Nat.le_of_ble_eq_true rfl), (Nat.le_of_ble_eq_true rfl)⟩ ⟨(Nat.le_of_ble_eq_true rfl), (Nat.le_of_ble_eq_true rfl)⟩ (Nat.le_of_ble_eq_true rfl) rfl dX12_number_41 (fun S98 H locs hp98 hQ _ => ?_)
        obtain ⟨hI, o98, g98_0, g98_1, g98_2, g98_3⟩ := hp98
        obtain ⟨v99, v100, v102, v104, v106, v107, w108, v109, v111, v112, v113, v114, v116, v118, v120, v122, v124, v125, v126, c127, b101, b103, b105, b110, b115, b117, b119, b121, b123⟩ := invM_0 hI
        have c127 : S98 0 = .inr (12, [.int v99, .ref (ad 1), .ref (ad 2), .ref (ad 3), .ref (ad 4), .ref (ad 5), .int v100, .int v102, .int v104, .int v106, .int v107, .long w108, .int v109, .int v111, .int v112, .int v113, .ref (ad 6), .ref (ad 7), .ref (ad 8), .ref (ad 9), .ref (ad 10), .ref (ad 11), .ref (ad 12), .ref (ad 13), .ref (ad 14), .ref (ad 15), .int v114, .int v116, .ref (ad 16), .int v118, .int v120, .int v122, .int v124, .int v125, .ref (ad 17), .ref (ad 18), .int v126, .ref (ad 19)]) := c127
        have q128 : fld (S98 0) 12 = v109.toInt := fld_of c127 rfl
        have b129 : Bd v109 (1) (3) := ⟨by omega, (b110).2⟩
        have q130 : fld (S98 0) 6 = v100.toInt := fld_of c127 rfl
        have q131 : fld (S98 0) 7 = v102.toInt := fld_of c127 rfl
        have q132 : fld (S 0) 8 = v6.toInt := fld_of c29 rfl
        have q133 : fld (S98 0) 8 = v104.toInt := fld_of c127 rfl
        have b134 : Bd v104 (2) (2) := ⟨by omega, by omega⟩
        refine lv_iload_n hx hb dX12_number_44 rfl (lv_at hl 1 rfl) ?_
        exact xri E hr hlk hQ (⟨hI, (o_trans o_refl o98 (by decide)), (by omega), ⟨by omega, by omega⟩, (by omega)⟩) dX12_number_45
    · have h135 := ib_ne k35
      refine lv_aload_n hx hb dX12_number_17 rfl (lv_at hl 0 rfl) ?_
      refine lv_iconst (v := 1) hx hb dX12_number_18 (by decide) ?_
      refine xcVv E hs hQ hml hl.1 0 (gX12_fails_0 l g ad hD S hI 1 (ib_wk (by decide : Bd 1 (1) (1)) (by decide) (by decide))) mX12_fails q1667 (by decide) c29 rfl rfl ⟨(Nat.le_of_ble_eq_true rfl), (Nat.le_of_ble_eq_true rfl)⟩ ⟨(Nat.le_of_ble_eq_true rfl), (Nat.le_of_ble_eq_true rfl)⟩ (Nat.le_of_ble_eq_true rfl) rfl dX12_number_19 (fun S136 H locs hp136 hQ _ => ?_)
      obtain ⟨hI, o136, g136_0, g136_1, g136_2, g136_3⟩ := hp136
      obtain ⟨v137, v138, v140, v142, v144, v145, w146, v147, v149, v150, v151, v152, v154, v156, v158, v160, v162, v163, v164, c165, b139, b141, b143, b148, b153, b155, b157, b159, b161⟩ := invM_0 hI
      have c165 : S136 0 = .inr (12, [.int v137, .ref (ad 1), .ref (ad 2), .ref (ad 3), .ref (ad 4), .ref (ad 5), .int v138, .int v140, .int v142, .int v144, .int v145, .long w146, .int v147, .int v149, .int v150, .int v151, .ref (ad 6), .ref (ad 7), .ref (ad 8), .ref (ad 9), .ref (ad 10), .ref (ad 11), .ref (ad 12), .ref (ad 13), .ref (ad 14), .ref (ad 15), .int v152, .int v154, .ref (ad 16), .int v156, .int v158, .int v160, .int v162, .int v163, .ref (ad 17), .ref (ad 18), .int v164, .ref (ad 19)]) := c165
      have q166 : fld (S136 0) 12 = v147.toInt := fld_of c165 rfl
      have b167 : Bd v147 (1) (3) := ⟨by omega, (b148).2⟩
      have q168 : fld (S136 0) 6 = v138.toInt := fld_of c165 rfl
      have q169 : fld (S136 0) 7 = v140.toInt := fld_of c165 rfl
      have q170 : fld (S 0) 8 = v6.toInt := fld_of c29 rfl
      have q171 : fld (S136 0) 8 = v142.toInt := fld_of c165 rfl
      refine lv_iload_n hx hb dX12_number_22 rfl (lv_at hl 1 rfl) ?_
      exact xri E hr hlk hQ (⟨hI, (o_trans o_refl o136 (by decide)), (by omega), ⟨by omega, by omega⟩, (by omega)⟩) dX12_number_23
  · have h172 := ib_ne k32
    have b173 : Bd v11 (1) (3) := rf_nlo b12 (by decide : Bd 0 (0) (0)) h172
    refine lv_iload_n hx hb dX12_number_7 rfl (lv_at hl 1 rfl) ?_
    have q174 : fld (S 0) 8 = v6.toInt := fld_of c29 rfl
    exact xri E hr hlk hQ (⟨hI, o_refl, (by omega), ⟨by omega, by omega⟩, (by omega)⟩) dX12_number_8
set_option maxHeartbeats 4000000 in
set_option maxRecDepth 100000 in
theorem gX12_numberw_0 (l : Launch) (g : GG) (ad : Nat → Nat) (hD : Dj ad 20) (S : SS) (hI : InvM g ad S) (wa1 : Int64) (a2 : Int32) (a3 : Int32) (ba2 : Bd a2 (3) (3)) (ba3 : Bd a3 (12) (12)) (hq1 : 0 ≤ fld (S 0) 6 + (-1) * fld (S 0) 7) : Met l yX12_number_ (wG (.code yX12_number_ cX12_number_ 5 (some .int))) (Rm 4) (XPre g ad 20 S [.ref (ad 0), .long wa1, .int a2, .int a3]) (va_Qi (fun r S' => InvM g ad S' ∧ (∀ j, j ∉ ([0] : List Nat) → S' j = S j) ∧ Bd r (3) (12) ∧ (0 ≤ fld (S' 0) 6 + (-1) * fld (S' 0) 7) ∧ (0 ≤ fld (S 0) 6 + (-1) * fld (S' 0) 6 ∧ 0 ≤ fld (S' 0) 6 + (-1) * fld (S 0) 6) ∧ (0 ≤ 4 * fld (S 0) 6 + (-4) * fld (S 0) 7 + fld (S 0) 8 + (-4) * fld (S' 0) 6 + 4 * fld (S' 0) 7 + (-1) * fld (S' 0) 8)) (QB g ad 20) (FA ad 20)) 0 0 (FA ad 20) := by
  refine xmet cX12_number_ "EbbWreckModel" (by decide) rfl (Nat.le_of_ble_eq_true rfl) (fun p e s m below meth c E hr hlk hml hQ ls hl => ?_)
  have hx := E.1
  have hb := E.2.1
  have hs : Sp ad 20 (FA ad 20) := Sp.fa hD
  have hl : lv_has ls 5 [(0, .ref (ad 0)), (1, .long wa1), (3, .int a2), (4, .int a3)] := hl
  obtain ⟨v1, v2, v4, v6, v8, v9, w10, v11, v13, v14, v15, v16, v18, v20, v22, v24, v26, v27, v28, c29, b3, b5, b7, b12, b17, b19, b21, b23, b25⟩ := invM_0 hI
  have c29 : S 0 = .inr (12, [.int v1, .ref (ad 1), .ref (ad 2), .ref (ad 3), .ref (ad 4), .ref (ad 5), .int v2, .int v4, .int v6, .int v8, .int v9, .long w10, .int v11, .int v13, .int v14, .int v15, .ref (ad 6), .ref (ad 7), .ref (ad 8), .ref (ad 9), .ref (ad 10), .ref (ad 11), .ref (ad 12), .ref (ad 13), .ref (ad 14), .ref (ad 15), .int v16, .int v18, .ref (ad 16), .int v20, .int v22, .int v24, .int v26, .int v27, .ref (ad 17), .ref (ad 18), .int v28, .ref (ad 19)]) := c29
  have q30 : fld (S 0) 6 = v2.toInt := fld_of c29 rfl
  have q31 : fld (S 0) 7 = v4.toInt := fld_of c29 rfl
  refine lv_aload_n hx hb dX12_number__0 rfl (lv_at hl 0 rfl) ?_
  refine lv_lload_n hx hb dX12_number__1 rfl (lv_at hl 1 rfl) ?_
  refine xcVv E hs hQ hml hl.1 0 (gX12_asks_0 l g ad hD S hI wa1 (by omega)) mX12_asks q1655 (by decide) c29 rfl rfl ⟨(Nat.le_of_ble_eq_true rfl), (Nat.le_of_ble_eq_true rfl)⟩ ⟨(Nat.le_of_ble_eq_true rfl), (Nat.le_of_ble_eq_true rfl)⟩ (Nat.le_of_ble_eq_true rfl) rfl dX12_number__2 (fun S32 H locs hp32 hQ _ => ?_)
  obtain ⟨hI, o32, g32_0, g32_1, g32_2⟩ := hp32
  obtain ⟨v33, v34, v36, v38, v40, v41, w42, v43, v45, v46, v47, v48, v50, v52, v54, v56, v58, v59, v60, c61, b35, b37, b39, b44, b49, b51, b53, b55, b57⟩ := invM_0 hI
  have c61 : S32 0 = .inr (12, [.int v33, .ref (ad 1), .ref (ad 2), .ref (ad 3), .ref (ad 4), .ref (ad 5), .int v34, .int v36, .int v38, .int v40, .int v41, .long w42, .int v43, .int v45, .int v46, .int v47, .ref (ad 6), .ref (ad 7), .ref (ad 8), .ref (ad 9), .ref (ad 10), .ref (ad 11), .ref (ad 12), .ref (ad 13), .ref (ad 14), .ref (ad 15), .int v48, .int v50, .ref (ad 16), .int v52, .int v54, .int v56, .int v58, .int v59, .ref (ad 17), .ref (ad 18), .int v60, .ref (ad 19)]) := c61
  have q62 : fld (S32 0) 6 = v34.toInt := fld_of c61 rfl
  have q63 : fld (S32 0) 7 = v36.toInt := fld_of c61 rfl
  have q64 : fld (S 0) 8 = v6.toInt := fld_of c29 rfl
  have q65 : fld (S32 0) 8 = v38.toInt := fld_of c61 rfl
  refine lv_aload_n hx hb dX12_number__5 rfl (lv_at hl 0 rfl) ?_
  refine lv_iload_n hx hb dX12_number__6 rfl (lv_at hl 2 rfl) ?_
  refine lv_iload hx hb dX12_number__7 (lv_at hl 3 rfl) ?_
  refine xcVi E hs hQ hml hl.1 0 (gX12_number_0 l g ad hD S32 hI a2 a3 ba2 ba3 (by omega)) mX12_number q1676 (by decide) c61 rfl rfl ⟨(Nat.le_of_ble_eq_true rfl), (Nat.le_of_ble_eq_true rfl)⟩ ⟨(Nat.le_of_ble_eq_true rfl), (Nat.le_of_ble_eq_true rfl)⟩ (Nat.le_of_ble_eq_true rfl) rfl dX12_number__9 (fun r66 S66 H locs hp66 hQ _ => ?_)
  obtain ⟨hI, o66, b66, g66_0, g66_1, g66_2⟩ := hp66
  obtain ⟨v67, v68, v70, v72, v74, v75, w76, v77, v79, v80, v81, v82, v84, v86, v88, v90, v92, v93, v94, c95, b69, b71, b73, b78, b83, b85, b87, b89, b91⟩ := invM_0 hI
  have c95 : S66 0 = .inr (12, [.int v67, .ref (ad 1), .ref (ad 2), .ref (ad 3), .ref (ad 4), .ref (ad 5), .int v68, .int v70, .int v72, .int v74, .int v75, .long w76, .int v77, .int v79, .int v80, .int v81, .ref (ad 6), .ref (ad 7), .ref (ad 8), .ref (ad 9), .ref (ad 10), .ref (ad 11), .ref (ad 12), .ref (ad 13), .ref (ad 14), .ref (ad 15), .int v82, .int v84, .ref (ad 16), .int v86, .int v88, .int v90, .int v92, .int v93, .ref (ad 17), .ref (ad 18), .int v94, .ref (ad 19)]) := c95
  have q96 : fld (S66 0) 6 = v68.toInt := fld_of c95 rfl
  have q97 : fld (S66 0) 7 = v70.toInt := fld_of c95 rfl
  have q98 : fld (S66 0) 8 = v72.toInt := fld_of c95 rfl
  exact xri E hr hlk hQ (⟨hI, (o_trans (o_trans o_refl o32 (by decide)) o66 (by decide)), b66, (by omega), ⟨by omega, by omega⟩, (by omega)⟩) dX12_number__12
set_option maxHeartbeats 4000000 in
set_option maxRecDepth 100000 in
theorem gX12_numberw_1 (l : Launch) (g : GG) (ad : Nat → Nat) (hD : Dj ad 20) (S : SS) (hI : InvM g ad S) (wa1 : Int64) (a2 : Int32) (a3 : Int32) (ba2 : Bd a2 (1) (1)) (ba3 : Bd a3 (12) (12)) (hq1 : 0 ≤ fld (S 0) 6 + (-1) * fld (S 0) 7) : Met l yX12_number_ (wG (.code yX12_number_ cX12_number_ 5 (some .int))) (Rm 4) (XPre g ad 20 S [.ref (ad 0), .long wa1, .int a2, .int a3]) (va_Qi (fun r S' => InvM g ad S' ∧ (∀ j, j ∉ ([0] : List Nat) → S' j = S j) ∧ Bd r (1) (12) ∧ (0 ≤ fld (S' 0) 6 + (-1) * fld (S' 0) 7) ∧ (0 ≤ fld (S 0) 6 + (-1) * fld (S' 0) 6 ∧ 0 ≤ fld (S' 0) 6 + (-1) * fld (S 0) 6) ∧ (0 ≤ 4 * fld (S 0) 6 + (-4) * fld (S 0) 7 + fld (S 0) 8 + (-4) * fld (S' 0) 6 + 4 * fld (S' 0) 7 + (-1) * fld (S' 0) 8)) (QB g ad 20) (FA ad 20)) 0 0 (FA ad 20) := by
  refine xmet cX12_number_ "EbbWreckModel" (by decide) rfl (Nat.le_of_ble_eq_true rfl) (fun p e s m below meth c E hr hlk hml hQ ls hl => ?_)
  have hx := E.1
  have hb := E.2.1
  have hs : Sp ad 20 (FA ad 20) := Sp.fa hD
  have hl : lv_has ls 5 [(0, .ref (ad 0)), (1, .long wa1), (3, .int a2), (4, .int a3)] := hl
  obtain ⟨v1, v2, v4, v6, v8, v9, w10, v11, v13, v14, v15, v16, v18, v20, v22, v24, v26, v27, v28, c29, b3, b5, b7, b12, b17, b19, b21, b23, b25⟩ := invM_0 hI
  have c29 : S 0 = .inr (12, [.int v1, .ref (ad 1), .ref (ad 2), .ref (ad 3), .ref (ad 4), .ref (ad 5), .int v2, .int v4, .int v6, .int v8, .int v9, .long w10, .int v11, .int v13, .int v14, .int v15, .ref (ad 6), .ref (ad 7), .ref (ad 8), .ref (ad 9), .ref (ad 10), .ref (ad 11), .ref (ad 12), .ref (ad 13), .ref (ad 14), .ref (ad 15), .int v16, .int v18, .ref (ad 16), .int v20, .int v22, .int v24, .int v26, .int v27, .ref (ad 17), .ref (ad 18), .int v28, .ref (ad 19)]) := c29
  have q30 : fld (S 0) 6 = v2.toInt := fld_of c29 rfl
  have q31 : fld (S 0) 7 = v4.toInt := fld_of c29 rfl
  refine lv_aload_n hx hb dX12_number__0 rfl (lv_at hl 0 rfl) ?_
  refine lv_lload_n hx hb dX12_number__1 rfl (lv_at hl 1 rfl) ?_
  refine xcVv E hs hQ hml hl.1 0 (gX12_asks_0 l g ad hD S hI wa1 (by omega)) mX12_asks q1655 (by decide) c29 rfl rfl ⟨(Nat.le_of_ble_eq_true rfl), (Nat.le_of_ble_eq_true rfl)⟩ ⟨(Nat.le_of_ble_eq_true rfl), (Nat.le_of_ble_eq_true rfl)⟩ (Nat.le_of_ble_eq_true rfl) rfl dX12_number__2 (fun S32 H locs hp32 hQ _ => ?_)
  obtain ⟨hI, o32, g32_0, g32_1, g32_2⟩ := hp32
  obtain ⟨v33, v34, v36, v38, v40, v41, w42, v43, v45, v46, v47, v48, v50, v52, v54, v56, v58, v59, v60, c61, b35, b37, b39, b44, b49, b51, b53, b55, b57⟩ := invM_0 hI
  have c61 : S32 0 = .inr (12, [.int v33, .ref (ad 1), .ref (ad 2), .ref (ad 3), .ref (ad 4), .ref (ad 5), .int v34, .int v36, .int v38, .int v40, .int v41, .long w42, .int v43, .int v45, .int v46, .int v47, .ref (ad 6), .ref (ad 7), .ref (ad 8), .ref (ad 9), .ref (ad 10), .ref (ad 11), .ref (ad 12), .ref (ad 13), .ref (ad 14), .ref (ad 15), .int v48, .int v50, .ref (ad 16), .int v52, .int v54, .int v56, .int v58, .int v59, .ref (ad 17), .ref (ad 18), .int v60, .ref (ad 19)]) := c61
  have q62 : fld (S32 0) 6 = v34.toInt := fld_of c61 rfl
  have q63 : fld (S32 0) 7 = v36.toInt := fld_of c61 rfl
  have q64 : fld (S 0) 8 = v6.toInt := fld_of c29 rfl
  have q65 : fld (S32 0) 8 = v38.toInt := fld_of c61 rfl
  refine lv_aload_n hx hb dX12_number__5 rfl (lv_at hl 0 rfl) ?_
  refine lv_iload_n hx hb dX12_number__6 rfl (lv_at hl 2 rfl) ?_
  refine lv_iload hx hb dX12_number__7 (lv_at hl 3 rfl) ?_
  refine xcVi E hs hQ hml hl.1 0 (gX12_number_1 l g ad hD S32 hI a2 a3 ba2 ba3 (by omega)) mX12_number q1676 (by decide) c61 rfl rfl ⟨(Nat.le_of_ble_eq_true rfl), (Nat.le_of_ble_eq_true rfl)⟩ ⟨(Nat.le_of_ble_eq_true rfl), (Nat.le_of_ble_eq_true rfl)⟩ (Nat.le_of_ble_eq_true rfl) rfl dX12_number__9 (fun r66 S66 H locs hp66 hQ _ => ?_)
  obtain ⟨hI, o66, b66, g66_0, g66_1, g66_2⟩ := hp66
  obtain ⟨v67, v68, v70, v72, v74, v75, w76, v77, v79, v80, v81, v82, v84, v86, v88, v90, v92, v93, v94, c95, b69, b71, b73, b78, b83, b85, b87, b89, b91⟩ := invM_0 hI
  have c95 : S66 0 = .inr (12, [.int v67, .ref (ad 1), .ref (ad 2), .ref (ad 3), .ref (ad 4), .ref (ad 5), .int v68, .int v70, .int v72, .int v74, .int v75, .long w76, .int v77, .int v79, .int v80, .int v81, .ref (ad 6), .ref (ad 7), .ref (ad 8), .ref (ad 9), .ref (ad 10), .ref (ad 11), .ref (ad 12), .ref (ad 13), .ref (ad 14), .ref (ad 15), .int v82, .int v84, .ref (ad 16), .int v86, .int v88, .int v90, .int v92, .int v93, .ref (ad 17), .ref (ad 18), .int v94, .ref (ad 19)]) := c95
  have q96 : fld (S66 0) 6 = v68.toInt := fld_of c95 rfl
  have q97 : fld (S66 0) 7 = v70.toInt := fld_of c95 rfl
  have q98 : fld (S66 0) 8 = v72.toInt := fld_of c95 rfl
  exact xri E hr hlk hQ (⟨hI, (o_trans (o_trans o_refl o32 (by decide)) o66 (by decide)), b66, (by omega), ⟨by omega, by omega⟩, (by omega)⟩) dX12_number__12
set_option maxHeartbeats 4000000 in
set_option maxRecDepth 100000 in
theorem gX12_numberw_2 (l : Launch) (g : GG) (ad : Nat → Nat) (hD : Dj ad 20) (S : SS) (hI : InvM g ad S) (wa1 : Int64) (a2 : Int32) (a3 : Int32) (ba2 : Bd a2 (0) (0)) (ba3 : Bd a3 (6) (6)) (hq1 : 0 ≤ fld (S 0) 6 + (-1) * fld (S 0) 7) : Met l yX12_number_ (wG (.code yX12_number_ cX12_number_ 5 (some .int))) (Rm 4) (XPre g ad 20 S [.ref (ad 0), .long wa1, .int a2, .int a3]) (va_Qi (fun r S' => InvM g ad S' ∧ (∀ j, j ∉ ([0] : List Nat) → S' j = S j) ∧ Bd r (0) (6) ∧ (0 ≤ fld (S' 0) 6 + (-1) * fld (S' 0) 7) ∧ (0 ≤ fld (S 0) 6 + (-1) * fld (S' 0) 6 ∧ 0 ≤ fld (S' 0) 6 + (-1) * fld (S 0) 6) ∧ (0 ≤ 4 * fld (S 0) 6 + (-4) * fld (S 0) 7 + fld (S 0) 8 + (-4) * fld (S' 0) 6 + 4 * fld (S' 0) 7 + (-1) * fld (S' 0) 8)) (QB g ad 20) (FA ad 20)) 0 0 (FA ad 20) := by
  refine xmet cX12_number_ "EbbWreckModel" (by decide) rfl (Nat.le_of_ble_eq_true rfl) (fun p e s m below meth c E hr hlk hml hQ ls hl => ?_)
  have hx := E.1
  have hb := E.2.1
  have hs : Sp ad 20 (FA ad 20) := Sp.fa hD
  have hl : lv_has ls 5 [(0, .ref (ad 0)), (1, .long wa1), (3, .int a2), (4, .int a3)] := hl
  obtain ⟨v1, v2, v4, v6, v8, v9, w10, v11, v13, v14, v15, v16, v18, v20, v22, v24, v26, v27, v28, c29, b3, b5, b7, b12, b17, b19, b21, b23, b25⟩ := invM_0 hI
  have c29 : S 0 = .inr (12, [.int v1, .ref (ad 1), .ref (ad 2), .ref (ad 3), .ref (ad 4), .ref (ad 5), .int v2, .int v4, .int v6, .int v8, .int v9, .long w10, .int v11, .int v13, .int v14, .int v15, .ref (ad 6), .ref (ad 7), .ref (ad 8), .ref (ad 9), .ref (ad 10), .ref (ad 11), .ref (ad 12), .ref (ad 13), .ref (ad 14), .ref (ad 15), .int v16, .int v18, .ref (ad 16), .int v20, .int v22, .int v24, .int v26, .int v27, .ref (ad 17), .ref (ad 18), .int v28, .ref (ad 19)]) := c29
  have q30 : fld (S 0) 6 = v2.toInt := fld_of c29 rfl
  have q31 : fld (S 0) 7 = v4.toInt := fld_of c29 rfl
  refine lv_aload_n hx hb dX12_number__0 rfl (lv_at hl 0 rfl) ?_
  refine lv_lload_n hx hb dX12_number__1 rfl (lv_at hl 1 rfl) ?_
  refine xcVv E hs hQ hml hl.1 0 (gX12_asks_0 l g ad hD S hI wa1 (by omega)) mX12_asks q1655 (by decide) c29 rfl rfl ⟨(Nat.le_of_ble_eq_true rfl), (Nat.le_of_ble_eq_true rfl)⟩ ⟨(Nat.le_of_ble_eq_true rfl), (Nat.le_of_ble_eq_true rfl)⟩ (Nat.le_of_ble_eq_true rfl) rfl dX12_number__2 (fun S32 H locs hp32 hQ _ => ?_)
  obtain ⟨hI, o32, g32_0, g32_1, g32_2⟩ := hp32
  obtain ⟨v33, v34, v36, v38, v40, v41, w42, v43, v45, v46, v47, v48, v50, v52, v54, v56, v58, v59, v60, c61, b35, b37, b39, b44, b49, b51, b53, b55, b57⟩ := invM_0 hI
  have c61 : S32 0 = .inr (12, [.int v33, .ref (ad 1), .ref (ad 2), .ref (ad 3), .ref (ad 4), .ref (ad 5), .int v34, .int v36, .int v38, .int v40, .int v41, .long w42, .int v43, .int v45, .int v46, .int v47, .ref (ad 6), .ref (ad 7), .ref (ad 8), .ref (ad 9), .ref (ad 10), .ref (ad 11), .ref (ad 12), .ref (ad 13), .ref (ad 14), .ref (ad 15), .int v48, .int v50, .ref (ad 16), .int v52, .int v54, .int v56, .int v58, .int v59, .ref (ad 17), .ref (ad 18), .int v60, .ref (ad 19)]) := c61
  have q62 : fld (S32 0) 6 = v34.toInt := fld_of c61 rfl
  have q63 : fld (S32 0) 7 = v36.toInt := fld_of c61 rfl
  have q64 : fld (S 0) 8 = v6.toInt := fld_of c29 rfl
  have q65 : fld (S32 0) 8 = v38.toInt := fld_of c61 rfl
  refine lv_aload_n hx hb dX12_number__5 rfl (lv_at hl 0 rfl) ?_
  refine lv_iload_n hx hb dX12_number__6 rfl (lv_at hl 2 rfl) ?_
  refine lv_iload hx hb dX12_number__7 (lv_at hl 3 rfl) ?_
  refine xcVi E hs hQ hml hl.1 0 (gX12_number_2 l g ad hD S32 hI a2 a3 ba2 ba3 (by omega)) mX12_number q1676 (by decide) c61 rfl rfl ⟨(Nat.le_of_ble_eq_true rfl), (Nat.le_of_ble_eq_true rfl)⟩ ⟨(Nat.le_of_ble_eq_true rfl), (Nat.le_of_ble_eq_true rfl)⟩ (Nat.le_of_ble_eq_true rfl) rfl dX12_number__9 (fun r66 S66 H locs hp66 hQ _ => ?_)
  obtain ⟨hI, o66, b66, g66_0, g66_1, g66_2⟩ := hp66
  obtain ⟨v67, v68, v70, v72, v74, v75, w76, v77, v79, v80, v81, v82, v84, v86, v88, v90, v92, v93, v94, c95, b69, b71, b73, b78, b83, b85, b87, b89, b91⟩ := invM_0 hI
  have c95 : S66 0 = .inr (12, [.int v67, .ref (ad 1), .ref (ad 2), .ref (ad 3), .ref (ad 4), .ref (ad 5), .int v68, .int v70, .int v72, .int v74, .int v75, .long w76, .int v77, .int v79, .int v80, .int v81, .ref (ad 6), .ref (ad 7), .ref (ad 8), .ref (ad 9), .ref (ad 10), .ref (ad 11), .ref (ad 12), .ref (ad 13), .ref (ad 14), .ref (ad 15), .int v82, .int v84, .ref (ad 16), .int v86, .int v88, .int v90, .int v92, .int v93, .ref (ad 17), .ref (ad 18), .int v94, .ref (ad 19)]) := c95
  have q96 : fld (S66 0) 6 = v68.toInt := fld_of c95 rfl
  have q97 : fld (S66 0) 7 = v70.toInt := fld_of c95 rfl
  have q98 : fld (S66 0) 8 = v72.toInt := fld_of c95 rfl
  exact xri E hr hlk hQ (⟨hI, (o_trans (o_trans o_refl o32 (by decide)) o66 (by decide)), b66, (by omega), ⟨by omega, by omega⟩, (by omega)⟩) dX12_number__12
set_option maxHeartbeats 4000000 in
set_option maxRecDepth 100000 in
theorem gX12_numberw_3 (l : Launch) (g : GG) (ad : Nat → Nat) (hD : Dj ad 20) (S : SS) (hI : InvM g ad S) (wa1 : Int64) (a2 : Int32) (a3 : Int32) (ba2 : Bd a2 (0) (0)) (ba3 : Bd a3 (100) (100)) (hq1 : 0 ≤ fld (S 0) 6 + (-1) * fld (S 0) 7) : Met l yX12_number_ (wG (.code yX12_number_ cX12_number_ 5 (some .int))) (Rm 4) (XPre g ad 20 S [.ref (ad 0), .long wa1, .int a2, .int a3]) (va_Qi (fun r S' => InvM g ad S' ∧ (∀ j, j ∉ ([0] : List Nat) → S' j = S j) ∧ Bd r (0) (100) ∧ (0 ≤ fld (S' 0) 6 + (-1) * fld (S' 0) 7) ∧ (0 ≤ fld (S 0) 6 + (-1) * fld (S' 0) 6 ∧ 0 ≤ fld (S' 0) 6 + (-1) * fld (S 0) 6) ∧ (0 ≤ 4 * fld (S 0) 6 + (-4) * fld (S 0) 7 + fld (S 0) 8 + (-4) * fld (S' 0) 6 + 4 * fld (S' 0) 7 + (-1) * fld (S' 0) 8)) (QB g ad 20) (FA ad 20)) 0 0 (FA ad 20) := by
  refine xmet cX12_number_ "EbbWreckModel" (by decide) rfl (Nat.le_of_ble_eq_true rfl) (fun p e s m below meth c E hr hlk hml hQ ls hl => ?_)
  have hx := E.1
  have hb := E.2.1
  have hs : Sp ad 20 (FA ad 20) := Sp.fa hD
  have hl : lv_has ls 5 [(0, .ref (ad 0)), (1, .long wa1), (3, .int a2), (4, .int a3)] := hl
  obtain ⟨v1, v2, v4, v6, v8, v9, w10, v11, v13, v14, v15, v16, v18, v20, v22, v24, v26, v27, v28, c29, b3, b5, b7, b12, b17, b19, b21, b23, b25⟩ := invM_0 hI
  have c29 : S 0 = .inr (12, [.int v1, .ref (ad 1), .ref (ad 2), .ref (ad 3), .ref (ad 4), .ref (ad 5), .int v2, .int v4, .int v6, .int v8, .int v9, .long w10, .int v11, .int v13, .int v14, .int v15, .ref (ad 6), .ref (ad 7), .ref (ad 8), .ref (ad 9), .ref (ad 10), .ref (ad 11), .ref (ad 12), .ref (ad 13), .ref (ad 14), .ref (ad 15), .int v16, .int v18, .ref (ad 16), .int v20, .int v22, .int v24, .int v26, .int v27, .ref (ad 17), .ref (ad 18), .int v28, .ref (ad 19)]) := c29
  have q30 : fld (S 0) 6 = v2.toInt := fld_of c29 rfl
  have q31 : fld (S 0) 7 = v4.toInt := fld_of c29 rfl
  refine lv_aload_n hx hb dX12_number__0 rfl (lv_at hl 0 rfl) ?_
  refine lv_lload_n hx hb dX12_number__1 rfl (lv_at hl 1 rfl) ?_
  refine xcVv E hs hQ hml hl.1 0 (gX12_asks_0 l g ad hD S hI wa1 (by omega)) mX12_asks q1655 (by decide) c29 rfl rfl ⟨(Nat.le_of_ble_eq_true rfl), (Nat.le_of_ble_eq_true rfl)⟩ ⟨(Nat.le_of_ble_eq_true rfl), (Nat.le_of_ble_eq_true rfl)⟩ (Nat.le_of_ble_eq_true rfl) rfl dX12_number__2 (fun S32 H locs hp32 hQ _ => ?_)
  obtain ⟨hI, o32, g32_0, g32_1, g32_2⟩ := hp32
  obtain ⟨v33, v34, v36, v38, v40, v41, w42, v43, v45, v46, v47, v48, v50, v52, v54, v56, v58, v59, v60, c61, b35, b37, b39, b44, b49, b51, b53, b55, b57⟩ := invM_0 hI
  have c61 : S32 0 = .inr (12, [.int v33, .ref (ad 1), .ref (ad 2), .ref (ad 3), .ref (ad 4), .ref (ad 5), .int v34, .int v36, .int v38, .int v40, .int v41, .long w42, .int v43, .int v45, .int v46, .int v47, .ref (ad 6), .ref (ad 7), .ref (ad 8), .ref (ad 9), .ref (ad 10), .ref (ad 11), .ref (ad 12), .ref (ad 13), .ref (ad 14), .ref (ad 15), .int v48, .int v50, .ref (ad 16), .int v52, .int v54, .int v56, .int v58, .int v59, .ref (ad 17), .ref (ad 18), .int v60, .ref (ad 19)]) := c61
  have q62 : fld (S32 0) 6 = v34.toInt := fld_of c61 rfl
  have q63 : fld (S32 0) 7 = v36.toInt := fld_of c61 rfl
  have q64 : fld (S 0) 8 = v6.toInt := fld_of c29 rfl
  have q65 : fld (S32 0) 8 = v38.toInt := fld_of c61 rfl
  refine lv_aload_n hx hb dX12_number__5 rfl (lv_at hl 0 rfl) ?_
  refine lv_iload_n hx hb dX12_number__6 rfl (lv_at hl 2 rfl) ?_
  refine lv_iload hx hb dX12_number__7 (lv_at hl 3 rfl) ?_
  refine xcVi E hs hQ hml hl.1 0 (gX12_number_3 l g ad hD S32 hI a2 a3 ba2 ba3 (by omega)) mX12_number q1676 (by decide) c61 rfl rfl ⟨(Nat.le_of_ble_eq_true rfl), (Nat.le_of_ble_eq_true rfl)⟩ ⟨(Nat.le_of_ble_eq_true rfl), (Nat.le_of_ble_eq_true rfl)⟩ (Nat.le_of_ble_eq_true rfl) rfl dX12_number__9 (fun r66 S66 H locs hp66 hQ _ => ?_)
  obtain ⟨hI, o66, b66, g66_0, g66_1, g66_2⟩ := hp66
  obtain ⟨v67, v68, v70, v72, v74, v75, w76, v77, v79, v80, v81, v82, v84, v86, v88, v90, v92, v93, v94, c95, b69, b71, b73, b78, b83, b85, b87, b89, b91⟩ := invM_0 hI
  have c95 : S66 0 = .inr (12, [.int v67, .ref (ad 1), .ref (ad 2), .ref (ad 3), .ref (ad 4), .ref (ad 5), .int v68, .int v70, .int v72, .int v74, .int v75, .long w76, .int v77, .int v79, .int v80, .int v81, .ref (ad 6), .ref (ad 7), .ref (ad 8), .ref (ad 9), .ref (ad 10), .ref (ad 11), .ref (ad 12), .ref (ad 13), .ref (ad 14), .ref (ad 15), .int v82, .int v84, .ref (ad 16), .int v86, .int v88, .int v90, .int v92, .int v93, .ref (ad 17), .ref (ad 18), .int v94, .ref (ad 19)]) := c95
  have q96 : fld (S66 0) 6 = v68.toInt := fld_of c95 rfl
  have q97 : fld (S66 0) 7 = v70.toInt := fld_of c95 rfl
  have q98 : fld (S66 0) 8 = v72.toInt := fld_of c95 rfl
  exact xri E hr hlk hQ (⟨hI, (o_trans (o_trans o_refl o32 (by decide)) o66 (by decide)), b66, (by omega), ⟨by omega, by omega⟩, (by omega)⟩) dX12_number__12
set_option maxHeartbeats 4000000 in
set_option maxRecDepth 100000 in
theorem gX12_numberw_4 (l : Launch) (g : GG) (ad : Nat → Nat) (hD : Dj ad 20) (S : SS) (hI : InvM g ad S) (wa1 : Int64) (a2 : Int32) (a3 : Int32) (ba2 : Bd a2 (0) (0)) (ba3 : Bd a3 (3) (3)) (hq1 : 0 ≤ fld (S 0) 6 + (-1) * fld (S 0) 7) : Met l yX12_number_ (wG (.code yX12_number_ cX12_number_ 5 (some .int))) (Rm 4) (XPre g ad 20 S [.ref (ad 0), .long wa1, .int a2, .int a3]) (va_Qi (fun r S' => InvM g ad S' ∧ (∀ j, j ∉ ([0] : List Nat) → S' j = S j) ∧ Bd r (0) (3) ∧ (0 ≤ fld (S' 0) 6 + (-1) * fld (S' 0) 7) ∧ (0 ≤ fld (S 0) 6 + (-1) * fld (S' 0) 6 ∧ 0 ≤ fld (S' 0) 6 + (-1) * fld (S 0) 6) ∧ (0 ≤ 4 * fld (S 0) 6 + (-4) * fld (S 0) 7 + fld (S 0) 8 + (-4) * fld (S' 0) 6 + 4 * fld (S' 0) 7 + (-1) * fld (S' 0) 8)) (QB g ad 20) (FA ad 20)) 0 0 (FA ad 20) := by
  refine xmet cX12_number_ "EbbWreckModel" (by decide) rfl (Nat.le_of_ble_eq_true rfl) (fun p e s m below meth c E hr hlk hml hQ ls hl => ?_)
  have hx := E.1
  have hb := E.2.1
  have hs : Sp ad 20 (FA ad 20) := Sp.fa hD
  have hl : lv_has ls 5 [(0, .ref (ad 0)), (1, .long wa1), (3, .int a2), (4, .int a3)] := hl
  obtain ⟨v1, v2, v4, v6, v8, v9, w10, v11, v13, v14, v15, v16, v18, v20, v22, v24, v26, v27, v28, c29, b3, b5, b7, b12, b17, b19, b21, b23, b25⟩ := invM_0 hI
  have c29 : S 0 = .inr (12, [.int v1, .ref (ad 1), .ref (ad 2), .ref (ad 3), .ref (ad 4), .ref (ad 5), .int v2, .int v4, .int v6, .int v8, .int v9, .long w10, .int v11, .int v13, .int v14, .int v15, .ref (ad 6), .ref (ad 7), .ref (ad 8), .ref (ad 9), .ref (ad 10), .ref (ad 11), .ref (ad 12), .ref (ad 13), .ref (ad 14), .ref (ad 15), .int v16, .int v18, .ref (ad 16), .int v20, .int v22, .int v24, .int v26, .int v27, .ref (ad 17), .ref (ad 18), .int v28, .ref (ad 19)]) := c29
  have q30 : fld (S 0) 6 = v2.toInt := fld_of c29 rfl
  have q31 : fld (S 0) 7 = v4.toInt := fld_of c29 rfl
  refine lv_aload_n hx hb dX12_number__0 rfl (lv_at hl 0 rfl) ?_
  refine lv_lload_n hx hb dX12_number__1 rfl (lv_at hl 1 rfl) ?_
  refine xcVv E hs hQ hml hl.1 0 (gX12_asks_0 l g ad hD S hI wa1 (by omega)) mX12_asks q1655 (by decide) c29 rfl rfl ⟨(Nat.le_of_ble_eq_true rfl), (Nat.le_of_ble_eq_true rfl)⟩ ⟨(Nat.le_of_ble_eq_true rfl), (Nat.le_of_ble_eq_true rfl)⟩ (Nat.le_of_ble_eq_true rfl) rfl dX12_number__2 (fun S32 H locs hp32 hQ _ => ?_)
  obtain ⟨hI, o32, g32_0, g32_1, g32_2⟩ := hp32
  obtain ⟨v33, v34, v36, v38, v40, v41, w42, v43, v45, v46, v47, v48, v50, v52, v54, v56, v58, v59, v60, c61, b35, b37, b39, b44, b49, b51, b53, b55, b57⟩ := invM_0 hI
  have c61 : S32 0 = .inr (12, [.int v33, .ref (ad 1), .ref (ad 2), .ref (ad 3), .ref (ad 4), .ref (ad 5), .int v34, .int v36, .int v38, .int v40, .int v41, .long w42, .int v43, .int v45, .int v46, .int v47, .ref (ad 6), .ref (ad 7), .ref (ad 8), .ref (ad 9), .ref (ad 10), .ref (ad 11), .ref (ad 12), .ref (ad 13), .ref (ad 14), .ref (ad 15), .int v48, .int v50, .ref (ad 16), .int v52, .int v54, .int v56, .int v58, .int v59, .ref (ad 17), .ref (ad 18), .int v60, .ref (ad 19)]) := c61
  have q62 : fld (S32 0) 6 = v34.toInt := fld_of c61 rfl
  have q63 : fld (S32 0) 7 = v36.toInt := fld_of c61 rfl
  have q64 : fld (S 0) 8 = v6.toInt := fld_of c29 rfl
  have q65 : fld (S32 0) 8 = v38.toInt := fld_of c61 rfl
  refine lv_aload_n hx hb dX12_number__5 rfl (lv_at hl 0 rfl) ?_
  refine lv_iload_n hx hb dX12_number__6 rfl (lv_at hl 2 rfl) ?_
  refine lv_iload hx hb dX12_number__7 (lv_at hl 3 rfl) ?_
  refine xcVi E hs hQ hml hl.1 0 (gX12_number_4 l g ad hD S32 hI a2 a3 ba2 ba3 (by omega)) mX12_number q1676 (by decide) c61 rfl rfl ⟨(Nat.le_of_ble_eq_true rfl), (Nat.le_of_ble_eq_true rfl)⟩ ⟨(Nat.le_of_ble_eq_true rfl), (Nat.le_of_ble_eq_true rfl)⟩ (Nat.le_of_ble_eq_true rfl) rfl dX12_number__9 (fun r66 S66 H locs hp66 hQ _ => ?_)
  obtain ⟨hI, o66, b66, g66_0, g66_1, g66_2⟩ := hp66
  obtain ⟨v67, v68, v70, v72, v74, v75, w76, v77, v79, v80, v81, v82, v84, v86, v88, v90, v92, v93, v94, c95, b69, b71, b73, b78, b83, b85, b87, b89, b91⟩ := invM_0 hI
  have c95 : S66 0 = .inr (12, [.int v67, .ref (ad 1), .ref (ad 2), .ref (ad 3), .ref (ad 4), .ref (ad 5), .int v68, .int v70, .int v72, .int v74, .int v75, .long w76, .int v77, .int v79, .int v80, .int v81, .ref (ad 6), .ref (ad 7), .ref (ad 8), .ref (ad 9), .ref (ad 10), .ref (ad 11), .ref (ad 12), .ref (ad 13), .ref (ad 14), .ref (ad 15), .int v82, .int v84, .ref (ad 16), .int v86, .int v88, .int v90, .int v92, .int v93, .ref (ad 17), .ref (ad 18), .int v94, .ref (ad 19)]) := c95
  have q96 : fld (S66 0) 6 = v68.toInt := fld_of c95 rfl
  have q97 : fld (S66 0) 7 = v70.toInt := fld_of c95 rfl
  have q98 : fld (S66 0) 8 = v72.toInt := fld_of c95 rfl
  exact xri E hr hlk hQ (⟨hI, (o_trans (o_trans o_refl o32 (by decide)) o66 (by decide)), b66, (by omega), ⟨by omega, by omega⟩, (by omega)⟩) dX12_number__12
set_option maxHeartbeats 4000000 in
set_option maxRecDepth 100000 in
theorem gX12_numberw_5 (l : Launch) (g : GG) (ad : Nat → Nat) (hD : Dj ad 20) (S : SS) (hI : InvM g ad S) (wa1 : Int64) (a2 : Int32) (a3 : Int32) (ba2 : Bd a2 (0) (0)) (ba3 : Bd a3 (999) (999)) (hq1 : 0 ≤ fld (S 0) 6 + (-1) * fld (S 0) 7) : Met l yX12_number_ (wG (.code yX12_number_ cX12_number_ 5 (some .int))) (Rm 4) (XPre g ad 20 S [.ref (ad 0), .long wa1, .int a2, .int a3]) (va_Qi (fun r S' => InvM g ad S' ∧ (∀ j, j ∉ ([0] : List Nat) → S' j = S j) ∧ Bd r (0) (999) ∧ (0 ≤ fld (S' 0) 6 + (-1) * fld (S' 0) 7) ∧ (0 ≤ fld (S 0) 6 + (-1) * fld (S' 0) 6 ∧ 0 ≤ fld (S' 0) 6 + (-1) * fld (S 0) 6) ∧ (0 ≤ 4 * fld (S 0) 6 + (-4) * fld (S 0) 7 + fld (S 0) 8 + (-4) * fld (S' 0) 6 + 4 * fld (S' 0) 7 + (-1) * fld (S' 0) 8)) (QB g ad 20) (FA ad 20)) 0 0 (FA ad 20) := by
  refine xmet cX12_number_ "EbbWreckModel" (by decide) rfl (Nat.le_of_ble_eq_true rfl) (fun p e s m below meth c E hr hlk hml hQ ls hl => ?_)
  have hx := E.1
  have hb := E.2.1
  have hs : Sp ad 20 (FA ad 20) := Sp.fa hD
  have hl : lv_has ls 5 [(0, .ref (ad 0)), (1, .long wa1), (3, .int a2), (4, .int a3)] := hl
  obtain ⟨v1, v2, v4, v6, v8, v9, w10, v11, v13, v14, v15, v16, v18, v20, v22, v24, v26, v27, v28, c29, b3, b5, b7, b12, b17, b19, b21, b23, b25⟩ := invM_0 hI
  have c29 : S 0 = .inr (12, [.int v1, .ref (ad 1), .ref (ad 2), .ref (ad 3), .ref (ad 4), .ref (ad 5), .int v2, .int v4, .int v6, .int v8, .int v9, .long w10, .int v11, .int v13, .int v14, .int v15, .ref (ad 6), .ref (ad 7), .ref (ad 8), .ref (ad 9), .ref (ad 10), .ref (ad 11), .ref (ad 12), .ref (ad 13), .ref (ad 14), .ref (ad 15), .int v16, .int v18, .ref (ad 16), .int v20, .int v22, .int v24, .int v26, .int v27, .ref (ad 17), .ref (ad 18), .int v28, .ref (ad 19)]) := c29
  have q30 : fld (S 0) 6 = v2.toInt := fld_of c29 rfl
  have q31 : fld (S 0) 7 = v4.toInt := fld_of c29 rfl
  refine lv_aload_n hx hb dX12_number__0 rfl (lv_at hl 0 rfl) ?_
  refine lv_lload_n hx hb dX12_number__1 rfl (lv_at hl 1 rfl) ?_
  refine xcVv E hs hQ hml hl.1 0 (gX12_asks_0 l g ad hD S hI wa1 (by omega)) mX12_asks q1655 (by decide) c29 rfl rfl ⟨(Nat.le_of_ble_eq_true rfl), (Nat.le_of_ble_eq_true rfl)⟩ ⟨(Nat.le_of_ble_eq_true rfl), (Nat.le_of_ble_eq_true rfl)⟩ (Nat.le_of_ble_eq_true rfl) rfl dX12_number__2 (fun S32 H locs hp32 hQ _ => ?_)
  obtain ⟨hI, o32, g32_0, g32_1, g32_2⟩ := hp32
  obtain ⟨v33, v34, v36, v38, v40, v41, w42, v43, v45, v46, v47, v48, v50, v52, v54, v56, v58, v59, v60, c61, b35, b37, b39, b44, b49, b51, b53, b55, b57⟩ := invM_0 hI
  have c61 : S32 0 = .inr (12, [.int v33, .ref (ad 1), .ref (ad 2), .ref (ad 3), .ref (ad 4), .ref (ad 5), .int v34, .int v36, .int v38, .int v40, .int v41, .long w42, .int v43, .int v45, .int v46, .int v47, .ref (ad 6), .ref (ad 7), .ref (ad 8), .ref (ad 9), .ref (ad 10), .ref (ad 11), .ref (ad 12), .ref (ad 13), .ref (ad 14), .ref (ad 15), .int v48, .int v50, .ref (ad 16), .int v52, .int v54, .int v56, .int v58, .int v59, .ref (ad 17), .ref (ad 18), .int v60, .ref (ad 19)]) := c61
  have q62 : fld (S32 0) 6 = v34.toInt := fld_of c61 rfl
  have q63 : fld (S32 0) 7 = v36.toInt := fld_of c61 rfl
  have q64 : fld (S 0) 8 = v6.toInt := fld_of c29 rfl
  have q65 : fld (S32 0) 8 = v38.toInt := fld_of c61 rfl
  refine lv_aload_n hx hb dX12_number__5 rfl (lv_at hl 0 rfl) ?_
  refine lv_iload_n hx hb dX12_number__6 rfl (lv_at hl 2 rfl) ?_
  refine lv_iload hx hb dX12_number__7 (lv_at hl 3 rfl) ?_
  refine xcVi E hs hQ hml hl.1 0 (gX12_number_5 l g ad hD S32 hI a2 a3 ba2 ba3 (by omega)) mX12_number q1676 (by decide) c61 rfl rfl ⟨(Nat.le_of_ble_eq_true rfl), (Nat.le_of_ble_eq_true rfl)⟩ ⟨(Nat.le_of_ble_eq_true rfl), (Nat.le_of_ble_eq_true rfl)⟩ (Nat.le_of_ble_eq_true rfl) rfl dX12_number__9 (fun r66 S66 H locs hp66 hQ _ => ?_)
  obtain ⟨hI, o66, b66, g66_0, g66_1, g66_2⟩ := hp66
  obtain ⟨v67, v68, v70, v72, v74, v75, w76, v77, v79, v80, v81, v82, v84, v86, v88, v90, v92, v93, v94, c95, b69, b71, b73, b78, b83, b85, b87, b89, b91⟩ := invM_0 hI
  have c95 : S66 0 = .inr (12, [.int v67, .ref (ad 1), .ref (ad 2), .ref (ad 3), .ref (ad 4), .ref (ad 5), .int v68, .int v70, .int v72, .int v74, .int v75, .long w76, .int v77, .int v79, .int v80, .int v81, .ref (ad 6), .ref (ad 7), .ref (ad 8), .ref (ad 9), .ref (ad 10), .ref (ad 11), .ref (ad 12), .ref (ad 13), .ref (ad 14), .ref (ad 15), .int v82, .int v84, .ref (ad 16), .int v86, .int v88, .int v90, .int v92, .int v93, .ref (ad 17), .ref (ad 18), .int v94, .ref (ad 19)]) := c95
  have q96 : fld (S66 0) 6 = v68.toInt := fld_of c95 rfl
  have q97 : fld (S66 0) 7 = v70.toInt := fld_of c95 rfl
  have q98 : fld (S66 0) 8 = v72.toInt := fld_of c95 rfl
  exact xri E hr hlk hQ (⟨hI, (o_trans (o_trans o_refl o32 (by decide)) o66 (by decide)), b66, (by omega), ⟨by omega, by omega⟩, (by omega)⟩) dX12_number__12
set_option maxHeartbeats 4000000 in
set_option maxRecDepth 100000 in
theorem gX12_numberw_6 (l : Launch) (g : GG) (ad : Nat → Nat) (hD : Dj ad 20) (S : SS) (hI : InvM g ad S) (wa1 : Int64) (a2 : Int32) (a3 : Int32) (ba2 : Bd a2 (0) (0)) (ba3 : Bd a3 (99) (99)) (hq1 : 0 ≤ fld (S 0) 6 + (-1) * fld (S 0) 7) : Met l yX12_number_ (wG (.code yX12_number_ cX12_number_ 5 (some .int))) (Rm 4) (XPre g ad 20 S [.ref (ad 0), .long wa1, .int a2, .int a3]) (va_Qi (fun r S' => InvM g ad S' ∧ (∀ j, j ∉ ([0] : List Nat) → S' j = S j) ∧ Bd r (0) (99) ∧ (0 ≤ fld (S' 0) 6 + (-1) * fld (S' 0) 7) ∧ (0 ≤ fld (S 0) 6 + (-1) * fld (S' 0) 6 ∧ 0 ≤ fld (S' 0) 6 + (-1) * fld (S 0) 6) ∧ (0 ≤ 4 * fld (S 0) 6 + (-4) * fld (S 0) 7 + fld (S 0) 8 + (-4) * fld (S' 0) 6 + 4 * fld (S' 0) 7 + (-1) * fld (S' 0) 8)) (QB g ad 20) (FA ad 20)) 0 0 (FA ad 20) := by
  refine xmet cX12_number_ "EbbWreckModel" (by decide) rfl (Nat.le_of_ble_eq_true rfl) (fun p e s m below meth c E hr hlk hml hQ ls hl => ?_)
  have hx := E.1
  have hb := E.2.1
  have hs : Sp ad 20 (FA ad 20) := Sp.fa hD
  have hl : lv_has ls 5 [(0, .ref (ad 0)), (1, .long wa1), (3, .int a2), (4, .int a3)] := hl
  obtain ⟨v1, v2, v4, v6, v8, v9, w10, v11, v13, v14, v15, v16, v18, v20, v22, v24, v26, v27, v28, c29, b3, b5, b7, b12, b17, b19, b21, b23, b25⟩ := invM_0 hI
  have c29 : S 0 = .inr (12, [.int v1, .ref (ad 1), .ref (ad 2), .ref (ad 3), .ref (ad 4), .ref (ad 5), .int v2, .int v4, .int v6, .int v8, .int v9, .long w10, .int v11, .int v13, .int v14, .int v15, .ref (ad 6), .ref (ad 7), .ref (ad 8), .ref (ad 9), .ref (ad 10), .ref (ad 11), .ref (ad 12), .ref (ad 13), .ref (ad 14), .ref (ad 15), .int v16, .int v18, .ref (ad 16), .int v20, .int v22, .int v24, .int v26, .int v27, .ref (ad 17), .ref (ad 18), .int v28, .ref (ad 19)]) := c29
  have q30 : fld (S 0) 6 = v2.toInt := fld_of c29 rfl
  have q31 : fld (S 0) 7 = v4.toInt := fld_of c29 rfl
  refine lv_aload_n hx hb dX12_number__0 rfl (lv_at hl 0 rfl) ?_
  refine lv_lload_n hx hb dX12_number__1 rfl (lv_at hl 1 rfl) ?_
  refine xcVv E hs hQ hml hl.1 0 (gX12_asks_0 l g ad hD S hI wa1 (by omega)) mX12_asks q1655 (by decide) c29 rfl rfl ⟨(Nat.le_of_ble_eq_true rfl), (Nat.le_of_ble_eq_true rfl)⟩ ⟨(Nat.le_of_ble_eq_true rfl), (Nat.le_of_ble_eq_true rfl)⟩ (Nat.le_of_ble_eq_true rfl) rfl dX12_number__2 (fun S32 H locs hp32 hQ _ => ?_)
  obtain ⟨hI, o32, g32_0, g32_1, g32_2⟩ := hp32
  obtain ⟨v33, v34, v36, v38, v40, v41, w42, v43, v45, v46, v47, v48, v50, v52, v54, v56, v58, v59, v60, c61, b35, b37, b39, b44, b49, b51, b53, b55, b57⟩ := invM_0 hI
  have c61 : S32 0 = .inr (12, [.int v33, .ref (ad 1), .ref (ad 2), .ref (ad 3), .ref (ad 4), .ref (ad 5), .int v34, .int v36, .int v38, .int v40, .int v41, .long w42, .int v43, .int v45, .int v46, .int v47, .ref (ad 6), .ref (ad 7), .ref (ad 8), .ref (ad 9), .ref (ad 10), .ref (ad 11), .ref (ad 12), .ref (ad 13), .ref (ad 14), .ref (ad 15), .int v48, .int v50, .ref (ad 16), .int v52, .int v54, .int v56, .int v58, .int v59, .ref (ad 17), .ref (ad 18), .int v60, .ref (ad 19)]) := c61
  have q62 : fld (S32 0) 6 = v34.toInt := fld_of c61 rfl
  have q63 : fld (S32 0) 7 = v36.toInt := fld_of c61 rfl
  have q64 : fld (S 0) 8 = v6.toInt := fld_of c29 rfl
  have q65 : fld (S32 0) 8 = v38.toInt := fld_of c61 rfl
  refine lv_aload_n hx hb dX12_number__5 rfl (lv_at hl 0 rfl) ?_
  refine lv_iload_n hx hb dX12_number__6 rfl (lv_at hl 2 rfl) ?_
  refine lv_iload hx hb dX12_number__7 (lv_at hl 3 rfl) ?_
  refine xcVi E hs hQ hml hl.1 0 (gX12_number_6 l g ad hD S32 hI a2 a3 ba2 ba3 (by omega)) mX12_number q1676 (by decide) c61 rfl rfl ⟨(Nat.le_of_ble_eq_true rfl), (Nat.le_of_ble_eq_true rfl)⟩ ⟨(Nat.le_of_ble_eq_true rfl), (Nat.le_of_ble_eq_true rfl)⟩ (Nat.le_of_ble_eq_true rfl) rfl dX12_number__9 (fun r66 S66 H locs hp66 hQ _ => ?_)
  obtain ⟨hI, o66, b66, g66_0, g66_1, g66_2⟩ := hp66
  obtain ⟨v67, v68, v70, v72, v74, v75, w76, v77, v79, v80, v81, v82, v84, v86, v88, v90, v92, v93, v94, c95, b69, b71, b73, b78, b83, b85, b87, b89, b91⟩ := invM_0 hI
  have c95 : S66 0 = .inr (12, [.int v67, .ref (ad 1), .ref (ad 2), .ref (ad 3), .ref (ad 4), .ref (ad 5), .int v68, .int v70, .int v72, .int v74, .int v75, .long w76, .int v77, .int v79, .int v80, .int v81, .ref (ad 6), .ref (ad 7), .ref (ad 8), .ref (ad 9), .ref (ad 10), .ref (ad 11), .ref (ad 12), .ref (ad 13), .ref (ad 14), .ref (ad 15), .int v82, .int v84, .ref (ad 16), .int v86, .int v88, .int v90, .int v92, .int v93, .ref (ad 17), .ref (ad 18), .int v94, .ref (ad 19)]) := c95
  have q96 : fld (S66 0) 6 = v68.toInt := fld_of c95 rfl
  have q97 : fld (S66 0) 7 = v70.toInt := fld_of c95 rfl
  have q98 : fld (S66 0) 8 = v72.toInt := fld_of c95 rfl
  exact xri E hr hlk hQ (⟨hI, (o_trans (o_trans o_refl o32 (by decide)) o66 (by decide)), b66, (by omega), ⟨by omega, by omega⟩, (by omega)⟩) dX12_number__12
set_option maxHeartbeats 4000000 in
set_option maxRecDepth 100000 in
theorem gX12_ends_0 (l : Launch) (g : GG) (ad : Nat → Nat) (hD : Dj ad 20) (S : SS) (hI : InvM g ad S) (hq1 : 0 ≤ fld (S 0) 6 + (-1) * fld (S 0) 7) : Met l yX12_ends (wG (.code yX12_ends cX12_ends 1 none)) (Rm 2) (XPre g ad 20 S [.ref (ad 0)]) (va_Qv (fun S' => InvM g ad S' ∧ (∀ j, j ∉ ([0] : List Nat) → S' j = S j) ∧ (0 ≤ fld (S' 0) 6 + (-1) * fld (S' 0) 7) ∧ (0 ≤ fld (S 0) 6 + (-1) * fld (S' 0) 6 ∧ 0 ≤ fld (S' 0) 6 + (-1) * fld (S 0) 6) ∧ (0 ≤ 4 * fld (S 0) 6 + (-4) * fld (S 0) 7 + fld (S 0) 8 + (-4) * fld (S' 0) 6 + 4 * fld (S' 0) 7 + (-1) * fld (S' 0) 8) ∧ (((-1) * fld (S' 0) 12 < 0 ∨ (0 ≤ 4 * fld (S 0) 6 + (-4) * fld (S 0) 7 + fld (S 0) 8 + (-4) * fld (S' 0) 6 + 4 * fld (S' 0) 7 + (-1) * fld (S' 0) 8 + (-1))))) (QB g ad 20) (FA ad 20)) 0 0 (FA ad 20) := by
  refine xmet cX12_ends "EbbWreckModel" (by decide) rfl (Nat.le_of_ble_eq_true rfl) (fun p e s m below meth c E hr hlk hml hQ ls hl => ?_)
  have hx := E.1
  have hb := E.2.1
  have hs : Sp ad 20 (FA ad 20) := Sp.fa hD
  have hl : lv_has ls 1 [(0, .ref (ad 0))] := hl
  obtain ⟨v1, v2, v4, v6, v8, v9, w10, v11, v13, v14, v15, v16, v18, v20, v22, v24, v26, v27, v28, c29, b3, b5, b7, b12, b17, b19, b21, b23, b25⟩ := invM_0 hI
  have c29 : S 0 = .inr (12, [.int v1, .ref (ad 1), .ref (ad 2), .ref (ad 3), .ref (ad 4), .ref (ad 5), .int v2, .int v4, .int v6, .int v8, .int v9, .long w10, .int v11, .int v13, .int v14, .int v15, .ref (ad 6), .ref (ad 7), .ref (ad 8), .ref (ad 9), .ref (ad 10), .ref (ad 11), .ref (ad 12), .ref (ad 13), .ref (ad 14), .ref (ad 15), .int v16, .int v18, .ref (ad 16), .int v20, .int v22, .int v24, .int v26, .int v27, .ref (ad 17), .ref (ad 18), .int v28, .ref (ad 19)]) := c29
  have q30 : fld (S 0) 6 = v2.toInt := fld_of c29 rfl
  have q31 : fld (S 0) 7 = v4.toInt := fld_of c29 rfl
  refine lv_aload_n hx hb dX12_ends_0 rfl (lv_at hl 0 rfl) ?_
  refine xget E hQ 0 (by decide) c29 rfl 8 (by decide) q1476 rfl dX12_ends_1 ?_
  refine lv_iconst (v := 3) hx hb dX12_ends_4 (by decide) ?_
  refine lv_icmp_eq (tgt := 13) hx hb dX12_ends_5 (by decide) (fun k32 => ?_) (fun k32 => ?_)
  · have h33 := ib_eq k32
    have b34 : Bd v6 (3) (3) := ⟨((rf_eq b7 (by decide : Bd 3 (3) (3)) h33).1).1, ((rf_eq b7 (by decide : Bd 3 (3) (3)) h33).1).2⟩
    refine lv_aload_n hx hb dX12_ends_13 rfl (lv_at hl 0 rfl) ?_
    refine xget E hQ 0 (by decide) c29 rfl 12 (by decide) q1480 rfl dX12_ends_14 ?_
    refine lv_if_ne (tgt := 24) hx hb dX12_ends_17 (by decide) (fun k35 => ?_) (fun k35 => ?_)
    · have h36 := ib_ne k35
      have b37 : Bd v11 (1) (3) := rf_nlo b12 (by decide : Bd 0 (0) (0)) h36
      have q38 : fld (S 0) 8 = v6.toInt := fld_of c29 rfl
      have q39 : fld (S 0) 12 = v11.toInt := fld_of c29 rfl
      exact xrv E hr hlk hQ (⟨hI, o_refl, (by omega), ⟨by omega, by omega⟩, (by omega), Or.inl (by omega)⟩) dX12_ends_24
    · have h40 := ib_eq k35
      have b41 : Bd v11 (0) (0) := ⟨(b12).1, ((rf_eq b12 (by decide : Bd 0 (0) (0)) h40).1).2⟩
      refine lv_aload_n hx hb dX12_ends_20 rfl (lv_at hl 0 rfl) ?_
      refine xcVv E hs hQ hml hl.1 0 (gX12_next_0 l g ad hD S hI (by omega)) mX12_next q1637 (by decide) c29 rfl rfl ⟨(Nat.le_of_ble_eq_true rfl), (Nat.le_of_ble_eq_true rfl)⟩ ⟨(Nat.le_of_ble_eq_true rfl), (Nat.le_of_ble_eq_true rfl)⟩ (Nat.le_of_ble_eq_true rfl) rfl dX12_ends_21 (fun S42 H locs hp42 hQ _ => ?_)
      obtain ⟨hI, o42, g42_0, g42_1, g42_2, g42_3, g42_4⟩ := hp42
      obtain ⟨v43, v44, v46, v48, v50, v51, w52, v53, v55, v56, v57, v58, v60, v62, v64, v66, v68, v69, v70, c71, b45, b47, b49, b54, b59, b61, b63, b65, b67⟩ := invM_0 hI
      have c71 : S42 0 = .inr (12, [.int v43, .ref (ad 1), .ref (ad 2), .ref (ad 3), .ref (ad 4), .ref (ad 5), .int v44, .int v46, .int v48, .int v50, .int v51, .long w52, .int v53, .int v55, .int v56, .int v57, .ref (ad 6), .ref (ad 7), .ref (ad 8), .ref (ad 9), .ref (ad 10), .ref (ad 11), .ref (ad 12), .ref (ad 13), .ref (ad 14), .ref (ad 15), .int v58, .int v60, .ref (ad 16), .int v62, .int v64, .int v66, .int v68, .int v69, .ref (ad 17), .ref (ad 18), .int v70, .ref (ad 19)]) := c71
      have q72 : fld (S42 0) 6 = v44.toInt := fld_of c71 rfl
      have q73 : fld (S42 0) 7 = v46.toInt := fld_of c71 rfl
      have q74 : fld (S 0) 12 = v11.toInt := fld_of c29 rfl
      have q75 : fld (S42 0) 12 = v53.toInt := fld_of c71 rfl
      have b76 : Bd v53 (0) (0) := ⟨(b54).1, by omega⟩
      have q77 : fld (S42 0) 8 = v48.toInt := fld_of c71 rfl
      have q78 : fld (S 0) 8 = v6.toInt := fld_of c29 rfl
      exact xrv E hr hlk hQ (⟨hI, (o_trans o_refl o42 (by decide)), (by omega), ⟨by omega, by omega⟩, (by omega), Or.inr (by omega)⟩) dX12_ends_24
  · have h79 := ib_ne k32
    refine lv_aload_n hx hb dX12_ends_8 rfl (lv_at hl 0 rfl) ?_
    refine lv_iconst (v := 1) hx hb dX12_ends_9 (by decide) ?_
    refine xcVv E hs hQ hml hl.1 0 (gX12_fails_0 l g ad hD S hI 1 (ib_wk (by decide : Bd 1 (1) (1)) (by decide) (by decide))) mX12_fails q1667 (by decide) c29 rfl rfl ⟨(Nat.le_of_ble_eq_true rfl), (Nat.le_of_ble_eq_true rfl)⟩ ⟨(Nat.le_of_ble_eq_true rfl), (Nat.le_of_ble_eq_true rfl)⟩ (Nat.le_of_ble_eq_true rfl) rfl dX12_ends_10 (fun S80 H locs hp80 hQ _ => ?_)
    obtain ⟨hI, o80, g80_0, g80_1, g80_2, g80_3⟩ := hp80
    obtain ⟨v81, v82, v84, v86, v88, v89, w90, v91, v93, v94, v95, v96, v98, v100, v102, v104, v106, v107, v108, c109, b83, b85, b87, b92, b97, b99, b101, b103, b105⟩ := invM_0 hI
    have c109 : S80 0 = .inr (12, [.int v81, .ref (ad 1), .ref (ad 2), .ref (ad 3), .ref (ad 4), .ref (ad 5), .int v82, .int v84, .int v86, .int v88, .int v89, .long w90, .int v91, .int v93, .int v94, .int v95, .ref (ad 6), .ref (ad 7), .ref (ad 8), .ref (ad 9), .ref (ad 10), .ref (ad 11), .ref (ad 12), .ref (ad 13), .ref (ad 14), .ref (ad 15), .int v96, .int v98, .ref (ad 16), .int v100, .int v102, .int v104, .int v106, .int v107, .ref (ad 17), .ref (ad 18), .int v108, .ref (ad 19)]) := c109
    have q110 : fld (S80 0) 12 = v91.toInt := fld_of c109 rfl
    have b111 : Bd v91 (1) (3) := ⟨by omega, (b92).2⟩
    have q112 : fld (S80 0) 6 = v82.toInt := fld_of c109 rfl
    have q113 : fld (S80 0) 7 = v84.toInt := fld_of c109 rfl
    have q114 : fld (S 0) 8 = v6.toInt := fld_of c29 rfl
    have q115 : fld (S80 0) 8 = v86.toInt := fld_of c109 rfl
    refine lv_aload_n hx hb dX12_ends_13 rfl (lv_at hl 0 rfl) ?_
    refine xget E hQ 0 (by decide) c109 rfl 12 (by decide) q1480 rfl dX12_ends_14 ?_
    refine lv_if_ne (tgt := 24) hx hb dX12_ends_17 (by decide) (fun k116 => ?_) (fun k116 => ?_)
    · have h117 := ib_ne k116
      exact xrv E hr hlk hQ (⟨hI, (o_trans o_refl o80 (by decide)), (by omega), ⟨by omega, by omega⟩, (by omega), Or.inl (by omega)⟩) dX12_ends_24
    · have h118 := ib_eq k116
      have b119 : Bd v91 (1) (0) := ⟨(b111).1, ((rf_eq b111 (by decide : Bd 0 (0) (0)) h118).1).2⟩
      exact absurd (Int.le_trans b119.1 b119.2) (by decide)
set_option maxHeartbeats 4000000 in
set_option maxRecDepth 100000 in
theorem gX12_begins_0 (l : Launch) (g : GG) (ad : Nat → Nat) (hD : Dj ad 20) (S : SS) (hI : InvM g ad S) : Met l yX12_begins (wG (.code yX12_begins cX12_begins 1 none)) (Rm 2) (XPre g ad 20 S [.ref (ad 0)]) (va_Qv (fun S' => InvM g ad S' ∧ (∀ j, j ∉ ([0] : List Nat) → S' j = S j) ∧ (0 ≤ fld (S' 0) 6 + (-1) * fld (S' 0) 7) ∧ (0 ≤ fld (S 0) 6 + (-1) * fld (S' 0) 6 ∧ 0 ≤ fld (S' 0) 6 + (-1) * fld (S 0) 6) ∧ (0 ≤ (-1) * fld (S' 0) 12 ∧ 0 ≤ fld (S' 0) 12)) (QB g ad 20) (FA ad 20)) 0 0 (FA ad 20) := by
  refine xmet cX12_begins "EbbWreckModel" (by decide) rfl (Nat.le_of_ble_eq_true rfl) (fun p e s m below meth c E hr hlk hml hQ ls hl => ?_)
  have hx := E.1
  have hb := E.2.1
  have hs : Sp ad 20 (FA ad 20) := Sp.fa hD
  have hl : lv_has ls 1 [(0, .ref (ad 0))] := hl
  obtain ⟨v1, v2, v4, v6, v8, v9, w10, v11, v13, v14, v15, v16, v18, v20, v22, v24, v26, v27, v28, c29, b3, b5, b7, b12, b17, b19, b21, b23, b25⟩ := invM_0 hI
  have c29 : S 0 = .inr (12, [.int v1, .ref (ad 1), .ref (ad 2), .ref (ad 3), .ref (ad 4), .ref (ad 5), .int v2, .int v4, .int v6, .int v8, .int v9, .long w10, .int v11, .int v13, .int v14, .int v15, .ref (ad 6), .ref (ad 7), .ref (ad 8), .ref (ad 9), .ref (ad 10), .ref (ad 11), .ref (ad 12), .ref (ad 13), .ref (ad 14), .ref (ad 15), .int v16, .int v18, .ref (ad 16), .int v20, .int v22, .int v24, .int v26, .int v27, .ref (ad 17), .ref (ad 18), .int v28, .ref (ad 19)]) := c29
  refine lv_aload_n hx hb dX12_begins_0 rfl (lv_at hl 0 rfl) ?_
  refine lv_iconst (v := 0) hx hb dX12_begins_1 (by decide) ?_
  refine xputi E hs hQ 0 (by decide) c29 rfl 12 (by decide) q1480 rfl rfl (Nat.le_of_ble_eq_true rfl) dX12_begins_2 (fun H locs S30 eS30 hQ => ?_)
  have hI := invM_up_0 hI eS30 ⟨v1, v2, v4, v6, v8, v9, w10, 0, v13, v14, v15, v16, v18, v20, v22, v24, v26, v27, v28, rfl, b3, b5, b7, (ib_wk (by decide : Bd 0 (0) (0)) (by decide) (by decide)), b17, b19, b21, b23, b25⟩
  have c31 : S30 0 = .inr (12, [.int v1, .ref (ad 1), .ref (ad 2), .ref (ad 3), .ref (ad 4), .ref (ad 5), .int v2, .int v4, .int v6, .int v8, .int v9, .long w10, .int 0, .int v13, .int v14, .int v15, .ref (ad 6), .ref (ad 7), .ref (ad 8), .ref (ad 9), .ref (ad 10), .ref (ad 11), .ref (ad 12), .ref (ad 13), .ref (ad 14), .ref (ad 15), .int v16, .int v18, .ref (ad 16), .int v20, .int v22, .int v24, .int v26, .int v27, .ref (ad 17), .ref (ad 18), .int v28, .ref (ad 19)]) := up_at eS30 rfl
  refine lv_aload_n hx hb dX12_begins_5 rfl (lv_at hl 0 rfl) ?_
  refine lv_iconst (v := (-1)) hx hb dX12_begins_6 (by decide) ?_
  refine xputi E hs hQ 0 (by decide) c31 rfl 13 (by decide) q1481 rfl rfl (Nat.le_of_ble_eq_true rfl) dX12_begins_7 (fun H locs S32 eS32 hQ => ?_)
  have hI := invM_up_0 hI eS32 ⟨v1, v2, v4, v6, v8, v9, w10, 0, (-1), v14, v15, v16, v18, v20, v22, v24, v26, v27, v28, rfl, b3, b5, b7, (ib_wk (by decide : Bd 0 (0) (0)) (by decide) (by decide)), b17, b19, b21, b23, b25⟩
  have c33 : S32 0 = .inr (12, [.int v1, .ref (ad 1), .ref (ad 2), .ref (ad 3), .ref (ad 4), .ref (ad 5), .int v2, .int v4, .int v6, .int v8, .int v9, .long w10, .int 0, .int (-1), .int v14, .int v15, .ref (ad 6), .ref (ad 7), .ref (ad 8), .ref (ad 9), .ref (ad 10), .ref (ad 11), .ref (ad 12), .ref (ad 13), .ref (ad 14), .ref (ad 15), .int v16, .int v18, .ref (ad 16), .int v20, .int v22, .int v24, .int v26, .int v27, .ref (ad 17), .ref (ad 18), .int v28, .ref (ad 19)]) := up_at eS32 rfl
  refine lv_aload_n hx hb dX12_begins_10 rfl (lv_at hl 0 rfl) ?_
  refine lv_iconst (v := 0) hx hb dX12_begins_11 (by decide) ?_
  refine xputi E hs hQ 0 (by decide) c33 rfl 7 (by decide) q1475 rfl rfl (Nat.le_of_ble_eq_true rfl) dX12_begins_12 (fun H locs S34 eS34 hQ => ?_)
  have hI := invM_up_0 hI eS34 ⟨v1, v2, 0, v6, v8, v9, w10, 0, (-1), v14, v15, v16, v18, v20, v22, v24, v26, v27, v28, rfl, b3, (ib_wk (by decide : Bd 0 (0) (0)) (by decide) (by decide)), b7, (ib_wk (by decide : Bd 0 (0) (0)) (by decide) (by decide)), b17, b19, b21, b23, b25⟩
  have c35 : S34 0 = .inr (12, [.int v1, .ref (ad 1), .ref (ad 2), .ref (ad 3), .ref (ad 4), .ref (ad 5), .int v2, .int 0, .int v6, .int v8, .int v9, .long w10, .int 0, .int (-1), .int v14, .int v15, .ref (ad 6), .ref (ad 7), .ref (ad 8), .ref (ad 9), .ref (ad 10), .ref (ad 11), .ref (ad 12), .ref (ad 13), .ref (ad 14), .ref (ad 15), .int v16, .int v18, .ref (ad 16), .int v20, .int v22, .int v24, .int v26, .int v27, .ref (ad 17), .ref (ad 18), .int v28, .ref (ad 19)]) := up_at eS34 rfl
  refine lv_aload_n hx hb dX12_begins_15 rfl (lv_at hl 0 rfl) ?_
  have q36 : fld (S34 0) 6 = v2.toInt := fld_of c35 rfl
  have q37 : fld (S34 0) 7 = (0 : Int32).toInt := fld_of c35 rfl
  have q37 : fld (S34 0) 7 = 0 := q37.trans (by decide)
  refine xcVv E hs hQ hml hl.1 0 (gX12_next_0 l g ad hD S34 hI (by omega)) mX12_next q1637 (by decide) c35 rfl rfl ⟨(Nat.le_of_ble_eq_true rfl), (Nat.le_of_ble_eq_true rfl)⟩ ⟨(Nat.le_of_ble_eq_true rfl), (Nat.le_of_ble_eq_true rfl)⟩ (Nat.le_of_ble_eq_true rfl) rfl dX12_begins_16 (fun S38 H locs hp38 hQ _ => ?_)
  obtain ⟨hI, o38, g38_0, g38_1, g38_2, g38_3, g38_4⟩ := hp38
  obtain ⟨v39, v40, v42, v44, v46, v47, w48, v49, v51, v52, v53, v54, v56, v58, v60, v62, v64, v65, v66, c67, b41, b43, b45, b50, b55, b57, b59, b61, b63⟩ := invM_0 hI
  have c67 : S38 0 = .inr (12, [.int v39, .ref (ad 1), .ref (ad 2), .ref (ad 3), .ref (ad 4), .ref (ad 5), .int v40, .int v42, .int v44, .int v46, .int v47, .long w48, .int v49, .int v51, .int v52, .int v53, .ref (ad 6), .ref (ad 7), .ref (ad 8), .ref (ad 9), .ref (ad 10), .ref (ad 11), .ref (ad 12), .ref (ad 13), .ref (ad 14), .ref (ad 15), .int v54, .int v56, .ref (ad 16), .int v58, .int v60, .int v62, .int v64, .int v65, .ref (ad 17), .ref (ad 18), .int v66, .ref (ad 19)]) := c67
  have q68 : fld (S38 0) 6 = v40.toInt := fld_of c67 rfl
  have q69 : fld (S38 0) 7 = v42.toInt := fld_of c67 rfl
  have q70 : fld (S34 0) 12 = (0 : Int32).toInt := fld_of c35 rfl
  have q70 : fld (S34 0) 12 = 0 := q70.trans (by decide)
  have q71 : fld (S38 0) 12 = v49.toInt := fld_of c67 rfl
  have b72 : Bd v49 (0) (0) := ⟨(b50).1, by omega⟩
  have q73 : fld (S38 0) 8 = v44.toInt := fld_of c67 rfl
  have q74 : fld (S 0) 6 = v2.toInt := fld_of c29 rfl
  exact xrv E hr hlk hQ (⟨hI, (o_trans (up_o (up_o (up_o o_refl eS30 (by decide)) eS32 (by decide)) eS34 (by decide)) o38 (by decide)), (by omega), ⟨by omega, by omega⟩, ⟨by omega, by omega⟩⟩) dX12_begins_19
set_option maxHeartbeats 4000000 in
set_option maxRecDepth 100000 in
theorem gX12_isOver_0 (l : Launch) (g : GG) (ad : Nat → Nat) (hD : Dj ad 20) (S : SS) (hI : InvM g ad S) : Met l yX12_isOver (wG (.code yX12_isOver cX12_isOver 1 none)) (Rm 0) (XPre g ad 20 S [.ref (ad 0)]) (va_Qv (fun S' => InvM g ad S' ∧ (∀ j, j ∉ ([0] : List Nat) → S' j = S j) ∧ (0 ≤ fld (S 0) 12 + (-1) * fld (S' 0) 12 ∧ 0 ≤ fld (S' 0) 12 + (-1) * fld (S 0) 12)) (QB g ad 20) (FA ad 20)) 0 0 (FA ad 20) := by
  refine xmet cX12_isOver "EbbWreckModel" (by decide) rfl (Nat.le_of_ble_eq_true rfl) (fun p e s m below meth c E hr hlk hml hQ ls hl => ?_)
  have hx := E.1
  have hb := E.2.1
  have hs : Sp ad 20 (FA ad 20) := Sp.fa hD
  have hl : lv_has ls 1 [(0, .ref (ad 0))] := hl
  obtain ⟨v1, v2, v4, v6, v8, v9, w10, v11, v13, v14, v15, v16, v18, v20, v22, v24, v26, v27, v28, c29, b3, b5, b7, b12, b17, b19, b21, b23, b25⟩ := invM_0 hI
  have c29 : S 0 = .inr (12, [.int v1, .ref (ad 1), .ref (ad 2), .ref (ad 3), .ref (ad 4), .ref (ad 5), .int v2, .int v4, .int v6, .int v8, .int v9, .long w10, .int v11, .int v13, .int v14, .int v15, .ref (ad 6), .ref (ad 7), .ref (ad 8), .ref (ad 9), .ref (ad 10), .ref (ad 11), .ref (ad 12), .ref (ad 13), .ref (ad 14), .ref (ad 15), .int v16, .int v18, .ref (ad 16), .int v20, .int v22, .int v24, .int v26, .int v27, .ref (ad 17), .ref (ad 18), .int v28, .ref (ad 19)]) := c29
  refine lv_aload_n hx hb dX12_isOver_0 rfl (lv_at hl 0 rfl) ?_
  refine lv_iconst (v := 0) hx hb dX12_isOver_1 (by decide) ?_
  refine xputi E hs hQ 0 (by decide) c29 rfl 6 (by decide) q1474 rfl rfl (Nat.le_of_ble_eq_true rfl) dX12_isOver_2 (fun H locs S30 eS30 hQ => ?_)
  have hI := invM_up_0 hI eS30 ⟨v1, 0, v4, v6, v8, v9, w10, v11, v13, v14, v15, v16, v18, v20, v22, v24, v26, v27, v28, rfl, (ib_wk (by decide : Bd 0 (0) (0)) (by decide) (by decide)), b5, b7, b12, b17, b19, b21, b23, b25⟩
  have c31 : S30 0 = .inr (12, [.int v1, .ref (ad 1), .ref (ad 2), .ref (ad 3), .ref (ad 4), .ref (ad 5), .int 0, .int v4, .int v6, .int v8, .int v9, .long w10, .int v11, .int v13, .int v14, .int v15, .ref (ad 6), .ref (ad 7), .ref (ad 8), .ref (ad 9), .ref (ad 10), .ref (ad 11), .ref (ad 12), .ref (ad 13), .ref (ad 14), .ref (ad 15), .int v16, .int v18, .ref (ad 16), .int v20, .int v22, .int v24, .int v26, .int v27, .ref (ad 17), .ref (ad 18), .int v28, .ref (ad 19)]) := up_at eS30 rfl
  refine lv_aload_n hx hb dX12_isOver_5 rfl (lv_at hl 0 rfl) ?_
  refine lv_aload_n hx hb dX12_isOver_6 rfl (lv_at hl 0 rfl) ?_
  refine xget E hQ 0 (by decide) c31 rfl 12 (by decide) q1480 rfl dX12_isOver_7 ?_
  refine xputi E hs hQ 0 (by decide) c31 rfl 14 (by decide) q1482 rfl rfl (Nat.le_of_ble_eq_true rfl) dX12_isOver_10 (fun H locs S32 eS32 hQ => ?_)
  have hI := invM_up_0 hI eS32 ⟨v1, 0, v4, v6, v8, v9, w10, v11, v13, v11, v15, v16, v18, v20, v22, v24, v26, v27, v28, rfl, (ib_wk (by decide : Bd 0 (0) (0)) (by decide) (by decide)), b5, b7, b12, b17, b19, b21, b23, b25⟩
  have c33 : S32 0 = .inr (12, [.int v1, .ref (ad 1), .ref (ad 2), .ref (ad 3), .ref (ad 4), .ref (ad 5), .int 0, .int v4, .int v6, .int v8, .int v9, .long w10, .int v11, .int v13, .int v11, .int v15, .ref (ad 6), .ref (ad 7), .ref (ad 8), .ref (ad 9), .ref (ad 10), .ref (ad 11), .ref (ad 12), .ref (ad 13), .ref (ad 14), .ref (ad 15), .int v16, .int v18, .ref (ad 16), .int v20, .int v22, .int v24, .int v26, .int v27, .ref (ad 17), .ref (ad 18), .int v28, .ref (ad 19)]) := up_at eS32 rfl
  refine lv_aload_n hx hb dX12_isOver_13 rfl (lv_at hl 0 rfl) ?_
  refine lv_aload_n hx hb dX12_isOver_14 rfl (lv_at hl 0 rfl) ?_
  refine xget E hQ 0 (by decide) c33 rfl 12 (by decide) q1480 rfl dX12_isOver_15 ?_
  refine lv_if_ne (tgt := 25) hx hb dX12_isOver_18 (by decide) (fun k34 => ?_) (fun k34 => ?_)
  · have h35 := ib_ne k34
    have b36 : Bd v11 (1) (3) := rf_nlo b12 (by decide : Bd 0 (0) (0)) h35
    refine lv_aload_n hx hb dX12_isOver_25 rfl (lv_at hl 0 rfl) ?_
    refine xget E hQ 0 (by decide) c33 rfl 13 (by decide) q1481 rfl dX12_isOver_26 ?_
    refine xputi E hs hQ 0 (by decide) c33 rfl 15 (by decide) q1483 rfl rfl (Nat.le_of_ble_eq_true rfl) dX12_isOver_29 (fun H locs S37 eS37 hQ => ?_)
    have hI := invM_up_0 hI eS37 ⟨v1, 0, v4, v6, v8, v9, w10, v11, v13, v11, v13, v16, v18, v20, v22, v24, v26, v27, v28, rfl, (ib_wk (by decide : Bd 0 (0) (0)) (by decide) (by decide)), b5, b7, (ib_wk b36 (by decide) (by decide)), b17, b19, b21, b23, b25⟩
    have c38 : S37 0 = .inr (12, [.int v1, .ref (ad 1), .ref (ad 2), .ref (ad 3), .ref (ad 4), .ref (ad 5), .int 0, .int v4, .int v6, .int v8, .int v9, .long w10, .int v11, .int v13, .int v11, .int v13, .ref (ad 6), .ref (ad 7), .ref (ad 8), .ref (ad 9), .ref (ad 10), .ref (ad 11), .ref (ad 12), .ref (ad 13), .ref (ad 14), .ref (ad 15), .int v16, .int v18, .ref (ad 16), .int v20, .int v22, .int v24, .int v26, .int v27, .ref (ad 17), .ref (ad 18), .int v28, .ref (ad 19)]) := up_at eS37 rfl
    have q39 : fld (S 0) 12 = v11.toInt := fld_of c29 rfl
    have q40 : fld (S37 0) 12 = v11.toInt := fld_of c38 rfl
    exact xrv E hr hlk hQ (⟨hI, (up_o (up_o (up_o o_refl eS30 (by decide)) eS32 (by decide)) eS37 (by decide)), ⟨by omega, by omega⟩⟩) dX12_isOver_32
  · have h41 := ib_eq k34
    have b42 : Bd v11 (0) (0) := ⟨(b12).1, ((rf_eq b12 (by decide : Bd 0 (0) (0)) h41).1).2⟩
    refine lv_iconst (v := (-1)) hx hb dX12_isOver_21 (by decide) ?_
    refine lv_goto (tgt := 29) hx hb dX12_isOver_22 (by decide) ?_
    refine xputi E hs hQ 0 (by decide) c33 rfl 15 (by decide) q1483 rfl rfl (Nat.le_of_ble_eq_true rfl) dX12_isOver_29 (fun H locs S43 eS43 hQ => ?_)
    have hI := invM_up_0 hI eS43 ⟨v1, 0, v4, v6, v8, v9, w10, v11, v13, v11, (-1), v16, v18, v20, v22, v24, v26, v27, v28, rfl, (ib_wk (by decide : Bd 0 (0) (0)) (by decide) (by decide)), b5, b7, (ib_wk b42 (by decide) (by decide)), b17, b19, b21, b23, b25⟩
    have c44 : S43 0 = .inr (12, [.int v1, .ref (ad 1), .ref (ad 2), .ref (ad 3), .ref (ad 4), .ref (ad 5), .int 0, .int v4, .int v6, .int v8, .int v9, .long w10, .int v11, .int v13, .int v11, .int (-1), .ref (ad 6), .ref (ad 7), .ref (ad 8), .ref (ad 9), .ref (ad 10), .ref (ad 11), .ref (ad 12), .ref (ad 13), .ref (ad 14), .ref (ad 15), .int v16, .int v18, .ref (ad 16), .int v20, .int v22, .int v24, .int v26, .int v27, .ref (ad 17), .ref (ad 18), .int v28, .ref (ad 19)]) := up_at eS43 rfl
    have q45 : fld (S 0) 12 = v11.toInt := fld_of c29 rfl
    have q46 : fld (S43 0) 12 = v11.toInt := fld_of c44 rfl
    exact xrv E hr hlk hQ (⟨hI, (up_o (up_o (up_o o_refl eS30 (by decide)) eS32 (by decide)) eS43 (by decide)), ⟨by omega, by omega⟩⟩) dX12_isOver_32
set_option maxHeartbeats 4000000 in
set_option maxRecDepth 100000 in
theorem gX12_hasRead_0 (l : Launch) (g : GG) (ad : Nat → Nat) (hD : Dj ad 20) (S : SS) (hI : InvM g ad S) : Met l yX12_hasRead (wG (.code yX12_hasRead cX12_hasRead 2 (some .int))) (Rm 0) (XPre g ad 20 S [.ref (ad 0), .int 0]) (va_Qi (fun r S' => S = S' ∧ Bd r (0) (12) ∧ (0 ≤ elm (S 7) 40 + (-1) * r.toInt ∧ 0 ≤ r.toInt + (-1) * elm (S 7) 40)) (QB g ad 20) (FA ad 20)) 0 0 (FA ad 20) := by
  refine xmet cX12_hasRead "EbbWreckModel" (by decide) rfl (Nat.le_of_ble_eq_true rfl) (fun p e s m below meth c E hr hlk hml hQ ls hl => ?_)
  have hx := E.1
  have hb := E.2.1
  have hs : Sp ad 20 (FA ad 20) := Sp.fa hD
  have hl : lv_has ls 2 [(0, .ref (ad 0)), (1, .int 0)] := hl
  obtain ⟨f1, c2, b3⟩ := invM_7 hI
  obtain ⟨v4, ee5⟩ : ∃ z : Int32, f1 40 = z := ⟨_, rfl⟩
  have b6 : Bd v4 (0) (12) := (by rw [← ee5]; exact b3.1 40 (by decide))
  refine lv_aload_n hx hb dX12_hasRead_0 rfl (lv_at hl 0 rfl) ?_
  obtain ⟨v7, v8, v10, v12, v14, v15, w16, v17, v19, v20, v21, v22, v24, v26, v28, v30, v32, v33, v34, c35, b9, b11, b13, b18, b23, b25, b27, b29, b31⟩ := invM_0 hI
  have c35 : S 0 = .inr (12, [.int v7, .ref (ad 1), .ref (ad 2), .ref (ad 3), .ref (ad 4), .ref (ad 5), .int v8, .int v10, .int v12, .int v14, .int v15, .long w16, .int v17, .int v19, .int v20, .int v21, .ref (ad 6), .ref (ad 7), .ref (ad 8), .ref (ad 9), .ref (ad 10), .ref (ad 11), .ref (ad 12), .ref (ad 13), .ref (ad 14), .ref (ad 15), .int v22, .int v24, .ref (ad 16), .int v26, .int v28, .int v30, .int v32, .int v33, .ref (ad 17), .ref (ad 18), .int v34, .ref (ad 19)]) := c35
  refine xget E hQ 0 (by decide) c35 rfl 17 (by decide) q1485 rfl dX12_hasRead_1 ?_
  refine lv_bipush (v := 40) hx hb dX12_hasRead_4 (by decide) ?_
  refine lv_iload_n hx hb dX12_hasRead_6 rfl (lv_at hl 1 rfl) ?_
  refine lv_iadd hx hb dX12_hasRead_7 ?_
  refine sb_at (P := fun z => W _ _ _ _ _ _ _ _ _ _ _ _ _ _ _ (F0 _ _ _ (.int z :: _))) (show (40 : Int32) + 0 = 40 by decide) ?_
  refine xiald E hQ 7 (by decide) c2 (vp_in_lit 40 50 (by decide)) dX12_hasRead_8 ?_
  refine sb_at (P := fun z => W _ _ _ _ _ _ _ _ _ _ _ _ _ _ _ (F0 _ _ _ (.int z :: _))) (show f1 (40 : Int32).toNatClampNeg = v4 from ee5) ?_
  have q36 : elm (S 7) 40 = v4.toInt := (elm_of c2 40).trans (congrArg Int32.toInt (ee5))
  exact xri E hr hlk hQ (⟨rfl, b6, ⟨by omega, by omega⟩⟩) dX12_hasRead_9
set_option maxHeartbeats 4000000 in
set_option maxRecDepth 100000 in
theorem gX12_hasRead_5 (l : Launch) (g : GG) (ad : Nat → Nat) (hD : Dj ad 20) (S : SS) (hI : InvM g ad S) : Met l yX12_hasRead (wG (.code yX12_hasRead cX12_hasRead 2 (some .int))) (Rm 0) (XPre g ad 20 S [.ref (ad 0), .int 5]) (va_Qi (fun _ S' => S = S') (QB g ad 20) (FA ad 20)) 0 0 (FA ad 20) := by
  refine xmet cX12_hasRead "EbbWreckModel" (by decide) rfl (Nat.le_of_ble_eq_true rfl) (fun p e s m below meth c E hr hlk hml hQ ls hl => ?_)
  have hx := E.1
  have hb := E.2.1
  have hs : Sp ad 20 (FA ad 20) := Sp.fa hD
  have hl : lv_has ls 2 [(0, .ref (ad 0)), (1, .int 5)] := hl
  refine lv_aload_n hx hb dX12_hasRead_0 rfl (lv_at hl 0 rfl) ?_
  obtain ⟨v1, v2, v4, v6, v8, v9, w10, v11, v13, v14, v15, v16, v18, v20, v22, v24, v26, v27, v28, c29, b3, b5, b7, b12, b17, b19, b21, b23, b25⟩ := invM_0 hI
  have c29 : S 0 = .inr (12, [.int v1, .ref (ad 1), .ref (ad 2), .ref (ad 3), .ref (ad 4), .ref (ad 5), .int v2, .int v4, .int v6, .int v8, .int v9, .long w10, .int v11, .int v13, .int v14, .int v15, .ref (ad 6), .ref (ad 7), .ref (ad 8), .ref (ad 9), .ref (ad 10), .ref (ad 11), .ref (ad 12), .ref (ad 13), .ref (ad 14), .ref (ad 15), .int v16, .int v18, .ref (ad 16), .int v20, .int v22, .int v24, .int v26, .int v27, .ref (ad 17), .ref (ad 18), .int v28, .ref (ad 19)]) := c29
  refine xget E hQ 0 (by decide) c29 rfl 17 (by decide) q1485 rfl dX12_hasRead_1 ?_
  refine lv_bipush (v := 40) hx hb dX12_hasRead_4 (by decide) ?_
  refine lv_iload_n hx hb dX12_hasRead_6 rfl (lv_at hl 1 rfl) ?_
  refine lv_iadd hx hb dX12_hasRead_7 ?_
  refine sb_at (P := fun z => W _ _ _ _ _ _ _ _ _ _ _ _ _ _ _ (F0 _ _ _ (.int z :: _))) (show (40 : Int32) + 5 = 45 by decide) ?_
  obtain ⟨f30, c31, b32⟩ := invM_7 hI
  refine xiald E hQ 7 (by decide) c31 (vp_in_lit 45 50 (by decide)) dX12_hasRead_8 ?_
  obtain ⟨v33, ee34⟩ : ∃ z : Int32, f30 45 = z := ⟨_, rfl⟩
  refine sb_at (P := fun z => W _ _ _ _ _ _ _ _ _ _ _ _ _ _ _ (F0 _ _ _ (.int z :: _))) (show f30 (45 : Int32).toNatClampNeg = v33 from ee34) ?_
  exact xri E hr hlk hQ (rfl) dX12_hasRead_9
set_option maxHeartbeats 4000000 in
set_option maxRecDepth 100000 in
theorem gX12_hasRead_6 (l : Launch) (g : GG) (ad : Nat → Nat) (hD : Dj ad 20) (S : SS) (hI : InvM g ad S) : Met l yX12_hasRead (wG (.code yX12_hasRead cX12_hasRead 2 (some .int))) (Rm 0) (XPre g ad 20 S [.ref (ad 0), .int 6]) (va_Qi (fun r S' => S = S' ∧ Bd r (0) (8) ∧ (0 ≤ elm (S 7) 46 + (-1) * r.toInt ∧ 0 ≤ r.toInt + (-1) * elm (S 7) 46)) (QB g ad 20) (FA ad 20)) 0 0 (FA ad 20) := by
  refine xmet cX12_hasRead "EbbWreckModel" (by decide) rfl (Nat.le_of_ble_eq_true rfl) (fun p e s m below meth c E hr hlk hml hQ ls hl => ?_)
  have hx := E.1
  have hb := E.2.1
  have hs : Sp ad 20 (FA ad 20) := Sp.fa hD
  have hl : lv_has ls 2 [(0, .ref (ad 0)), (1, .int 6)] := hl
  obtain ⟨f1, c2, b3⟩ := invM_7 hI
  obtain ⟨v4, ee5⟩ : ∃ z : Int32, f1 46 = z := ⟨_, rfl⟩
  have b6 : Bd v4 (0) (8) := (by rw [← ee5]; exact b3.2.2.2.2.1 46 (by decide))
  refine lv_aload_n hx hb dX12_hasRead_0 rfl (lv_at hl 0 rfl) ?_
  obtain ⟨v7, v8, v10, v12, v14, v15, w16, v17, v19, v20, v21, v22, v24, v26, v28, v30, v32, v33, v34, c35, b9, b11, b13, b18, b23, b25, b27, b29, b31⟩ := invM_0 hI
  have c35 : S 0 = .inr (12, [.int v7, .ref (ad 1), .ref (ad 2), .ref (ad 3), .ref (ad 4), .ref (ad 5), .int v8, .int v10, .int v12, .int v14, .int v15, .long w16, .int v17, .int v19, .int v20, .int v21, .ref (ad 6), .ref (ad 7), .ref (ad 8), .ref (ad 9), .ref (ad 10), .ref (ad 11), .ref (ad 12), .ref (ad 13), .ref (ad 14), .ref (ad 15), .int v22, .int v24, .ref (ad 16), .int v26, .int v28, .int v30, .int v32, .int v33, .ref (ad 17), .ref (ad 18), .int v34, .ref (ad 19)]) := c35
  refine xget E hQ 0 (by decide) c35 rfl 17 (by decide) q1485 rfl dX12_hasRead_1 ?_
  refine lv_bipush (v := 40) hx hb dX12_hasRead_4 (by decide) ?_
  refine lv_iload_n hx hb dX12_hasRead_6 rfl (lv_at hl 1 rfl) ?_
  refine lv_iadd hx hb dX12_hasRead_7 ?_
  refine sb_at (P := fun z => W _ _ _ _ _ _ _ _ _ _ _ _ _ _ _ (F0 _ _ _ (.int z :: _))) (show (40 : Int32) + 6 = 46 by decide) ?_
  refine xiald E hQ 7 (by decide) c2 (vp_in_lit 46 50 (by decide)) dX12_hasRead_8 ?_
  refine sb_at (P := fun z => W _ _ _ _ _ _ _ _ _ _ _ _ _ _ _ (F0 _ _ _ (.int z :: _))) (show f1 (46 : Int32).toNatClampNeg = v4 from ee5) ?_
  have q36 : elm (S 7) 46 = v4.toInt := (elm_of c2 46).trans (congrArg Int32.toInt (ee5))
  exact xri E hr hlk hQ (⟨rfl, b6, ⟨by omega, by omega⟩⟩) dX12_hasRead_9
set_option maxHeartbeats 4000000 in
set_option maxRecDepth 100000 in
theorem gX12_hasRead_7 (l : Launch) (g : GG) (ad : Nat → Nat) (hD : Dj ad 20) (S : SS) (hI : InvM g ad S) : Met l yX12_hasRead (wG (.code yX12_hasRead cX12_hasRead 2 (some .int))) (Rm 0) (XPre g ad 20 S [.ref (ad 0), .int 7]) (va_Qi (fun r S' => S = S' ∧ Bd r (0) (6) ∧ (0 ≤ elm (S 7) 47 + (-1) * r.toInt ∧ 0 ≤ r.toInt + (-1) * elm (S 7) 47)) (QB g ad 20) (FA ad 20)) 0 0 (FA ad 20) := by
  refine xmet cX12_hasRead "EbbWreckModel" (by decide) rfl (Nat.le_of_ble_eq_true rfl) (fun p e s m below meth c E hr hlk hml hQ ls hl => ?_)
  have hx := E.1
  have hb := E.2.1
  have hs : Sp ad 20 (FA ad 20) := Sp.fa hD
  have hl : lv_has ls 2 [(0, .ref (ad 0)), (1, .int 7)] := hl
  obtain ⟨f1, c2, b3⟩ := invM_7 hI
  obtain ⟨v4, ee5⟩ : ∃ z : Int32, f1 47 = z := ⟨_, rfl⟩
  have b6 : Bd v4 (0) (6) := (by rw [← ee5]; exact b3.2.2.2.2.2.1 47 (by decide))
  refine lv_aload_n hx hb dX12_hasRead_0 rfl (lv_at hl 0 rfl) ?_
  obtain ⟨v7, v8, v10, v12, v14, v15, w16, v17, v19, v20, v21, v22, v24, v26, v28, v30, v32, v33, v34, c35, b9, b11, b13, b18, b23, b25, b27, b29, b31⟩ := invM_0 hI
  have c35 : S 0 = .inr (12, [.int v7, .ref (ad 1), .ref (ad 2), .ref (ad 3), .ref (ad 4), .ref (ad 5), .int v8, .int v10, .int v12, .int v14, .int v15, .long w16, .int v17, .int v19, .int v20, .int v21, .ref (ad 6), .ref (ad 7), .ref (ad 8), .ref (ad 9), .ref (ad 10), .ref (ad 11), .ref (ad 12), .ref (ad 13), .ref (ad 14), .ref (ad 15), .int v22, .int v24, .ref (ad 16), .int v26, .int v28, .int v30, .int v32, .int v33, .ref (ad 17), .ref (ad 18), .int v34, .ref (ad 19)]) := c35
  refine xget E hQ 0 (by decide) c35 rfl 17 (by decide) q1485 rfl dX12_hasRead_1 ?_
  refine lv_bipush (v := 40) hx hb dX12_hasRead_4 (by decide) ?_
  refine lv_iload_n hx hb dX12_hasRead_6 rfl (lv_at hl 1 rfl) ?_
  refine lv_iadd hx hb dX12_hasRead_7 ?_
  refine sb_at (P := fun z => W _ _ _ _ _ _ _ _ _ _ _ _ _ _ _ (F0 _ _ _ (.int z :: _))) (show (40 : Int32) + 7 = 47 by decide) ?_
  refine xiald E hQ 7 (by decide) c2 (vp_in_lit 47 50 (by decide)) dX12_hasRead_8 ?_
  refine sb_at (P := fun z => W _ _ _ _ _ _ _ _ _ _ _ _ _ _ _ (F0 _ _ _ (.int z :: _))) (show f1 (47 : Int32).toNatClampNeg = v4 from ee5) ?_
  have q36 : elm (S 7) 47 = v4.toInt := (elm_of c2 47).trans (congrArg Int32.toInt (ee5))
  exact xri E hr hlk hQ (⟨rfl, b6, ⟨by omega, by omega⟩⟩) dX12_hasRead_9
set_option maxHeartbeats 4000000 in
set_option maxRecDepth 100000 in
theorem gX12_hasRead_8 (l : Launch) (g : GG) (ad : Nat → Nat) (hD : Dj ad 20) (S : SS) (hI : InvM g ad S) : Met l yX12_hasRead (wG (.code yX12_hasRead cX12_hasRead 2 (some .int))) (Rm 0) (XPre g ad 20 S [.ref (ad 0), .int 8]) (va_Qi (fun r S' => S = S' ∧ Bd r (0) (3) ∧ (0 ≤ elm (S 7) 48 + (-1) * r.toInt ∧ 0 ≤ r.toInt + (-1) * elm (S 7) 48)) (QB g ad 20) (FA ad 20)) 0 0 (FA ad 20) := by
  refine xmet cX12_hasRead "EbbWreckModel" (by decide) rfl (Nat.le_of_ble_eq_true rfl) (fun p e s m below meth c E hr hlk hml hQ ls hl => ?_)
  have hx := E.1
  have hb := E.2.1
  have hs : Sp ad 20 (FA ad 20) := Sp.fa hD
  have hl : lv_has ls 2 [(0, .ref (ad 0)), (1, .int 8)] := hl
  obtain ⟨f1, c2, b3⟩ := invM_7 hI
  obtain ⟨v4, ee5⟩ : ∃ z : Int32, f1 48 = z := ⟨_, rfl⟩
  have b6 : Bd v4 (0) (3) := (by rw [← ee5]; exact b3.2.2.2.2.2.2.1 48 (by decide))
  refine lv_aload_n hx hb dX12_hasRead_0 rfl (lv_at hl 0 rfl) ?_
  obtain ⟨v7, v8, v10, v12, v14, v15, w16, v17, v19, v20, v21, v22, v24, v26, v28, v30, v32, v33, v34, c35, b9, b11, b13, b18, b23, b25, b27, b29, b31⟩ := invM_0 hI
  have c35 : S 0 = .inr (12, [.int v7, .ref (ad 1), .ref (ad 2), .ref (ad 3), .ref (ad 4), .ref (ad 5), .int v8, .int v10, .int v12, .int v14, .int v15, .long w16, .int v17, .int v19, .int v20, .int v21, .ref (ad 6), .ref (ad 7), .ref (ad 8), .ref (ad 9), .ref (ad 10), .ref (ad 11), .ref (ad 12), .ref (ad 13), .ref (ad 14), .ref (ad 15), .int v22, .int v24, .ref (ad 16), .int v26, .int v28, .int v30, .int v32, .int v33, .ref (ad 17), .ref (ad 18), .int v34, .ref (ad 19)]) := c35
  refine xget E hQ 0 (by decide) c35 rfl 17 (by decide) q1485 rfl dX12_hasRead_1 ?_
  refine lv_bipush (v := 40) hx hb dX12_hasRead_4 (by decide) ?_
  refine lv_iload_n hx hb dX12_hasRead_6 rfl (lv_at hl 1 rfl) ?_
  refine lv_iadd hx hb dX12_hasRead_7 ?_
  refine sb_at (P := fun z => W _ _ _ _ _ _ _ _ _ _ _ _ _ _ _ (F0 _ _ _ (.int z :: _))) (show (40 : Int32) + 8 = 48 by decide) ?_
  refine xiald E hQ 7 (by decide) c2 (vp_in_lit 48 50 (by decide)) dX12_hasRead_8 ?_
  refine sb_at (P := fun z => W _ _ _ _ _ _ _ _ _ _ _ _ _ _ _ (F0 _ _ _ (.int z :: _))) (show f1 (48 : Int32).toNatClampNeg = v4 from ee5) ?_
  have q36 : elm (S 7) 48 = v4.toInt := (elm_of c2 48).trans (congrArg Int32.toInt (ee5))
  exact xri E hr hlk hQ (⟨rfl, b6, ⟨by omega, by omega⟩⟩) dX12_hasRead_9
set_option maxHeartbeats 4000000 in
set_option maxRecDepth 100000 in
theorem gX12_tells_0 (l : Launch) (g : GG) (ad : Nat → Nat) (hD : Dj ad 20) (S : SS) (hI : InvM g ad S) (a2 : Int32) (ba2 : Bd a2 (0) (12)) : Met l yX12_tells (wG (.code yX12_tells cX12_tells 3 none)) (Rm 0) (XPre g ad 20 S [.ref (ad 0), .int 0, .int a2]) (va_Qv (fun S' => InvM g ad S' ∧ (∀ j, j ∉ ([7] : List Nat) → S' j = S j) ∧ (0 ≤ a2.toInt + (-1) * elm (S' 7) 40 ∧ 0 ≤ elm (S' 7) 40 + (-1) * a2.toInt) ∧ (0 ≤ elm (S 7) 41 + (-1) * elm (S' 7) 41 ∧ 0 ≤ elm (S' 7) 41 + (-1) * elm (S 7) 41) ∧ (0 ≤ elm (S 7) 43 + (-1) * elm (S' 7) 43 ∧ 0 ≤ elm (S' 7) 43 + (-1) * elm (S 7) 43) ∧ (0 ≤ elm (S 7) 46 + (-1) * elm (S' 7) 46 ∧ 0 ≤ elm (S' 7) 46 + (-1) * elm (S 7) 46) ∧ (0 ≤ elm (S 7) 47 + (-1) * elm (S' 7) 47 ∧ 0 ≤ elm (S' 7) 47 + (-1) * elm (S 7) 47) ∧ (0 ≤ elm (S 7) 48 + (-1) * elm (S' 7) 48 ∧ 0 ≤ elm (S' 7) 48 + (-1) * elm (S 7) 48) ∧ (0 ≤ elm (S 7) 49 + (-1) * elm (S' 7) 49 ∧ 0 ≤ elm (S' 7) 49 + (-1) * elm (S 7) 49) ∧ EFp (S' 7) (S 7) 0 40) (QB g ad 20) (FA ad 20)) 0 0 (FA ad 20) := by
  refine xmet cX12_tells "EbbWreckModel" (by decide) rfl (Nat.le_of_ble_eq_true rfl) (fun p e s m below meth c E hr hlk hml hQ ls hl => ?_)
  have hx := E.1
  have hb := E.2.1
  have hs : Sp ad 20 (FA ad 20) := Sp.fa hD
  have hl : lv_has ls 3 [(0, .ref (ad 0)), (1, .int 0), (2, .int a2)] := hl
  obtain ⟨f1, c2, b3⟩ := invM_7 hI
  obtain ⟨v4, ee5⟩ : ∃ z : Int32, f1 40 = z := ⟨_, rfl⟩
  have b6 : Bd v4 (0) (12) := (by rw [← ee5]; exact b3.1 40 (by decide))
  obtain ⟨v7, ee8⟩ : ∃ z : Int32, f1 41 = z := ⟨_, rfl⟩
  have b9 : Bd v7 (0) (12) := (by rw [← ee8]; exact b3.2.1 41 (by decide))
  obtain ⟨v10, ee11⟩ : ∃ z : Int32, f1 43 = z := ⟨_, rfl⟩
  have b12 : Bd v10 (0) (12) := (by rw [← ee11]; exact b3.2.2.2.1 43 (by decide))
  obtain ⟨v13, ee14⟩ : ∃ z : Int32, f1 46 = z := ⟨_, rfl⟩
  have b15 : Bd v13 (0) (8) := (by rw [← ee14]; exact b3.2.2.2.2.1 46 (by decide))
  obtain ⟨v16, ee17⟩ : ∃ z : Int32, f1 47 = z := ⟨_, rfl⟩
  have b18 : Bd v16 (0) (6) := (by rw [← ee17]; exact b3.2.2.2.2.2.1 47 (by decide))
  obtain ⟨v19, ee20⟩ : ∃ z : Int32, f1 48 = z := ⟨_, rfl⟩
  have b21 : Bd v19 (0) (3) := (by rw [← ee20]; exact b3.2.2.2.2.2.2.1 48 (by decide))
  obtain ⟨v22, ee23⟩ : ∃ z : Int32, f1 49 = z := ⟨_, rfl⟩
  have b24 : Bd v22 (0) (40) := (by rw [← ee23]; exact b3.2.2.2.2.2.2.2 49 (by decide))
  have ef7_0 : EFp (S 7) (S 7) 0 40 := fun _ _ _ => rfl
  refine lv_aload_n hx hb dX12_tells_0 rfl (lv_at hl 0 rfl) ?_
  obtain ⟨v25, v26, v28, v30, v32, v33, w34, v35, v37, v38, v39, v40, v42, v44, v46, v48, v50, v51, v52, c53, b27, b29, b31, b36, b41, b43, b45, b47, b49⟩ := invM_0 hI
  have c53 : S 0 = .inr (12, [.int v25, .ref (ad 1), .ref (ad 2), .ref (ad 3), .ref (ad 4), .ref (ad 5), .int v26, .int v28, .int v30, .int v32, .int v33, .long w34, .int v35, .int v37, .int v38, .int v39, .ref (ad 6), .ref (ad 7), .ref (ad 8), .ref (ad 9), .ref (ad 10), .ref (ad 11), .ref (ad 12), .ref (ad 13), .ref (ad 14), .ref (ad 15), .int v40, .int v42, .ref (ad 16), .int v44, .int v46, .int v48, .int v50, .int v51, .ref (ad 17), .ref (ad 18), .int v52, .ref (ad 19)]) := c53
  refine xget E hQ 0 (by decide) c53 rfl 17 (by decide) q1485 rfl dX12_tells_1 ?_
  refine lv_bipush (v := 40) hx hb dX12_tells_4 (by decide) ?_
  refine lv_iload_n hx hb dX12_tells_6 rfl (lv_at hl 1 rfl) ?_
  refine lv_iadd hx hb dX12_tells_7 ?_
  refine sb_at (P := fun z => W _ _ _ _ _ _ _ _ _ _ _ _ _ _ _ (F0 _ _ _ (.int z :: _))) (show (40 : Int32) + 0 = 40 by decide) ?_
  refine lv_iload_n hx hb dX12_tells_8 rfl (lv_at hl 2 rfl) ?_
  refine xiast E hs hQ 7 (by decide) c2 (vp_in_lit 40 50 (by decide)) dX12_tells_9 (fun H locs S54 eS54 hQ => ?_)
  have hI := invM_up_7 hI eS54 ⟨_, rfl, ⟨upd_m b3.1 ba2, upd_mn b3.2.1 (by decide), upd_mn b3.2.2.1 (by decide), upd_mn b3.2.2.2.1 (by decide), upd_mn b3.2.2.2.2.1 (by decide), upd_mn b3.2.2.2.2.2.1 (by decide), upd_mn b3.2.2.2.2.2.2.1 (by decide), upd_mn b3.2.2.2.2.2.2.2 (by decide)⟩⟩
  have b56 : (∀ j, j % 10 = 0 → Bd ((upd f1 (40 : Int32).toNatClampNeg a2) j) (0) (12)) ∧ (∀ j, j % 10 = 1 → Bd ((upd f1 (40 : Int32).toNatClampNeg a2) j) (0) (12)) ∧ (∀ j, j % 10 = 2 → Bd ((upd f1 (40 : Int32).toNatClampNeg a2) j) (0) (6)) ∧ (∀ j, j % 10 = 3 → Bd ((upd f1 (40 : Int32).toNatClampNeg a2) j) (0) (12)) ∧ (∀ j, j % 10 = 6 → Bd ((upd f1 (40 : Int32).toNatClampNeg a2) j) (0) (8)) ∧ (∀ j, j % 10 = 7 → Bd ((upd f1 (40 : Int32).toNatClampNeg a2) j) (0) (6)) ∧ (∀ j, j % 10 = 8 → Bd ((upd f1 (40 : Int32).toNatClampNeg a2) j) (0) (3)) ∧ (∀ j, j % 10 = 9 → Bd ((upd f1 (40 : Int32).toNatClampNeg a2) j) (0) (40)) := ⟨upd_m b3.1 ba2, upd_mn b3.2.1 (by decide), upd_mn b3.2.2.1 (by decide), upd_mn b3.2.2.2.1 (by decide), upd_mn b3.2.2.2.2.1 (by decide), upd_mn b3.2.2.2.2.2.1 (by decide), upd_mn b3.2.2.2.2.2.2.1 (by decide), upd_mn b3.2.2.2.2.2.2.2 (by decide)⟩
  have c55 : S54 7 = .inl (g.2 0, 50, .inl (upd f1 (40 : Int32).toNatClampNeg a2)) := up_at eS54 rfl
  have ef57 : EFp (S54 7) (S 7) 0 40 := ef_up ef7_0 c2 c55 (by decide)
  have q58 : elm (S54 7) 40 = a2.toInt := (elm_of c55 40).trans (congrArg Int32.toInt ((upd_s)))
  have q59 : elm (S 7) 41 = v7.toInt := (elm_of c2 41).trans (congrArg Int32.toInt (ee8))
  have q60 : elm (S54 7) 41 = v7.toInt := (elm_of c55 41).trans (congrArg Int32.toInt (((upd_o (by decide)).trans (ee8))))
  have q61 : elm (S 7) 43 = v10.toInt := (elm_of c2 43).trans (congrArg Int32.toInt (ee11))
  have q62 : elm (S54 7) 43 = v10.toInt := (elm_of c55 43).trans (congrArg Int32.toInt (((upd_o (by decide)).trans (ee11))))
  have q63 : elm (S 7) 46 = v13.toInt := (elm_of c2 46).trans (congrArg Int32.toInt (ee14))
  have q64 : elm (S54 7) 46 = v13.toInt := (elm_of c55 46).trans (congrArg Int32.toInt (((upd_o (by decide)).trans (ee14))))
  have q65 : elm (S 7) 47 = v16.toInt := (elm_of c2 47).trans (congrArg Int32.toInt (ee17))
  have q66 : elm (S54 7) 47 = v16.toInt := (elm_of c55 47).trans (congrArg Int32.toInt (((upd_o (by decide)).trans (ee17))))
  have q67 : elm (S 7) 48 = v19.toInt := (elm_of c2 48).trans (congrArg Int32.toInt (ee20))
  have q68 : elm (S54 7) 48 = v19.toInt := (elm_of c55 48).trans (congrArg Int32.toInt (((upd_o (by decide)).trans (ee20))))
  have q69 : elm (S 7) 49 = v22.toInt := (elm_of c2 49).trans (congrArg Int32.toInt (ee23))
  have q70 : elm (S54 7) 49 = v22.toInt := (elm_of c55 49).trans (congrArg Int32.toInt (((upd_o (by decide)).trans (ee23))))
  exact xrv E hr hlk hQ (⟨hI, (up_o o_refl eS54 (by decide)), ⟨by omega, by omega⟩, ⟨by omega, by omega⟩, ⟨by omega, by omega⟩, ⟨by omega, by omega⟩, ⟨by omega, by omega⟩, ⟨by omega, by omega⟩, ⟨by omega, by omega⟩, ef57⟩) dX12_tells_10
set_option maxHeartbeats 4000000 in
set_option maxRecDepth 100000 in
theorem gX12_tells_1 (l : Launch) (g : GG) (ad : Nat → Nat) (hD : Dj ad 20) (S : SS) (hI : InvM g ad S) (a2 : Int32) (ba2 : Bd a2 (0) (12)) : Met l yX12_tells (wG (.code yX12_tells cX12_tells 3 none)) (Rm 0) (XPre g ad 20 S [.ref (ad 0), .int 1, .int a2]) (va_Qv (fun S' => InvM g ad S' ∧ (∀ j, j ∉ ([7] : List Nat) → S' j = S j) ∧ (0 ≤ a2.toInt + (-1) * elm (S' 7) 41 ∧ 0 ≤ elm (S' 7) 41 + (-1) * a2.toInt) ∧ (0 ≤ elm (S 7) 40 + (-1) * elm (S' 7) 40 ∧ 0 ≤ elm (S' 7) 40 + (-1) * elm (S 7) 40) ∧ (0 ≤ elm (S 7) 43 + (-1) * elm (S' 7) 43 ∧ 0 ≤ elm (S' 7) 43 + (-1) * elm (S 7) 43) ∧ (0 ≤ elm (S 7) 46 + (-1) * elm (S' 7) 46 ∧ 0 ≤ elm (S' 7) 46 + (-1) * elm (S 7) 46) ∧ (0 ≤ elm (S 7) 47 + (-1) * elm (S' 7) 47 ∧ 0 ≤ elm (S' 7) 47 + (-1) * elm (S 7) 47) ∧ (0 ≤ elm (S 7) 48 + (-1) * elm (S' 7) 48 ∧ 0 ≤ elm (S' 7) 48 + (-1) * elm (S 7) 48) ∧ (0 ≤ elm (S 7) 49 + (-1) * elm (S' 7) 49 ∧ 0 ≤ elm (S' 7) 49 + (-1) * elm (S 7) 49) ∧ EFp (S' 7) (S 7) 0 40) (QB g ad 20) (FA ad 20)) 0 0 (FA ad 20) := by
  refine xmet cX12_tells "EbbWreckModel" (by decide) rfl (Nat.le_of_ble_eq_true rfl) (fun p e s m below meth c E hr hlk hml hQ ls hl => ?_)
  have hx := E.1
  have hb := E.2.1
  have hs : Sp ad 20 (FA ad 20) := Sp.fa hD
  have hl : lv_has ls 3 [(0, .ref (ad 0)), (1, .int 1), (2, .int a2)] := hl
  obtain ⟨f1, c2, b3⟩ := invM_7 hI
  obtain ⟨v4, ee5⟩ : ∃ z : Int32, f1 41 = z := ⟨_, rfl⟩
  have b6 : Bd v4 (0) (12) := (by rw [← ee5]; exact b3.2.1 41 (by decide))
  obtain ⟨v7, ee8⟩ : ∃ z : Int32, f1 40 = z := ⟨_, rfl⟩
  have b9 : Bd v7 (0) (12) := (by rw [← ee8]; exact b3.1 40 (by decide))
  obtain ⟨v10, ee11⟩ : ∃ z : Int32, f1 43 = z := ⟨_, rfl⟩
  have b12 : Bd v10 (0) (12) := (by rw [← ee11]; exact b3.2.2.2.1 43 (by decide))
  obtain ⟨v13, ee14⟩ : ∃ z : Int32, f1 46 = z := ⟨_, rfl⟩
  have b15 : Bd v13 (0) (8) := (by rw [← ee14]; exact b3.2.2.2.2.1 46 (by decide))
  obtain ⟨v16, ee17⟩ : ∃ z : Int32, f1 47 = z := ⟨_, rfl⟩
  have b18 : Bd v16 (0) (6) := (by rw [← ee17]; exact b3.2.2.2.2.2.1 47 (by decide))
  obtain ⟨v19, ee20⟩ : ∃ z : Int32, f1 48 = z := ⟨_, rfl⟩
  have b21 : Bd v19 (0) (3) := (by rw [← ee20]; exact b3.2.2.2.2.2.2.1 48 (by decide))
  obtain ⟨v22, ee23⟩ : ∃ z : Int32, f1 49 = z := ⟨_, rfl⟩
  have b24 : Bd v22 (0) (40) := (by rw [← ee23]; exact b3.2.2.2.2.2.2.2 49 (by decide))
  have ef7_0 : EFp (S 7) (S 7) 0 40 := fun _ _ _ => rfl
  refine lv_aload_n hx hb dX12_tells_0 rfl (lv_at hl 0 rfl) ?_
  obtain ⟨v25, v26, v28, v30, v32, v33, w34, v35, v37, v38, v39, v40, v42, v44, v46, v48, v50, v51, v52, c53, b27, b29, b31, b36, b41, b43, b45, b47, b49⟩ := invM_0 hI
  have c53 : S 0 = .inr (12, [.int v25, .ref (ad 1), .ref (ad 2), .ref (ad 3), .ref (ad 4), .ref (ad 5), .int v26, .int v28, .int v30, .int v32, .int v33, .long w34, .int v35, .int v37, .int v38, .int v39, .ref (ad 6), .ref (ad 7), .ref (ad 8), .ref (ad 9), .ref (ad 10), .ref (ad 11), .ref (ad 12), .ref (ad 13), .ref (ad 14), .ref (ad 15), .int v40, .int v42, .ref (ad 16), .int v44, .int v46, .int v48, .int v50, .int v51, .ref (ad 17), .ref (ad 18), .int v52, .ref (ad 19)]) := c53
  refine xget E hQ 0 (by decide) c53 rfl 17 (by decide) q1485 rfl dX12_tells_1 ?_
  refine lv_bipush (v := 40) hx hb dX12_tells_4 (by decide) ?_
  refine lv_iload_n hx hb dX12_tells_6 rfl (lv_at hl 1 rfl) ?_
  refine lv_iadd hx hb dX12_tells_7 ?_
  refine sb_at (P := fun z => W _ _ _ _ _ _ _ _ _ _ _ _ _ _ _ (F0 _ _ _ (.int z :: _))) (show (40 : Int32) + 1 = 41 by decide) ?_
  refine lv_iload_n hx hb dX12_tells_8 rfl (lv_at hl 2 rfl) ?_
  refine xiast E hs hQ 7 (by decide) c2 (vp_in_lit 41 50 (by decide)) dX12_tells_9 (fun H locs S54 eS54 hQ => ?_)
  have hI := invM_up_7 hI eS54 ⟨_, rfl, ⟨upd_mn b3.1 (by decide), upd_m b3.2.1 ba2, upd_mn b3.2.2.1 (by decide), upd_mn b3.2.2.2.1 (by decide), upd_mn b3.2.2.2.2.1 (by decide), upd_mn b3.2.2.2.2.2.1 (by decide), upd_mn b3.2.2.2.2.2.2.1 (by decide), upd_mn b3.2.2.2.2.2.2.2 (by decide)⟩⟩
  have b56 : (∀ j, j % 10 = 0 → Bd ((upd f1 (41 : Int32).toNatClampNeg a2) j) (0) (12)) ∧ (∀ j, j % 10 = 1 → Bd ((upd f1 (41 : Int32).toNatClampNeg a2) j) (0) (12)) ∧ (∀ j, j % 10 = 2 → Bd ((upd f1 (41 : Int32).toNatClampNeg a2) j) (0) (6)) ∧ (∀ j, j % 10 = 3 → Bd ((upd f1 (41 : Int32).toNatClampNeg a2) j) (0) (12)) ∧ (∀ j, j % 10 = 6 → Bd ((upd f1 (41 : Int32).toNatClampNeg a2) j) (0) (8)) ∧ (∀ j, j % 10 = 7 → Bd ((upd f1 (41 : Int32).toNatClampNeg a2) j) (0) (6)) ∧ (∀ j, j % 10 = 8 → Bd ((upd f1 (41 : Int32).toNatClampNeg a2) j) (0) (3)) ∧ (∀ j, j % 10 = 9 → Bd ((upd f1 (41 : Int32).toNatClampNeg a2) j) (0) (40)) := ⟨upd_mn b3.1 (by decide), upd_m b3.2.1 ba2, upd_mn b3.2.2.1 (by decide), upd_mn b3.2.2.2.1 (by decide), upd_mn b3.2.2.2.2.1 (by decide), upd_mn b3.2.2.2.2.2.1 (by decide), upd_mn b3.2.2.2.2.2.2.1 (by decide), upd_mn b3.2.2.2.2.2.2.2 (by decide)⟩
  have c55 : S54 7 = .inl (g.2 0, 50, .inl (upd f1 (41 : Int32).toNatClampNeg a2)) := up_at eS54 rfl
  have ef57 : EFp (S54 7) (S 7) 0 40 := ef_up ef7_0 c2 c55 (by decide)
  have q58 : elm (S54 7) 41 = a2.toInt := (elm_of c55 41).trans (congrArg Int32.toInt ((upd_s)))
  have q59 : elm (S 7) 40 = v7.toInt := (elm_of c2 40).trans (congrArg Int32.toInt (ee8))
  have q60 : elm (S54 7) 40 = v7.toInt := (elm_of c55 40).trans (congrArg Int32.toInt (((upd_o (by decide)).trans (ee8))))
  have q61 : elm (S 7) 43 = v10.toInt := (elm_of c2 43).trans (congrArg Int32.toInt (ee11))
  have q62 : elm (S54 7) 43 = v10.toInt := (elm_of c55 43).trans (congrArg Int32.toInt (((upd_o (by decide)).trans (ee11))))
  have q63 : elm (S 7) 46 = v13.toInt := (elm_of c2 46).trans (congrArg Int32.toInt (ee14))
  have q64 : elm (S54 7) 46 = v13.toInt := (elm_of c55 46).trans (congrArg Int32.toInt (((upd_o (by decide)).trans (ee14))))
  have q65 : elm (S 7) 47 = v16.toInt := (elm_of c2 47).trans (congrArg Int32.toInt (ee17))
  have q66 : elm (S54 7) 47 = v16.toInt := (elm_of c55 47).trans (congrArg Int32.toInt (((upd_o (by decide)).trans (ee17))))
  have q67 : elm (S 7) 48 = v19.toInt := (elm_of c2 48).trans (congrArg Int32.toInt (ee20))
  have q68 : elm (S54 7) 48 = v19.toInt := (elm_of c55 48).trans (congrArg Int32.toInt (((upd_o (by decide)).trans (ee20))))
  have q69 : elm (S 7) 49 = v22.toInt := (elm_of c2 49).trans (congrArg Int32.toInt (ee23))
  have q70 : elm (S54 7) 49 = v22.toInt := (elm_of c55 49).trans (congrArg Int32.toInt (((upd_o (by decide)).trans (ee23))))
  exact xrv E hr hlk hQ (⟨hI, (up_o o_refl eS54 (by decide)), ⟨by omega, by omega⟩, ⟨by omega, by omega⟩, ⟨by omega, by omega⟩, ⟨by omega, by omega⟩, ⟨by omega, by omega⟩, ⟨by omega, by omega⟩, ⟨by omega, by omega⟩, ef57⟩) dX12_tells_10
set_option maxHeartbeats 4000000 in
set_option maxRecDepth 100000 in
theorem gX12_tells_2 (l : Launch) (g : GG) (ad : Nat → Nat) (hD : Dj ad 20) (S : SS) (hI : InvM g ad S) (a2 : Int32) (ba2 : Bd a2 (0) (6)) : Met l yX12_tells (wG (.code yX12_tells cX12_tells 3 none)) (Rm 0) (XPre g ad 20 S [.ref (ad 0), .int 2, .int a2]) (va_Qv (fun S' => InvM g ad S' ∧ (∀ j, j ∉ ([7] : List Nat) → S' j = S j) ∧ (0 ≤ elm (S 7) 40 + (-1) * elm (S' 7) 40 ∧ 0 ≤ elm (S' 7) 40 + (-1) * elm (S 7) 40) ∧ (0 ≤ elm (S 7) 41 + (-1) * elm (S' 7) 41 ∧ 0 ≤ elm (S' 7) 41 + (-1) * elm (S 7) 41) ∧ (0 ≤ elm (S 7) 43 + (-1) * elm (S' 7) 43 ∧ 0 ≤ elm (S' 7) 43 + (-1) * elm (S 7) 43) ∧ (0 ≤ elm (S 7) 46 + (-1) * elm (S' 7) 46 ∧ 0 ≤ elm (S' 7) 46 + (-1) * elm (S 7) 46) ∧ (0 ≤ elm (S 7) 47 + (-1) * elm (S' 7) 47 ∧ 0 ≤ elm (S' 7) 47 + (-1) * elm (S 7) 47) ∧ (0 ≤ elm (S 7) 48 + (-1) * elm (S' 7) 48 ∧ 0 ≤ elm (S' 7) 48 + (-1) * elm (S 7) 48) ∧ (0 ≤ elm (S 7) 49 + (-1) * elm (S' 7) 49 ∧ 0 ≤ elm (S' 7) 49 + (-1) * elm (S 7) 49) ∧ EFp (S' 7) (S 7) 0 40) (QB g ad 20) (FA ad 20)) 0 0 (FA ad 20) := by
  refine xmet cX12_tells "EbbWreckModel" (by decide) rfl (Nat.le_of_ble_eq_true rfl) (fun p e s m below meth c E hr hlk hml hQ ls hl => ?_)
  have hx := E.1
  have hb := E.2.1
  have hs : Sp ad 20 (FA ad 20) := Sp.fa hD
  have hl : lv_has ls 3 [(0, .ref (ad 0)), (1, .int 2), (2, .int a2)] := hl
  obtain ⟨f1, c2, b3⟩ := invM_7 hI
  obtain ⟨v4, ee5⟩ : ∃ z : Int32, f1 40 = z := ⟨_, rfl⟩
  have b6 : Bd v4 (0) (12) := (by rw [← ee5]; exact b3.1 40 (by decide))
  obtain ⟨v7, ee8⟩ : ∃ z : Int32, f1 41 = z := ⟨_, rfl⟩
  have b9 : Bd v7 (0) (12) := (by rw [← ee8]; exact b3.2.1 41 (by decide))
  obtain ⟨v10, ee11⟩ : ∃ z : Int32, f1 43 = z := ⟨_, rfl⟩
  have b12 : Bd v10 (0) (12) := (by rw [← ee11]; exact b3.2.2.2.1 43 (by decide))
  obtain ⟨v13, ee14⟩ : ∃ z : Int32, f1 46 = z := ⟨_, rfl⟩
  have b15 : Bd v13 (0) (8) := (by rw [← ee14]; exact b3.2.2.2.2.1 46 (by decide))
  obtain ⟨v16, ee17⟩ : ∃ z : Int32, f1 47 = z := ⟨_, rfl⟩
  have b18 : Bd v16 (0) (6) := (by rw [← ee17]; exact b3.2.2.2.2.2.1 47 (by decide))
  obtain ⟨v19, ee20⟩ : ∃ z : Int32, f1 48 = z := ⟨_, rfl⟩
  have b21 : Bd v19 (0) (3) := (by rw [← ee20]; exact b3.2.2.2.2.2.2.1 48 (by decide))
  obtain ⟨v22, ee23⟩ : ∃ z : Int32, f1 49 = z := ⟨_, rfl⟩
  have b24 : Bd v22 (0) (40) := (by rw [← ee23]; exact b3.2.2.2.2.2.2.2 49 (by decide))
  have ef7_0 : EFp (S 7) (S 7) 0 40 := fun _ _ _ => rfl
  refine lv_aload_n hx hb dX12_tells_0 rfl (lv_at hl 0 rfl) ?_
  obtain ⟨v25, v26, v28, v30, v32, v33, w34, v35, v37, v38, v39, v40, v42, v44, v46, v48, v50, v51, v52, c53, b27, b29, b31, b36, b41, b43, b45, b47, b49⟩ := invM_0 hI
  have c53 : S 0 = .inr (12, [.int v25, .ref (ad 1), .ref (ad 2), .ref (ad 3), .ref (ad 4), .ref (ad 5), .int v26, .int v28, .int v30, .int v32, .int v33, .long w34, .int v35, .int v37, .int v38, .int v39, .ref (ad 6), .ref (ad 7), .ref (ad 8), .ref (ad 9), .ref (ad 10), .ref (ad 11), .ref (ad 12), .ref (ad 13), .ref (ad 14), .ref (ad 15), .int v40, .int v42, .ref (ad 16), .int v44, .int v46, .int v48, .int v50, .int v51, .ref (ad 17), .ref (ad 18), .int v52, .ref (ad 19)]) := c53
  refine xget E hQ 0 (by decide) c53 rfl 17 (by decide) q1485 rfl dX12_tells_1 ?_
  refine lv_bipush (v := 40) hx hb dX12_tells_4 (by decide) ?_
  refine lv_iload_n hx hb dX12_tells_6 rfl (lv_at hl 1 rfl) ?_
  refine lv_iadd hx hb dX12_tells_7 ?_
  refine sb_at (P := fun z => W _ _ _ _ _ _ _ _ _ _ _ _ _ _ _ (F0 _ _ _ (.int z :: _))) (show (40 : Int32) + 2 = 42 by decide) ?_
  refine lv_iload_n hx hb dX12_tells_8 rfl (lv_at hl 2 rfl) ?_
  refine xiast E hs hQ 7 (by decide) c2 (vp_in_lit 42 50 (by decide)) dX12_tells_9 (fun H locs S54 eS54 hQ => ?_)
  have hI := invM_up_7 hI eS54 ⟨_, rfl, ⟨upd_mn b3.1 (by decide), upd_mn b3.2.1 (by decide), upd_m b3.2.2.1 ba2, upd_mn b3.2.2.2.1 (by decide), upd_mn b3.2.2.2.2.1 (by decide), upd_mn b3.2.2.2.2.2.1 (by decide), upd_mn b3.2.2.2.2.2.2.1 (by decide), upd_mn b3.2.2.2.2.2.2.2 (by decide)⟩⟩
  have b56 : (∀ j, j % 10 = 0 → Bd ((upd f1 (42 : Int32).toNatClampNeg a2) j) (0) (12)) ∧ (∀ j, j % 10 = 1 → Bd ((upd f1 (42 : Int32).toNatClampNeg a2) j) (0) (12)) ∧ (∀ j, j % 10 = 2 → Bd ((upd f1 (42 : Int32).toNatClampNeg a2) j) (0) (6)) ∧ (∀ j, j % 10 = 3 → Bd ((upd f1 (42 : Int32).toNatClampNeg a2) j) (0) (12)) ∧ (∀ j, j % 10 = 6 → Bd ((upd f1 (42 : Int32).toNatClampNeg a2) j) (0) (8)) ∧ (∀ j, j % 10 = 7 → Bd ((upd f1 (42 : Int32).toNatClampNeg a2) j) (0) (6)) ∧ (∀ j, j % 10 = 8 → Bd ((upd f1 (42 : Int32).toNatClampNeg a2) j) (0) (3)) ∧ (∀ j, j % 10 = 9 → Bd ((upd f1 (42 : Int32).toNatClampNeg a2) j) (0) (40)) := ⟨upd_mn b3.1 (by decide), upd_mn b3.2.1 (by decide), upd_m b3.2.2.1 ba2, upd_mn b3.2.2.2.1 (by decide), upd_mn b3.2.2.2.2.1 (by decide), upd_mn b3.2.2.2.2.2.1 (by decide), upd_mn b3.2.2.2.2.2.2.1 (by decide), upd_mn b3.2.2.2.2.2.2.2 (by decide)⟩
  have c55 : S54 7 = .inl (g.2 0, 50, .inl (upd f1 (42 : Int32).toNatClampNeg a2)) := up_at eS54 rfl
  have ef57 : EFp (S54 7) (S 7) 0 40 := ef_up ef7_0 c2 c55 (by decide)
  have q58 : elm (S 7) 40 = v4.toInt := (elm_of c2 40).trans (congrArg Int32.toInt (ee5))
  have q59 : elm (S54 7) 40 = v4.toInt := (elm_of c55 40).trans (congrArg Int32.toInt (((upd_o (by decide)).trans (ee5))))
  have q60 : elm (S 7) 41 = v7.toInt := (elm_of c2 41).trans (congrArg Int32.toInt (ee8))
  have q61 : elm (S54 7) 41 = v7.toInt := (elm_of c55 41).trans (congrArg Int32.toInt (((upd_o (by decide)).trans (ee8))))
  have q62 : elm (S 7) 43 = v10.toInt := (elm_of c2 43).trans (congrArg Int32.toInt (ee11))
  have q63 : elm (S54 7) 43 = v10.toInt := (elm_of c55 43).trans (congrArg Int32.toInt (((upd_o (by decide)).trans (ee11))))
  have q64 : elm (S 7) 46 = v13.toInt := (elm_of c2 46).trans (congrArg Int32.toInt (ee14))
  have q65 : elm (S54 7) 46 = v13.toInt := (elm_of c55 46).trans (congrArg Int32.toInt (((upd_o (by decide)).trans (ee14))))
  have q66 : elm (S 7) 47 = v16.toInt := (elm_of c2 47).trans (congrArg Int32.toInt (ee17))
  have q67 : elm (S54 7) 47 = v16.toInt := (elm_of c55 47).trans (congrArg Int32.toInt (((upd_o (by decide)).trans (ee17))))
  have q68 : elm (S 7) 48 = v19.toInt := (elm_of c2 48).trans (congrArg Int32.toInt (ee20))
  have q69 : elm (S54 7) 48 = v19.toInt := (elm_of c55 48).trans (congrArg Int32.toInt (((upd_o (by decide)).trans (ee20))))
  have q70 : elm (S 7) 49 = v22.toInt := (elm_of c2 49).trans (congrArg Int32.toInt (ee23))
  have q71 : elm (S54 7) 49 = v22.toInt := (elm_of c55 49).trans (congrArg Int32.toInt (((upd_o (by decide)).trans (ee23))))
  exact xrv E hr hlk hQ (⟨hI, (up_o o_refl eS54 (by decide)), ⟨by omega, by omega⟩, ⟨by omega, by omega⟩, ⟨by omega, by omega⟩, ⟨by omega, by omega⟩, ⟨by omega, by omega⟩, ⟨by omega, by omega⟩, ⟨by omega, by omega⟩, ef57⟩) dX12_tells_10
set_option maxHeartbeats 4000000 in
set_option maxRecDepth 100000 in
theorem gX12_tells_3 (l : Launch) (g : GG) (ad : Nat → Nat) (hD : Dj ad 20) (S : SS) (hI : InvM g ad S) (a2 : Int32) (ba2 : Bd a2 (0) (12)) : Met l yX12_tells (wG (.code yX12_tells cX12_tells 3 none)) (Rm 0) (XPre g ad 20 S [.ref (ad 0), .int 3, .int a2]) (va_Qv (fun S' => InvM g ad S' ∧ (∀ j, j ∉ ([7] : List Nat) → S' j = S j) ∧ (0 ≤ a2.toInt + (-1) * elm (S' 7) 43 ∧ 0 ≤ elm (S' 7) 43 + (-1) * a2.toInt) ∧ (0 ≤ elm (S 7) 40 + (-1) * elm (S' 7) 40 ∧ 0 ≤ elm (S' 7) 40 + (-1) * elm (S 7) 40) ∧ (0 ≤ elm (S 7) 41 + (-1) * elm (S' 7) 41 ∧ 0 ≤ elm (S' 7) 41 + (-1) * elm (S 7) 41) ∧ (0 ≤ elm (S 7) 46 + (-1) * elm (S' 7) 46 ∧ 0 ≤ elm (S' 7) 46 + (-1) * elm (S 7) 46) ∧ (0 ≤ elm (S 7) 47 + (-1) * elm (S' 7) 47 ∧ 0 ≤ elm (S' 7) 47 + (-1) * elm (S 7) 47) ∧ (0 ≤ elm (S 7) 48 + (-1) * elm (S' 7) 48 ∧ 0 ≤ elm (S' 7) 48 + (-1) * elm (S 7) 48) ∧ (0 ≤ elm (S 7) 49 + (-1) * elm (S' 7) 49 ∧ 0 ≤ elm (S' 7) 49 + (-1) * elm (S 7) 49) ∧ EFp (S' 7) (S 7) 0 40) (QB g ad 20) (FA ad 20)) 0 0 (FA ad 20) := by
  refine xmet cX12_tells "EbbWreckModel" (by decide) rfl (Nat.le_of_ble_eq_true rfl) (fun p e s m below meth c E hr hlk hml hQ ls hl => ?_)
  have hx := E.1
  have hb := E.2.1
  have hs : Sp ad 20 (FA ad 20) := Sp.fa hD
  have hl : lv_has ls 3 [(0, .ref (ad 0)), (1, .int 3), (2, .int a2)] := hl
  obtain ⟨f1, c2, b3⟩ := invM_7 hI
  obtain ⟨v4, ee5⟩ : ∃ z : Int32, f1 43 = z := ⟨_, rfl⟩
  have b6 : Bd v4 (0) (12) := (by rw [← ee5]; exact b3.2.2.2.1 43 (by decide))
  obtain ⟨v7, ee8⟩ : ∃ z : Int32, f1 40 = z := ⟨_, rfl⟩
  have b9 : Bd v7 (0) (12) := (by rw [← ee8]; exact b3.1 40 (by decide))
  obtain ⟨v10, ee11⟩ : ∃ z : Int32, f1 41 = z := ⟨_, rfl⟩
  have b12 : Bd v10 (0) (12) := (by rw [← ee11]; exact b3.2.1 41 (by decide))
  obtain ⟨v13, ee14⟩ : ∃ z : Int32, f1 46 = z := ⟨_, rfl⟩
  have b15 : Bd v13 (0) (8) := (by rw [← ee14]; exact b3.2.2.2.2.1 46 (by decide))
  obtain ⟨v16, ee17⟩ : ∃ z : Int32, f1 47 = z := ⟨_, rfl⟩
  have b18 : Bd v16 (0) (6) := (by rw [← ee17]; exact b3.2.2.2.2.2.1 47 (by decide))
  obtain ⟨v19, ee20⟩ : ∃ z : Int32, f1 48 = z := ⟨_, rfl⟩
  have b21 : Bd v19 (0) (3) := (by rw [← ee20]; exact b3.2.2.2.2.2.2.1 48 (by decide))
  obtain ⟨v22, ee23⟩ : ∃ z : Int32, f1 49 = z := ⟨_, rfl⟩
  have b24 : Bd v22 (0) (40) := (by rw [← ee23]; exact b3.2.2.2.2.2.2.2 49 (by decide))
  have ef7_0 : EFp (S 7) (S 7) 0 40 := fun _ _ _ => rfl
  refine lv_aload_n hx hb dX12_tells_0 rfl (lv_at hl 0 rfl) ?_
  obtain ⟨v25, v26, v28, v30, v32, v33, w34, v35, v37, v38, v39, v40, v42, v44, v46, v48, v50, v51, v52, c53, b27, b29, b31, b36, b41, b43, b45, b47, b49⟩ := invM_0 hI
  have c53 : S 0 = .inr (12, [.int v25, .ref (ad 1), .ref (ad 2), .ref (ad 3), .ref (ad 4), .ref (ad 5), .int v26, .int v28, .int v30, .int v32, .int v33, .long w34, .int v35, .int v37, .int v38, .int v39, .ref (ad 6), .ref (ad 7), .ref (ad 8), .ref (ad 9), .ref (ad 10), .ref (ad 11), .ref (ad 12), .ref (ad 13), .ref (ad 14), .ref (ad 15), .int v40, .int v42, .ref (ad 16), .int v44, .int v46, .int v48, .int v50, .int v51, .ref (ad 17), .ref (ad 18), .int v52, .ref (ad 19)]) := c53
  refine xget E hQ 0 (by decide) c53 rfl 17 (by decide) q1485 rfl dX12_tells_1 ?_
  refine lv_bipush (v := 40) hx hb dX12_tells_4 (by decide) ?_
  refine lv_iload_n hx hb dX12_tells_6 rfl (lv_at hl 1 rfl) ?_
  refine lv_iadd hx hb dX12_tells_7 ?_
  refine sb_at (P := fun z => W _ _ _ _ _ _ _ _ _ _ _ _ _ _ _ (F0 _ _ _ (.int z :: _))) (show (40 : Int32) + 3 = 43 by decide) ?_
  refine lv_iload_n hx hb dX12_tells_8 rfl (lv_at hl 2 rfl) ?_
  refine xiast E hs hQ 7 (by decide) c2 (vp_in_lit 43 50 (by decide)) dX12_tells_9 (fun H locs S54 eS54 hQ => ?_)
  have hI := invM_up_7 hI eS54 ⟨_, rfl, ⟨upd_mn b3.1 (by decide), upd_mn b3.2.1 (by decide), upd_mn b3.2.2.1 (by decide), upd_m b3.2.2.2.1 ba2, upd_mn b3.2.2.2.2.1 (by decide), upd_mn b3.2.2.2.2.2.1 (by decide), upd_mn b3.2.2.2.2.2.2.1 (by decide), upd_mn b3.2.2.2.2.2.2.2 (by decide)⟩⟩
  have b56 : (∀ j, j % 10 = 0 → Bd ((upd f1 (43 : Int32).toNatClampNeg a2) j) (0) (12)) ∧ (∀ j, j % 10 = 1 → Bd ((upd f1 (43 : Int32).toNatClampNeg a2) j) (0) (12)) ∧ (∀ j, j % 10 = 2 → Bd ((upd f1 (43 : Int32).toNatClampNeg a2) j) (0) (6)) ∧ (∀ j, j % 10 = 3 → Bd ((upd f1 (43 : Int32).toNatClampNeg a2) j) (0) (12)) ∧ (∀ j, j % 10 = 6 → Bd ((upd f1 (43 : Int32).toNatClampNeg a2) j) (0) (8)) ∧ (∀ j, j % 10 = 7 → Bd ((upd f1 (43 : Int32).toNatClampNeg a2) j) (0) (6)) ∧ (∀ j, j % 10 = 8 → Bd ((upd f1 (43 : Int32).toNatClampNeg a2) j) (0) (3)) ∧ (∀ j, j % 10 = 9 → Bd ((upd f1 (43 : Int32).toNatClampNeg a2) j) (0) (40)) := ⟨upd_mn b3.1 (by decide), upd_mn b3.2.1 (by decide), upd_mn b3.2.2.1 (by decide), upd_m b3.2.2.2.1 ba2, upd_mn b3.2.2.2.2.1 (by decide), upd_mn b3.2.2.2.2.2.1 (by decide), upd_mn b3.2.2.2.2.2.2.1 (by decide), upd_mn b3.2.2.2.2.2.2.2 (by decide)⟩
  have c55 : S54 7 = .inl (g.2 0, 50, .inl (upd f1 (43 : Int32).toNatClampNeg a2)) := up_at eS54 rfl
  have ef57 : EFp (S54 7) (S 7) 0 40 := ef_up ef7_0 c2 c55 (by decide)
  have q58 : elm (S54 7) 43 = a2.toInt := (elm_of c55 43).trans (congrArg Int32.toInt ((upd_s)))
  have q59 : elm (S 7) 40 = v7.toInt := (elm_of c2 40).trans (congrArg Int32.toInt (ee8))
  have q60 : elm (S54 7) 40 = v7.toInt := (elm_of c55 40).trans (congrArg Int32.toInt (((upd_o (by decide)).trans (ee8))))
  have q61 : elm (S 7) 41 = v10.toInt := (elm_of c2 41).trans (congrArg Int32.toInt (ee11))
  have q62 : elm (S54 7) 41 = v10.toInt := (elm_of c55 41).trans (congrArg Int32.toInt (((upd_o (by decide)).trans (ee11))))
  have q63 : elm (S 7) 46 = v13.toInt := (elm_of c2 46).trans (congrArg Int32.toInt (ee14))
  have q64 : elm (S54 7) 46 = v13.toInt := (elm_of c55 46).trans (congrArg Int32.toInt (((upd_o (by decide)).trans (ee14))))
  have q65 : elm (S 7) 47 = v16.toInt := (elm_of c2 47).trans (congrArg Int32.toInt (ee17))
  have q66 : elm (S54 7) 47 = v16.toInt := (elm_of c55 47).trans (congrArg Int32.toInt (((upd_o (by decide)).trans (ee17))))
  have q67 : elm (S 7) 48 = v19.toInt := (elm_of c2 48).trans (congrArg Int32.toInt (ee20))
  have q68 : elm (S54 7) 48 = v19.toInt := (elm_of c55 48).trans (congrArg Int32.toInt (((upd_o (by decide)).trans (ee20))))
  have q69 : elm (S 7) 49 = v22.toInt := (elm_of c2 49).trans (congrArg Int32.toInt (ee23))
  have q70 : elm (S54 7) 49 = v22.toInt := (elm_of c55 49).trans (congrArg Int32.toInt (((upd_o (by decide)).trans (ee23))))
  exact xrv E hr hlk hQ (⟨hI, (up_o o_refl eS54 (by decide)), ⟨by omega, by omega⟩, ⟨by omega, by omega⟩, ⟨by omega, by omega⟩, ⟨by omega, by omega⟩, ⟨by omega, by omega⟩, ⟨by omega, by omega⟩, ⟨by omega, by omega⟩, ef57⟩) dX12_tells_10
set_option maxHeartbeats 4000000 in
set_option maxRecDepth 100000 in
theorem gX12_tells_4 (l : Launch) (g : GG) (ad : Nat → Nat) (hD : Dj ad 20) (S : SS) (hI : InvM g ad S) (a2 : Int32) : Met l yX12_tells (wG (.code yX12_tells cX12_tells 3 none)) (Rm 0) (XPre g ad 20 S [.ref (ad 0), .int 4, .int a2]) (va_Qv (fun S' => InvM g ad S' ∧ (∀ j, j ∉ ([7] : List Nat) → S' j = S j) ∧ (0 ≤ elm (S 7) 40 + (-1) * elm (S' 7) 40 ∧ 0 ≤ elm (S' 7) 40 + (-1) * elm (S 7) 40) ∧ (0 ≤ elm (S 7) 41 + (-1) * elm (S' 7) 41 ∧ 0 ≤ elm (S' 7) 41 + (-1) * elm (S 7) 41) ∧ (0 ≤ elm (S 7) 43 + (-1) * elm (S' 7) 43 ∧ 0 ≤ elm (S' 7) 43 + (-1) * elm (S 7) 43) ∧ (0 ≤ elm (S 7) 46 + (-1) * elm (S' 7) 46 ∧ 0 ≤ elm (S' 7) 46 + (-1) * elm (S 7) 46) ∧ (0 ≤ elm (S 7) 47 + (-1) * elm (S' 7) 47 ∧ 0 ≤ elm (S' 7) 47 + (-1) * elm (S 7) 47) ∧ (0 ≤ elm (S 7) 48 + (-1) * elm (S' 7) 48 ∧ 0 ≤ elm (S' 7) 48 + (-1) * elm (S 7) 48) ∧ (0 ≤ elm (S 7) 49 + (-1) * elm (S' 7) 49 ∧ 0 ≤ elm (S' 7) 49 + (-1) * elm (S 7) 49) ∧ EFp (S' 7) (S 7) 0 40) (QB g ad 20) (FA ad 20)) 0 0 (FA ad 20) := by
  refine xmet cX12_tells "EbbWreckModel" (by decide) rfl (Nat.le_of_ble_eq_true rfl) (fun p e s m below meth c E hr hlk hml hQ ls hl => ?_)
  have hx := E.1
  have hb := E.2.1
  have hs : Sp ad 20 (FA ad 20) := Sp.fa hD
  have hl : lv_has ls 3 [(0, .ref (ad 0)), (1, .int 4), (2, .int a2)] := hl
  obtain ⟨f1, c2, b3⟩ := invM_7 hI
  obtain ⟨v4, ee5⟩ : ∃ z : Int32, f1 40 = z := ⟨_, rfl⟩
  have b6 : Bd v4 (0) (12) := (by rw [← ee5]; exact b3.1 40 (by decide))
  obtain ⟨v7, ee8⟩ : ∃ z : Int32, f1 41 = z := ⟨_, rfl⟩
  have b9 : Bd v7 (0) (12) := (by rw [← ee8]; exact b3.2.1 41 (by decide))
  obtain ⟨v10, ee11⟩ : ∃ z : Int32, f1 43 = z := ⟨_, rfl⟩
  have b12 : Bd v10 (0) (12) := (by rw [← ee11]; exact b3.2.2.2.1 43 (by decide))
  obtain ⟨v13, ee14⟩ : ∃ z : Int32, f1 46 = z := ⟨_, rfl⟩
  have b15 : Bd v13 (0) (8) := (by rw [← ee14]; exact b3.2.2.2.2.1 46 (by decide))
  obtain ⟨v16, ee17⟩ : ∃ z : Int32, f1 47 = z := ⟨_, rfl⟩
  have b18 : Bd v16 (0) (6) := (by rw [← ee17]; exact b3.2.2.2.2.2.1 47 (by decide))
  obtain ⟨v19, ee20⟩ : ∃ z : Int32, f1 48 = z := ⟨_, rfl⟩
  have b21 : Bd v19 (0) (3) := (by rw [← ee20]; exact b3.2.2.2.2.2.2.1 48 (by decide))
  obtain ⟨v22, ee23⟩ : ∃ z : Int32, f1 49 = z := ⟨_, rfl⟩
  have b24 : Bd v22 (0) (40) := (by rw [← ee23]; exact b3.2.2.2.2.2.2.2 49 (by decide))
  have ef7_0 : EFp (S 7) (S 7) 0 40 := fun _ _ _ => rfl
  refine lv_aload_n hx hb dX12_tells_0 rfl (lv_at hl 0 rfl) ?_
  obtain ⟨v25, v26, v28, v30, v32, v33, w34, v35, v37, v38, v39, v40, v42, v44, v46, v48, v50, v51, v52, c53, b27, b29, b31, b36, b41, b43, b45, b47, b49⟩ := invM_0 hI
  have c53 : S 0 = .inr (12, [.int v25, .ref (ad 1), .ref (ad 2), .ref (ad 3), .ref (ad 4), .ref (ad 5), .int v26, .int v28, .int v30, .int v32, .int v33, .long w34, .int v35, .int v37, .int v38, .int v39, .ref (ad 6), .ref (ad 7), .ref (ad 8), .ref (ad 9), .ref (ad 10), .ref (ad 11), .ref (ad 12), .ref (ad 13), .ref (ad 14), .ref (ad 15), .int v40, .int v42, .ref (ad 16), .int v44, .int v46, .int v48, .int v50, .int v51, .ref (ad 17), .ref (ad 18), .int v52, .ref (ad 19)]) := c53
  refine xget E hQ 0 (by decide) c53 rfl 17 (by decide) q1485 rfl dX12_tells_1 ?_
  refine lv_bipush (v := 40) hx hb dX12_tells_4 (by decide) ?_
  refine lv_iload_n hx hb dX12_tells_6 rfl (lv_at hl 1 rfl) ?_
  refine lv_iadd hx hb dX12_tells_7 ?_
  refine sb_at (P := fun z => W _ _ _ _ _ _ _ _ _ _ _ _ _ _ _ (F0 _ _ _ (.int z :: _))) (show (40 : Int32) + 4 = 44 by decide) ?_
  refine lv_iload_n hx hb dX12_tells_8 rfl (lv_at hl 2 rfl) ?_
  refine xiast E hs hQ 7 (by decide) c2 (vp_in_lit 44 50 (by decide)) dX12_tells_9 (fun H locs S54 eS54 hQ => ?_)
  have hI := invM_up_7 hI eS54 ⟨_, rfl, ⟨upd_mn b3.1 (by decide), upd_mn b3.2.1 (by decide), upd_mn b3.2.2.1 (by decide), upd_mn b3.2.2.2.1 (by decide), upd_mn b3.2.2.2.2.1 (by decide), upd_mn b3.2.2.2.2.2.1 (by decide), upd_mn b3.2.2.2.2.2.2.1 (by decide), upd_mn b3.2.2.2.2.2.2.2 (by decide)⟩⟩
  have b56 : (∀ j, j % 10 = 0 → Bd ((upd f1 (44 : Int32).toNatClampNeg a2) j) (0) (12)) ∧ (∀ j, j % 10 = 1 → Bd ((upd f1 (44 : Int32).toNatClampNeg a2) j) (0) (12)) ∧ (∀ j, j % 10 = 2 → Bd ((upd f1 (44 : Int32).toNatClampNeg a2) j) (0) (6)) ∧ (∀ j, j % 10 = 3 → Bd ((upd f1 (44 : Int32).toNatClampNeg a2) j) (0) (12)) ∧ (∀ j, j % 10 = 6 → Bd ((upd f1 (44 : Int32).toNatClampNeg a2) j) (0) (8)) ∧ (∀ j, j % 10 = 7 → Bd ((upd f1 (44 : Int32).toNatClampNeg a2) j) (0) (6)) ∧ (∀ j, j % 10 = 8 → Bd ((upd f1 (44 : Int32).toNatClampNeg a2) j) (0) (3)) ∧ (∀ j, j % 10 = 9 → Bd ((upd f1 (44 : Int32).toNatClampNeg a2) j) (0) (40)) := ⟨upd_mn b3.1 (by decide), upd_mn b3.2.1 (by decide), upd_mn b3.2.2.1 (by decide), upd_mn b3.2.2.2.1 (by decide), upd_mn b3.2.2.2.2.1 (by decide), upd_mn b3.2.2.2.2.2.1 (by decide), upd_mn b3.2.2.2.2.2.2.1 (by decide), upd_mn b3.2.2.2.2.2.2.2 (by decide)⟩
  have c55 : S54 7 = .inl (g.2 0, 50, .inl (upd f1 (44 : Int32).toNatClampNeg a2)) := up_at eS54 rfl
  have ef57 : EFp (S54 7) (S 7) 0 40 := ef_up ef7_0 c2 c55 (by decide)
  have q58 : elm (S 7) 40 = v4.toInt := (elm_of c2 40).trans (congrArg Int32.toInt (ee5))
  have q59 : elm (S54 7) 40 = v4.toInt := (elm_of c55 40).trans (congrArg Int32.toInt (((upd_o (by decide)).trans (ee5))))
  have q60 : elm (S 7) 41 = v7.toInt := (elm_of c2 41).trans (congrArg Int32.toInt (ee8))
  have q61 : elm (S54 7) 41 = v7.toInt := (elm_of c55 41).trans (congrArg Int32.toInt (((upd_o (by decide)).trans (ee8))))
  have q62 : elm (S 7) 43 = v10.toInt := (elm_of c2 43).trans (congrArg Int32.toInt (ee11))
  have q63 : elm (S54 7) 43 = v10.toInt := (elm_of c55 43).trans (congrArg Int32.toInt (((upd_o (by decide)).trans (ee11))))
  have q64 : elm (S 7) 46 = v13.toInt := (elm_of c2 46).trans (congrArg Int32.toInt (ee14))
  have q65 : elm (S54 7) 46 = v13.toInt := (elm_of c55 46).trans (congrArg Int32.toInt (((upd_o (by decide)).trans (ee14))))
  have q66 : elm (S 7) 47 = v16.toInt := (elm_of c2 47).trans (congrArg Int32.toInt (ee17))
  have q67 : elm (S54 7) 47 = v16.toInt := (elm_of c55 47).trans (congrArg Int32.toInt (((upd_o (by decide)).trans (ee17))))
  have q68 : elm (S 7) 48 = v19.toInt := (elm_of c2 48).trans (congrArg Int32.toInt (ee20))
  have q69 : elm (S54 7) 48 = v19.toInt := (elm_of c55 48).trans (congrArg Int32.toInt (((upd_o (by decide)).trans (ee20))))
  have q70 : elm (S 7) 49 = v22.toInt := (elm_of c2 49).trans (congrArg Int32.toInt (ee23))
  have q71 : elm (S54 7) 49 = v22.toInt := (elm_of c55 49).trans (congrArg Int32.toInt (((upd_o (by decide)).trans (ee23))))
  exact xrv E hr hlk hQ (⟨hI, (up_o o_refl eS54 (by decide)), ⟨by omega, by omega⟩, ⟨by omega, by omega⟩, ⟨by omega, by omega⟩, ⟨by omega, by omega⟩, ⟨by omega, by omega⟩, ⟨by omega, by omega⟩, ⟨by omega, by omega⟩, ef57⟩) dX12_tells_10
set_option maxHeartbeats 4000000 in
set_option maxRecDepth 100000 in
theorem gX12_tells_5 (l : Launch) (g : GG) (ad : Nat → Nat) (hD : Dj ad 20) (S : SS) (hI : InvM g ad S) (a2 : Int32) : Met l yX12_tells (wG (.code yX12_tells cX12_tells 3 none)) (Rm 0) (XPre g ad 20 S [.ref (ad 0), .int 5, .int a2]) (va_Qv (fun S' => InvM g ad S' ∧ (∀ j, j ∉ ([7] : List Nat) → S' j = S j) ∧ (0 ≤ elm (S 7) 40 + (-1) * elm (S' 7) 40 ∧ 0 ≤ elm (S' 7) 40 + (-1) * elm (S 7) 40) ∧ (0 ≤ elm (S 7) 41 + (-1) * elm (S' 7) 41 ∧ 0 ≤ elm (S' 7) 41 + (-1) * elm (S 7) 41) ∧ (0 ≤ elm (S 7) 43 + (-1) * elm (S' 7) 43 ∧ 0 ≤ elm (S' 7) 43 + (-1) * elm (S 7) 43) ∧ (0 ≤ elm (S 7) 46 + (-1) * elm (S' 7) 46 ∧ 0 ≤ elm (S' 7) 46 + (-1) * elm (S 7) 46) ∧ (0 ≤ elm (S 7) 47 + (-1) * elm (S' 7) 47 ∧ 0 ≤ elm (S' 7) 47 + (-1) * elm (S 7) 47) ∧ (0 ≤ elm (S 7) 48 + (-1) * elm (S' 7) 48 ∧ 0 ≤ elm (S' 7) 48 + (-1) * elm (S 7) 48) ∧ (0 ≤ elm (S 7) 49 + (-1) * elm (S' 7) 49 ∧ 0 ≤ elm (S' 7) 49 + (-1) * elm (S 7) 49) ∧ EFp (S' 7) (S 7) 0 40) (QB g ad 20) (FA ad 20)) 0 0 (FA ad 20) := by
  refine xmet cX12_tells "EbbWreckModel" (by decide) rfl (Nat.le_of_ble_eq_true rfl) (fun p e s m below meth c E hr hlk hml hQ ls hl => ?_)
  have hx := E.1
  have hb := E.2.1
  have hs : Sp ad 20 (FA ad 20) := Sp.fa hD
  have hl : lv_has ls 3 [(0, .ref (ad 0)), (1, .int 5), (2, .int a2)] := hl
  obtain ⟨f1, c2, b3⟩ := invM_7 hI
  obtain ⟨v4, ee5⟩ : ∃ z : Int32, f1 40 = z := ⟨_, rfl⟩
  have b6 : Bd v4 (0) (12) := (by rw [← ee5]; exact b3.1 40 (by decide))
  obtain ⟨v7, ee8⟩ : ∃ z : Int32, f1 41 = z := ⟨_, rfl⟩
  have b9 : Bd v7 (0) (12) := (by rw [← ee8]; exact b3.2.1 41 (by decide))
  obtain ⟨v10, ee11⟩ : ∃ z : Int32, f1 43 = z := ⟨_, rfl⟩
  have b12 : Bd v10 (0) (12) := (by rw [← ee11]; exact b3.2.2.2.1 43 (by decide))
  obtain ⟨v13, ee14⟩ : ∃ z : Int32, f1 46 = z := ⟨_, rfl⟩
  have b15 : Bd v13 (0) (8) := (by rw [← ee14]; exact b3.2.2.2.2.1 46 (by decide))
  obtain ⟨v16, ee17⟩ : ∃ z : Int32, f1 47 = z := ⟨_, rfl⟩
  have b18 : Bd v16 (0) (6) := (by rw [← ee17]; exact b3.2.2.2.2.2.1 47 (by decide))
  obtain ⟨v19, ee20⟩ : ∃ z : Int32, f1 48 = z := ⟨_, rfl⟩
  have b21 : Bd v19 (0) (3) := (by rw [← ee20]; exact b3.2.2.2.2.2.2.1 48 (by decide))
  obtain ⟨v22, ee23⟩ : ∃ z : Int32, f1 49 = z := ⟨_, rfl⟩
  have b24 : Bd v22 (0) (40) := (by rw [← ee23]; exact b3.2.2.2.2.2.2.2 49 (by decide))
  have ef7_0 : EFp (S 7) (S 7) 0 40 := fun _ _ _ => rfl
  refine lv_aload_n hx hb dX12_tells_0 rfl (lv_at hl 0 rfl) ?_
  obtain ⟨v25, v26, v28, v30, v32, v33, w34, v35, v37, v38, v39, v40, v42, v44, v46, v48, v50, v51, v52, c53, b27, b29, b31, b36, b41, b43, b45, b47, b49⟩ := invM_0 hI
  have c53 : S 0 = .inr (12, [.int v25, .ref (ad 1), .ref (ad 2), .ref (ad 3), .ref (ad 4), .ref (ad 5), .int v26, .int v28, .int v30, .int v32, .int v33, .long w34, .int v35, .int v37, .int v38, .int v39, .ref (ad 6), .ref (ad 7), .ref (ad 8), .ref (ad 9), .ref (ad 10), .ref (ad 11), .ref (ad 12), .ref (ad 13), .ref (ad 14), .ref (ad 15), .int v40, .int v42, .ref (ad 16), .int v44, .int v46, .int v48, .int v50, .int v51, .ref (ad 17), .ref (ad 18), .int v52, .ref (ad 19)]) := c53
  refine xget E hQ 0 (by decide) c53 rfl 17 (by decide) q1485 rfl dX12_tells_1 ?_
  refine lv_bipush (v := 40) hx hb dX12_tells_4 (by decide) ?_
  refine lv_iload_n hx hb dX12_tells_6 rfl (lv_at hl 1 rfl) ?_
  refine lv_iadd hx hb dX12_tells_7 ?_
  refine sb_at (P := fun z => W _ _ _ _ _ _ _ _ _ _ _ _ _ _ _ (F0 _ _ _ (.int z :: _))) (show (40 : Int32) + 5 = 45 by decide) ?_
  refine lv_iload_n hx hb dX12_tells_8 rfl (lv_at hl 2 rfl) ?_
  refine xiast E hs hQ 7 (by decide) c2 (vp_in_lit 45 50 (by decide)) dX12_tells_9 (fun H locs S54 eS54 hQ => ?_)
  have hI := invM_up_7 hI eS54 ⟨_, rfl, ⟨upd_mn b3.1 (by decide), upd_mn b3.2.1 (by decide), upd_mn b3.2.2.1 (by decide), upd_mn b3.2.2.2.1 (by decide), upd_mn b3.2.2.2.2.1 (by decide), upd_mn b3.2.2.2.2.2.1 (by decide), upd_mn b3.2.2.2.2.2.2.1 (by decide), upd_mn b3.2.2.2.2.2.2.2 (by decide)⟩⟩
  have b56 : (∀ j, j % 10 = 0 → Bd ((upd f1 (45 : Int32).toNatClampNeg a2) j) (0) (12)) ∧ (∀ j, j % 10 = 1 → Bd ((upd f1 (45 : Int32).toNatClampNeg a2) j) (0) (12)) ∧ (∀ j, j % 10 = 2 → Bd ((upd f1 (45 : Int32).toNatClampNeg a2) j) (0) (6)) ∧ (∀ j, j % 10 = 3 → Bd ((upd f1 (45 : Int32).toNatClampNeg a2) j) (0) (12)) ∧ (∀ j, j % 10 = 6 → Bd ((upd f1 (45 : Int32).toNatClampNeg a2) j) (0) (8)) ∧ (∀ j, j % 10 = 7 → Bd ((upd f1 (45 : Int32).toNatClampNeg a2) j) (0) (6)) ∧ (∀ j, j % 10 = 8 → Bd ((upd f1 (45 : Int32).toNatClampNeg a2) j) (0) (3)) ∧ (∀ j, j % 10 = 9 → Bd ((upd f1 (45 : Int32).toNatClampNeg a2) j) (0) (40)) := ⟨upd_mn b3.1 (by decide), upd_mn b3.2.1 (by decide), upd_mn b3.2.2.1 (by decide), upd_mn b3.2.2.2.1 (by decide), upd_mn b3.2.2.2.2.1 (by decide), upd_mn b3.2.2.2.2.2.1 (by decide), upd_mn b3.2.2.2.2.2.2.1 (by decide), upd_mn b3.2.2.2.2.2.2.2 (by decide)⟩
  have c55 : S54 7 = .inl (g.2 0, 50, .inl (upd f1 (45 : Int32).toNatClampNeg a2)) := up_at eS54 rfl
  have ef57 : EFp (S54 7) (S 7) 0 40 := ef_up ef7_0 c2 c55 (by decide)
  have q58 : elm (S 7) 40 = v4.toInt := (elm_of c2 40).trans (congrArg Int32.toInt (ee5))
  have q59 : elm (S54 7) 40 = v4.toInt := (elm_of c55 40).trans (congrArg Int32.toInt (((upd_o (by decide)).trans (ee5))))
  have q60 : elm (S 7) 41 = v7.toInt := (elm_of c2 41).trans (congrArg Int32.toInt (ee8))
  have q61 : elm (S54 7) 41 = v7.toInt := (elm_of c55 41).trans (congrArg Int32.toInt (((upd_o (by decide)).trans (ee8))))
  have q62 : elm (S 7) 43 = v10.toInt := (elm_of c2 43).trans (congrArg Int32.toInt (ee11))
  have q63 : elm (S54 7) 43 = v10.toInt := (elm_of c55 43).trans (congrArg Int32.toInt (((upd_o (by decide)).trans (ee11))))
  have q64 : elm (S 7) 46 = v13.toInt := (elm_of c2 46).trans (congrArg Int32.toInt (ee14))
  have q65 : elm (S54 7) 46 = v13.toInt := (elm_of c55 46).trans (congrArg Int32.toInt (((upd_o (by decide)).trans (ee14))))
  have q66 : elm (S 7) 47 = v16.toInt := (elm_of c2 47).trans (congrArg Int32.toInt (ee17))
  have q67 : elm (S54 7) 47 = v16.toInt := (elm_of c55 47).trans (congrArg Int32.toInt (((upd_o (by decide)).trans (ee17))))
  have q68 : elm (S 7) 48 = v19.toInt := (elm_of c2 48).trans (congrArg Int32.toInt (ee20))
  have q69 : elm (S54 7) 48 = v19.toInt := (elm_of c55 48).trans (congrArg Int32.toInt (((upd_o (by decide)).trans (ee20))))
  have q70 : elm (S 7) 49 = v22.toInt := (elm_of c2 49).trans (congrArg Int32.toInt (ee23))
  have q71 : elm (S54 7) 49 = v22.toInt := (elm_of c55 49).trans (congrArg Int32.toInt (((upd_o (by decide)).trans (ee23))))
  exact xrv E hr hlk hQ (⟨hI, (up_o o_refl eS54 (by decide)), ⟨by omega, by omega⟩, ⟨by omega, by omega⟩, ⟨by omega, by omega⟩, ⟨by omega, by omega⟩, ⟨by omega, by omega⟩, ⟨by omega, by omega⟩, ⟨by omega, by omega⟩, ef57⟩) dX12_tells_10
set_option maxHeartbeats 4000000 in
set_option maxRecDepth 100000 in
theorem gX12_tells_6 (l : Launch) (g : GG) (ad : Nat → Nat) (hD : Dj ad 20) (S : SS) (hI : InvM g ad S) (a2 : Int32) (ba2 : Bd a2 (0) (8)) : Met l yX12_tells (wG (.code yX12_tells cX12_tells 3 none)) (Rm 0) (XPre g ad 20 S [.ref (ad 0), .int 6, .int a2]) (va_Qv (fun S' => InvM g ad S' ∧ (∀ j, j ∉ ([7] : List Nat) → S' j = S j) ∧ (0 ≤ a2.toInt + (-1) * elm (S' 7) 46 ∧ 0 ≤ elm (S' 7) 46 + (-1) * a2.toInt) ∧ (0 ≤ elm (S 7) 40 + (-1) * elm (S' 7) 40 ∧ 0 ≤ elm (S' 7) 40 + (-1) * elm (S 7) 40) ∧ (0 ≤ elm (S 7) 41 + (-1) * elm (S' 7) 41 ∧ 0 ≤ elm (S' 7) 41 + (-1) * elm (S 7) 41) ∧ (0 ≤ elm (S 7) 43 + (-1) * elm (S' 7) 43 ∧ 0 ≤ elm (S' 7) 43 + (-1) * elm (S 7) 43) ∧ (0 ≤ elm (S 7) 47 + (-1) * elm (S' 7) 47 ∧ 0 ≤ elm (S' 7) 47 + (-1) * elm (S 7) 47) ∧ (0 ≤ elm (S 7) 48 + (-1) * elm (S' 7) 48 ∧ 0 ≤ elm (S' 7) 48 + (-1) * elm (S 7) 48) ∧ (0 ≤ elm (S 7) 49 + (-1) * elm (S' 7) 49 ∧ 0 ≤ elm (S' 7) 49 + (-1) * elm (S 7) 49) ∧ EFp (S' 7) (S 7) 0 40) (QB g ad 20) (FA ad 20)) 0 0 (FA ad 20) := by
  refine xmet cX12_tells "EbbWreckModel" (by decide) rfl (Nat.le_of_ble_eq_true rfl) (fun p e s m below meth c E hr hlk hml hQ ls hl => ?_)
  have hx := E.1
  have hb := E.2.1
  have hs : Sp ad 20 (FA ad 20) := Sp.fa hD
  have hl : lv_has ls 3 [(0, .ref (ad 0)), (1, .int 6), (2, .int a2)] := hl
  obtain ⟨f1, c2, b3⟩ := invM_7 hI
  obtain ⟨v4, ee5⟩ : ∃ z : Int32, f1 46 = z := ⟨_, rfl⟩
  have b6 : Bd v4 (0) (8) := (by rw [← ee5]; exact b3.2.2.2.2.1 46 (by decide))
  obtain ⟨v7, ee8⟩ : ∃ z : Int32, f1 40 = z := ⟨_, rfl⟩
  have b9 : Bd v7 (0) (12) := (by rw [← ee8]; exact b3.1 40 (by decide))
  obtain ⟨v10, ee11⟩ : ∃ z : Int32, f1 41 = z := ⟨_, rfl⟩
  have b12 : Bd v10 (0) (12) := (by rw [← ee11]; exact b3.2.1 41 (by decide))
  obtain ⟨v13, ee14⟩ : ∃ z : Int32, f1 43 = z := ⟨_, rfl⟩
  have b15 : Bd v13 (0) (12) := (by rw [← ee14]; exact b3.2.2.2.1 43 (by decide))
  obtain ⟨v16, ee17⟩ : ∃ z : Int32, f1 47 = z := ⟨_, rfl⟩
  have b18 : Bd v16 (0) (6) := (by rw [← ee17]; exact b3.2.2.2.2.2.1 47 (by decide))
  obtain ⟨v19, ee20⟩ : ∃ z : Int32, f1 48 = z := ⟨_, rfl⟩
  have b21 : Bd v19 (0) (3) := (by rw [← ee20]; exact b3.2.2.2.2.2.2.1 48 (by decide))
  obtain ⟨v22, ee23⟩ : ∃ z : Int32, f1 49 = z := ⟨_, rfl⟩
  have b24 : Bd v22 (0) (40) := (by rw [← ee23]; exact b3.2.2.2.2.2.2.2 49 (by decide))
  have ef7_0 : EFp (S 7) (S 7) 0 40 := fun _ _ _ => rfl
  refine lv_aload_n hx hb dX12_tells_0 rfl (lv_at hl 0 rfl) ?_
  obtain ⟨v25, v26, v28, v30, v32, v33, w34, v35, v37, v38, v39, v40, v42, v44, v46, v48, v50, v51, v52, c53, b27, b29, b31, b36, b41, b43, b45, b47, b49⟩ := invM_0 hI
  have c53 : S 0 = .inr (12, [.int v25, .ref (ad 1), .ref (ad 2), .ref (ad 3), .ref (ad 4), .ref (ad 5), .int v26, .int v28, .int v30, .int v32, .int v33, .long w34, .int v35, .int v37, .int v38, .int v39, .ref (ad 6), .ref (ad 7), .ref (ad 8), .ref (ad 9), .ref (ad 10), .ref (ad 11), .ref (ad 12), .ref (ad 13), .ref (ad 14), .ref (ad 15), .int v40, .int v42, .ref (ad 16), .int v44, .int v46, .int v48, .int v50, .int v51, .ref (ad 17), .ref (ad 18), .int v52, .ref (ad 19)]) := c53
  refine xget E hQ 0 (by decide) c53 rfl 17 (by decide) q1485 rfl dX12_tells_1 ?_
  refine lv_bipush (v := 40) hx hb dX12_tells_4 (by decide) ?_
  refine lv_iload_n hx hb dX12_tells_6 rfl (lv_at hl 1 rfl) ?_
  refine lv_iadd hx hb dX12_tells_7 ?_
  refine sb_at (P := fun z => W _ _ _ _ _ _ _ _ _ _ _ _ _ _ _ (F0 _ _ _ (.int z :: _))) (show (40 : Int32) + 6 = 46 by decide) ?_
  refine lv_iload_n hx hb dX12_tells_8 rfl (lv_at hl 2 rfl) ?_
  refine xiast E hs hQ 7 (by decide) c2 (vp_in_lit 46 50 (by decide)) dX12_tells_9 (fun H locs S54 eS54 hQ => ?_)
  have hI := invM_up_7 hI eS54 ⟨_, rfl, ⟨upd_mn b3.1 (by decide), upd_mn b3.2.1 (by decide), upd_mn b3.2.2.1 (by decide), upd_mn b3.2.2.2.1 (by decide), upd_m b3.2.2.2.2.1 ba2, upd_mn b3.2.2.2.2.2.1 (by decide), upd_mn b3.2.2.2.2.2.2.1 (by decide), upd_mn b3.2.2.2.2.2.2.2 (by decide)⟩⟩
  have b56 : (∀ j, j % 10 = 0 → Bd ((upd f1 (46 : Int32).toNatClampNeg a2) j) (0) (12)) ∧ (∀ j, j % 10 = 1 → Bd ((upd f1 (46 : Int32).toNatClampNeg a2) j) (0) (12)) ∧ (∀ j, j % 10 = 2 → Bd ((upd f1 (46 : Int32).toNatClampNeg a2) j) (0) (6)) ∧ (∀ j, j % 10 = 3 → Bd ((upd f1 (46 : Int32).toNatClampNeg a2) j) (0) (12)) ∧ (∀ j, j % 10 = 6 → Bd ((upd f1 (46 : Int32).toNatClampNeg a2) j) (0) (8)) ∧ (∀ j, j % 10 = 7 → Bd ((upd f1 (46 : Int32).toNatClampNeg a2) j) (0) (6)) ∧ (∀ j, j % 10 = 8 → Bd ((upd f1 (46 : Int32).toNatClampNeg a2) j) (0) (3)) ∧ (∀ j, j % 10 = 9 → Bd ((upd f1 (46 : Int32).toNatClampNeg a2) j) (0) (40)) := ⟨upd_mn b3.1 (by decide), upd_mn b3.2.1 (by decide), upd_mn b3.2.2.1 (by decide), upd_mn b3.2.2.2.1 (by decide), upd_m b3.2.2.2.2.1 ba2, upd_mn b3.2.2.2.2.2.1 (by decide), upd_mn b3.2.2.2.2.2.2.1 (by decide), upd_mn b3.2.2.2.2.2.2.2 (by decide)⟩
  have c55 : S54 7 = .inl (g.2 0, 50, .inl (upd f1 (46 : Int32).toNatClampNeg a2)) := up_at eS54 rfl
  have ef57 : EFp (S54 7) (S 7) 0 40 := ef_up ef7_0 c2 c55 (by decide)
  have q58 : elm (S54 7) 46 = a2.toInt := (elm_of c55 46).trans (congrArg Int32.toInt ((upd_s)))
  have q59 : elm (S 7) 40 = v7.toInt := (elm_of c2 40).trans (congrArg Int32.toInt (ee8))
  have q60 : elm (S54 7) 40 = v7.toInt := (elm_of c55 40).trans (congrArg Int32.toInt (((upd_o (by decide)).trans (ee8))))
  have q61 : elm (S 7) 41 = v10.toInt := (elm_of c2 41).trans (congrArg Int32.toInt (ee11))
  have q62 : elm (S54 7) 41 = v10.toInt := (elm_of c55 41).trans (congrArg Int32.toInt (((upd_o (by decide)).trans (ee11))))
  have q63 : elm (S 7) 43 = v13.toInt := (elm_of c2 43).trans (congrArg Int32.toInt (ee14))
  have q64 : elm (S54 7) 43 = v13.toInt := (elm_of c55 43).trans (congrArg Int32.toInt (((upd_o (by decide)).trans (ee14))))
  have q65 : elm (S 7) 47 = v16.toInt := (elm_of c2 47).trans (congrArg Int32.toInt (ee17))
  have q66 : elm (S54 7) 47 = v16.toInt := (elm_of c55 47).trans (congrArg Int32.toInt (((upd_o (by decide)).trans (ee17))))
  have q67 : elm (S 7) 48 = v19.toInt := (elm_of c2 48).trans (congrArg Int32.toInt (ee20))
  have q68 : elm (S54 7) 48 = v19.toInt := (elm_of c55 48).trans (congrArg Int32.toInt (((upd_o (by decide)).trans (ee20))))
  have q69 : elm (S 7) 49 = v22.toInt := (elm_of c2 49).trans (congrArg Int32.toInt (ee23))
  have q70 : elm (S54 7) 49 = v22.toInt := (elm_of c55 49).trans (congrArg Int32.toInt (((upd_o (by decide)).trans (ee23))))
  exact xrv E hr hlk hQ (⟨hI, (up_o o_refl eS54 (by decide)), ⟨by omega, by omega⟩, ⟨by omega, by omega⟩, ⟨by omega, by omega⟩, ⟨by omega, by omega⟩, ⟨by omega, by omega⟩, ⟨by omega, by omega⟩, ⟨by omega, by omega⟩, ef57⟩) dX12_tells_10
set_option maxHeartbeats 4000000 in
set_option maxRecDepth 100000 in
theorem gX12_tells_7 (l : Launch) (g : GG) (ad : Nat → Nat) (hD : Dj ad 20) (S : SS) (hI : InvM g ad S) (a2 : Int32) (ba2 : Bd a2 (0) (6)) : Met l yX12_tells (wG (.code yX12_tells cX12_tells 3 none)) (Rm 0) (XPre g ad 20 S [.ref (ad 0), .int 7, .int a2]) (va_Qv (fun S' => InvM g ad S' ∧ (∀ j, j ∉ ([7] : List Nat) → S' j = S j) ∧ (0 ≤ a2.toInt + (-1) * elm (S' 7) 47 ∧ 0 ≤ elm (S' 7) 47 + (-1) * a2.toInt) ∧ (0 ≤ elm (S 7) 40 + (-1) * elm (S' 7) 40 ∧ 0 ≤ elm (S' 7) 40 + (-1) * elm (S 7) 40) ∧ (0 ≤ elm (S 7) 41 + (-1) * elm (S' 7) 41 ∧ 0 ≤ elm (S' 7) 41 + (-1) * elm (S 7) 41) ∧ (0 ≤ elm (S 7) 43 + (-1) * elm (S' 7) 43 ∧ 0 ≤ elm (S' 7) 43 + (-1) * elm (S 7) 43) ∧ (0 ≤ elm (S 7) 46 + (-1) * elm (S' 7) 46 ∧ 0 ≤ elm (S' 7) 46 + (-1) * elm (S 7) 46) ∧ (0 ≤ elm (S 7) 48 + (-1) * elm (S' 7) 48 ∧ 0 ≤ elm (S' 7) 48 + (-1) * elm (S 7) 48) ∧ (0 ≤ elm (S 7) 49 + (-1) * elm (S' 7) 49 ∧ 0 ≤ elm (S' 7) 49 + (-1) * elm (S 7) 49) ∧ EFp (S' 7) (S 7) 0 40) (QB g ad 20) (FA ad 20)) 0 0 (FA ad 20) := by
  refine xmet cX12_tells "EbbWreckModel" (by decide) rfl (Nat.le_of_ble_eq_true rfl) (fun p e s m below meth c E hr hlk hml hQ ls hl => ?_)
  have hx := E.1
  have hb := E.2.1
  have hs : Sp ad 20 (FA ad 20) := Sp.fa hD
  have hl : lv_has ls 3 [(0, .ref (ad 0)), (1, .int 7), (2, .int a2)] := hl
  obtain ⟨f1, c2, b3⟩ := invM_7 hI
  obtain ⟨v4, ee5⟩ : ∃ z : Int32, f1 47 = z := ⟨_, rfl⟩
  have b6 : Bd v4 (0) (6) := (by rw [← ee5]; exact b3.2.2.2.2.2.1 47 (by decide))
  obtain ⟨v7, ee8⟩ : ∃ z : Int32, f1 40 = z := ⟨_, rfl⟩
  have b9 : Bd v7 (0) (12) := (by rw [← ee8]; exact b3.1 40 (by decide))
  obtain ⟨v10, ee11⟩ : ∃ z : Int32, f1 41 = z := ⟨_, rfl⟩
  have b12 : Bd v10 (0) (12) := (by rw [← ee11]; exact b3.2.1 41 (by decide))
  obtain ⟨v13, ee14⟩ : ∃ z : Int32, f1 43 = z := ⟨_, rfl⟩
  have b15 : Bd v13 (0) (12) := (by rw [← ee14]; exact b3.2.2.2.1 43 (by decide))
  obtain ⟨v16, ee17⟩ : ∃ z : Int32, f1 46 = z := ⟨_, rfl⟩
  have b18 : Bd v16 (0) (8) := (by rw [← ee17]; exact b3.2.2.2.2.1 46 (by decide))
  obtain ⟨v19, ee20⟩ : ∃ z : Int32, f1 48 = z := ⟨_, rfl⟩
  have b21 : Bd v19 (0) (3) := (by rw [← ee20]; exact b3.2.2.2.2.2.2.1 48 (by decide))
  obtain ⟨v22, ee23⟩ : ∃ z : Int32, f1 49 = z := ⟨_, rfl⟩
  have b24 : Bd v22 (0) (40) := (by rw [← ee23]; exact b3.2.2.2.2.2.2.2 49 (by decide))
  have ef7_0 : EFp (S 7) (S 7) 0 40 := fun _ _ _ => rfl
  refine lv_aload_n hx hb dX12_tells_0 rfl (lv_at hl 0 rfl) ?_
  obtain ⟨v25, v26, v28, v30, v32, v33, w34, v35, v37, v38, v39, v40, v42, v44, v46, v48, v50, v51, v52, c53, b27, b29, b31, b36, b41, b43, b45, b47, b49⟩ := invM_0 hI
  have c53 : S 0 = .inr (12, [.int v25, .ref (ad 1), .ref (ad 2), .ref (ad 3), .ref (ad 4), .ref (ad 5), .int v26, .int v28, .int v30, .int v32, .int v33, .long w34, .int v35, .int v37, .int v38, .int v39, .ref (ad 6), .ref (ad 7), .ref (ad 8), .ref (ad 9), .ref (ad 10), .ref (ad 11), .ref (ad 12), .ref (ad 13), .ref (ad 14), .ref (ad 15), .int v40, .int v42, .ref (ad 16), .int v44, .int v46, .int v48, .int v50, .int v51, .ref (ad 17), .ref (ad 18), .int v52, .ref (ad 19)]) := c53
  refine xget E hQ 0 (by decide) c53 rfl 17 (by decide) q1485 rfl dX12_tells_1 ?_
  refine lv_bipush (v := 40) hx hb dX12_tells_4 (by decide) ?_
  refine lv_iload_n hx hb dX12_tells_6 rfl (lv_at hl 1 rfl) ?_
  refine lv_iadd hx hb dX12_tells_7 ?_
  refine sb_at (P := fun z => W _ _ _ _ _ _ _ _ _ _ _ _ _ _ _ (F0 _ _ _ (.int z :: _))) (show (40 : Int32) + 7 = 47 by decide) ?_
  refine lv_iload_n hx hb dX12_tells_8 rfl (lv_at hl 2 rfl) ?_
  refine xiast E hs hQ 7 (by decide) c2 (vp_in_lit 47 50 (by decide)) dX12_tells_9 (fun H locs S54 eS54 hQ => ?_)
  have hI := invM_up_7 hI eS54 ⟨_, rfl, ⟨upd_mn b3.1 (by decide), upd_mn b3.2.1 (by decide), upd_mn b3.2.2.1 (by decide), upd_mn b3.2.2.2.1 (by decide), upd_mn b3.2.2.2.2.1 (by decide), upd_m b3.2.2.2.2.2.1 ba2, upd_mn b3.2.2.2.2.2.2.1 (by decide), upd_mn b3.2.2.2.2.2.2.2 (by decide)⟩⟩
  have b56 : (∀ j, j % 10 = 0 → Bd ((upd f1 (47 : Int32).toNatClampNeg a2) j) (0) (12)) ∧ (∀ j, j % 10 = 1 → Bd ((upd f1 (47 : Int32).toNatClampNeg a2) j) (0) (12)) ∧ (∀ j, j % 10 = 2 → Bd ((upd f1 (47 : Int32).toNatClampNeg a2) j) (0) (6)) ∧ (∀ j, j % 10 = 3 → Bd ((upd f1 (47 : Int32).toNatClampNeg a2) j) (0) (12)) ∧ (∀ j, j % 10 = 6 → Bd ((upd f1 (47 : Int32).toNatClampNeg a2) j) (0) (8)) ∧ (∀ j, j % 10 = 7 → Bd ((upd f1 (47 : Int32).toNatClampNeg a2) j) (0) (6)) ∧ (∀ j, j % 10 = 8 → Bd ((upd f1 (47 : Int32).toNatClampNeg a2) j) (0) (3)) ∧ (∀ j, j % 10 = 9 → Bd ((upd f1 (47 : Int32).toNatClampNeg a2) j) (0) (40)) := ⟨upd_mn b3.1 (by decide), upd_mn b3.2.1 (by decide), upd_mn b3.2.2.1 (by decide), upd_mn b3.2.2.2.1 (by decide), upd_mn b3.2.2.2.2.1 (by decide), upd_m b3.2.2.2.2.2.1 ba2, upd_mn b3.2.2.2.2.2.2.1 (by decide), upd_mn b3.2.2.2.2.2.2.2 (by decide)⟩
  have c55 : S54 7 = .inl (g.2 0, 50, .inl (upd f1 (47 : Int32).toNatClampNeg a2)) := up_at eS54 rfl
  have ef57 : EFp (S54 7) (S 7) 0 40 := ef_up ef7_0 c2 c55 (by decide)
  have q58 : elm (S54 7) 47 = a2.toInt := (elm_of c55 47).trans (congrArg Int32.toInt ((upd_s)))
  have q59 : elm (S 7) 40 = v7.toInt := (elm_of c2 40).trans (congrArg Int32.toInt (ee8))
  have q60 : elm (S54 7) 40 = v7.toInt := (elm_of c55 40).trans (congrArg Int32.toInt (((upd_o (by decide)).trans (ee8))))
  have q61 : elm (S 7) 41 = v10.toInt := (elm_of c2 41).trans (congrArg Int32.toInt (ee11))
  have q62 : elm (S54 7) 41 = v10.toInt := (elm_of c55 41).trans (congrArg Int32.toInt (((upd_o (by decide)).trans (ee11))))
  have q63 : elm (S 7) 43 = v13.toInt := (elm_of c2 43).trans (congrArg Int32.toInt (ee14))
  have q64 : elm (S54 7) 43 = v13.toInt := (elm_of c55 43).trans (congrArg Int32.toInt (((upd_o (by decide)).trans (ee14))))
  have q65 : elm (S 7) 46 = v16.toInt := (elm_of c2 46).trans (congrArg Int32.toInt (ee17))
  have q66 : elm (S54 7) 46 = v16.toInt := (elm_of c55 46).trans (congrArg Int32.toInt (((upd_o (by decide)).trans (ee17))))
  have q67 : elm (S 7) 48 = v19.toInt := (elm_of c2 48).trans (congrArg Int32.toInt (ee20))
  have q68 : elm (S54 7) 48 = v19.toInt := (elm_of c55 48).trans (congrArg Int32.toInt (((upd_o (by decide)).trans (ee20))))
  have q69 : elm (S 7) 49 = v22.toInt := (elm_of c2 49).trans (congrArg Int32.toInt (ee23))
  have q70 : elm (S54 7) 49 = v22.toInt := (elm_of c55 49).trans (congrArg Int32.toInt (((upd_o (by decide)).trans (ee23))))
  exact xrv E hr hlk hQ (⟨hI, (up_o o_refl eS54 (by decide)), ⟨by omega, by omega⟩, ⟨by omega, by omega⟩, ⟨by omega, by omega⟩, ⟨by omega, by omega⟩, ⟨by omega, by omega⟩, ⟨by omega, by omega⟩, ⟨by omega, by omega⟩, ef57⟩) dX12_tells_10
set_option maxHeartbeats 4000000 in
set_option maxRecDepth 100000 in
theorem gX12_tells_8 (l : Launch) (g : GG) (ad : Nat → Nat) (hD : Dj ad 20) (S : SS) (hI : InvM g ad S) (a2 : Int32) (ba2 : Bd a2 (0) (3)) : Met l yX12_tells (wG (.code yX12_tells cX12_tells 3 none)) (Rm 0) (XPre g ad 20 S [.ref (ad 0), .int 8, .int a2]) (va_Qv (fun S' => InvM g ad S' ∧ (∀ j, j ∉ ([7] : List Nat) → S' j = S j) ∧ (0 ≤ a2.toInt + (-1) * elm (S' 7) 48 ∧ 0 ≤ elm (S' 7) 48 + (-1) * a2.toInt) ∧ (0 ≤ elm (S 7) 40 + (-1) * elm (S' 7) 40 ∧ 0 ≤ elm (S' 7) 40 + (-1) * elm (S 7) 40) ∧ (0 ≤ elm (S 7) 41 + (-1) * elm (S' 7) 41 ∧ 0 ≤ elm (S' 7) 41 + (-1) * elm (S 7) 41) ∧ (0 ≤ elm (S 7) 43 + (-1) * elm (S' 7) 43 ∧ 0 ≤ elm (S' 7) 43 + (-1) * elm (S 7) 43) ∧ (0 ≤ elm (S 7) 46 + (-1) * elm (S' 7) 46 ∧ 0 ≤ elm (S' 7) 46 + (-1) * elm (S 7) 46) ∧ (0 ≤ elm (S 7) 47 + (-1) * elm (S' 7) 47 ∧ 0 ≤ elm (S' 7) 47 + (-1) * elm (S 7) 47) ∧ (0 ≤ elm (S 7) 49 + (-1) * elm (S' 7) 49 ∧ 0 ≤ elm (S' 7) 49 + (-1) * elm (S 7) 49) ∧ EFp (S' 7) (S 7) 0 40) (QB g ad 20) (FA ad 20)) 0 0 (FA ad 20) := by
  refine xmet cX12_tells "EbbWreckModel" (by decide) rfl (Nat.le_of_ble_eq_true rfl) (fun p e s m below meth c E hr hlk hml hQ ls hl => ?_)
  have hx := E.1
  have hb := E.2.1
  have hs : Sp ad 20 (FA ad 20) := Sp.fa hD
  have hl : lv_has ls 3 [(0, .ref (ad 0)), (1, .int 8), (2, .int a2)] := hl
  obtain ⟨f1, c2, b3⟩ := invM_7 hI
  obtain ⟨v4, ee5⟩ : ∃ z : Int32, f1 48 = z := ⟨_, rfl⟩
  have b6 : Bd v4 (0) (3) := (by rw [← ee5]; exact b3.2.2.2.2.2.2.1 48 (by decide))
  obtain ⟨v7, ee8⟩ : ∃ z : Int32, f1 40 = z := ⟨_, rfl⟩
  have b9 : Bd v7 (0) (12) := (by rw [← ee8]; exact b3.1 40 (by decide))
  obtain ⟨v10, ee11⟩ : ∃ z : Int32, f1 41 = z := ⟨_, rfl⟩
  have b12 : Bd v10 (0) (12) := (by rw [← ee11]; exact b3.2.1 41 (by decide))
  obtain ⟨v13, ee14⟩ : ∃ z : Int32, f1 43 = z := ⟨_, rfl⟩
  have b15 : Bd v13 (0) (12) := (by rw [← ee14]; exact b3.2.2.2.1 43 (by decide))
  obtain ⟨v16, ee17⟩ : ∃ z : Int32, f1 46 = z := ⟨_, rfl⟩
  have b18 : Bd v16 (0) (8) := (by rw [← ee17]; exact b3.2.2.2.2.1 46 (by decide))
  obtain ⟨v19, ee20⟩ : ∃ z : Int32, f1 47 = z := ⟨_, rfl⟩
  have b21 : Bd v19 (0) (6) := (by rw [← ee20]; exact b3.2.2.2.2.2.1 47 (by decide))
  obtain ⟨v22, ee23⟩ : ∃ z : Int32, f1 49 = z := ⟨_, rfl⟩
  have b24 : Bd v22 (0) (40) := (by rw [← ee23]; exact b3.2.2.2.2.2.2.2 49 (by decide))
  have ef7_0 : EFp (S 7) (S 7) 0 40 := fun _ _ _ => rfl
  refine lv_aload_n hx hb dX12_tells_0 rfl (lv_at hl 0 rfl) ?_
  obtain ⟨v25, v26, v28, v30, v32, v33, w34, v35, v37, v38, v39, v40, v42, v44, v46, v48, v50, v51, v52, c53, b27, b29, b31, b36, b41, b43, b45, b47, b49⟩ := invM_0 hI
  have c53 : S 0 = .inr (12, [.int v25, .ref (ad 1), .ref (ad 2), .ref (ad 3), .ref (ad 4), .ref (ad 5), .int v26, .int v28, .int v30, .int v32, .int v33, .long w34, .int v35, .int v37, .int v38, .int v39, .ref (ad 6), .ref (ad 7), .ref (ad 8), .ref (ad 9), .ref (ad 10), .ref (ad 11), .ref (ad 12), .ref (ad 13), .ref (ad 14), .ref (ad 15), .int v40, .int v42, .ref (ad 16), .int v44, .int v46, .int v48, .int v50, .int v51, .ref (ad 17), .ref (ad 18), .int v52, .ref (ad 19)]) := c53
  refine xget E hQ 0 (by decide) c53 rfl 17 (by decide) q1485 rfl dX12_tells_1 ?_
  refine lv_bipush (v := 40) hx hb dX12_tells_4 (by decide) ?_
  refine lv_iload_n hx hb dX12_tells_6 rfl (lv_at hl 1 rfl) ?_
  refine lv_iadd hx hb dX12_tells_7 ?_
  refine sb_at (P := fun z => W _ _ _ _ _ _ _ _ _ _ _ _ _ _ _ (F0 _ _ _ (.int z :: _))) (show (40 : Int32) + 8 = 48 by decide) ?_
  refine lv_iload_n hx hb dX12_tells_8 rfl (lv_at hl 2 rfl) ?_
  refine xiast E hs hQ 7 (by decide) c2 (vp_in_lit 48 50 (by decide)) dX12_tells_9 (fun H locs S54 eS54 hQ => ?_)
  have hI := invM_up_7 hI eS54 ⟨_, rfl, ⟨upd_mn b3.1 (by decide), upd_mn b3.2.1 (by decide), upd_mn b3.2.2.1 (by decide), upd_mn b3.2.2.2.1 (by decide), upd_mn b3.2.2.2.2.1 (by decide), upd_mn b3.2.2.2.2.2.1 (by decide), upd_m b3.2.2.2.2.2.2.1 ba2, upd_mn b3.2.2.2.2.2.2.2 (by decide)⟩⟩
  have b56 : (∀ j, j % 10 = 0 → Bd ((upd f1 (48 : Int32).toNatClampNeg a2) j) (0) (12)) ∧ (∀ j, j % 10 = 1 → Bd ((upd f1 (48 : Int32).toNatClampNeg a2) j) (0) (12)) ∧ (∀ j, j % 10 = 2 → Bd ((upd f1 (48 : Int32).toNatClampNeg a2) j) (0) (6)) ∧ (∀ j, j % 10 = 3 → Bd ((upd f1 (48 : Int32).toNatClampNeg a2) j) (0) (12)) ∧ (∀ j, j % 10 = 6 → Bd ((upd f1 (48 : Int32).toNatClampNeg a2) j) (0) (8)) ∧ (∀ j, j % 10 = 7 → Bd ((upd f1 (48 : Int32).toNatClampNeg a2) j) (0) (6)) ∧ (∀ j, j % 10 = 8 → Bd ((upd f1 (48 : Int32).toNatClampNeg a2) j) (0) (3)) ∧ (∀ j, j % 10 = 9 → Bd ((upd f1 (48 : Int32).toNatClampNeg a2) j) (0) (40)) := ⟨upd_mn b3.1 (by decide), upd_mn b3.2.1 (by decide), upd_mn b3.2.2.1 (by decide), upd_mn b3.2.2.2.1 (by decide), upd_mn b3.2.2.2.2.1 (by decide), upd_mn b3.2.2.2.2.2.1 (by decide), upd_m b3.2.2.2.2.2.2.1 ba2, upd_mn b3.2.2.2.2.2.2.2 (by decide)⟩
  have c55 : S54 7 = .inl (g.2 0, 50, .inl (upd f1 (48 : Int32).toNatClampNeg a2)) := up_at eS54 rfl
  have ef57 : EFp (S54 7) (S 7) 0 40 := ef_up ef7_0 c2 c55 (by decide)
  have q58 : elm (S54 7) 48 = a2.toInt := (elm_of c55 48).trans (congrArg Int32.toInt ((upd_s)))
  have q59 : elm (S 7) 40 = v7.toInt := (elm_of c2 40).trans (congrArg Int32.toInt (ee8))
  have q60 : elm (S54 7) 40 = v7.toInt := (elm_of c55 40).trans (congrArg Int32.toInt (((upd_o (by decide)).trans (ee8))))
  have q61 : elm (S 7) 41 = v10.toInt := (elm_of c2 41).trans (congrArg Int32.toInt (ee11))
  have q62 : elm (S54 7) 41 = v10.toInt := (elm_of c55 41).trans (congrArg Int32.toInt (((upd_o (by decide)).trans (ee11))))
  have q63 : elm (S 7) 43 = v13.toInt := (elm_of c2 43).trans (congrArg Int32.toInt (ee14))
  have q64 : elm (S54 7) 43 = v13.toInt := (elm_of c55 43).trans (congrArg Int32.toInt (((upd_o (by decide)).trans (ee14))))
  have q65 : elm (S 7) 46 = v16.toInt := (elm_of c2 46).trans (congrArg Int32.toInt (ee17))
  have q66 : elm (S54 7) 46 = v16.toInt := (elm_of c55 46).trans (congrArg Int32.toInt (((upd_o (by decide)).trans (ee17))))
  have q67 : elm (S 7) 47 = v19.toInt := (elm_of c2 47).trans (congrArg Int32.toInt (ee20))
  have q68 : elm (S54 7) 47 = v19.toInt := (elm_of c55 47).trans (congrArg Int32.toInt (((upd_o (by decide)).trans (ee20))))
  have q69 : elm (S 7) 49 = v22.toInt := (elm_of c2 49).trans (congrArg Int32.toInt (ee23))
  have q70 : elm (S54 7) 49 = v22.toInt := (elm_of c55 49).trans (congrArg Int32.toInt (((upd_o (by decide)).trans (ee23))))
  exact xrv E hr hlk hQ (⟨hI, (up_o o_refl eS54 (by decide)), ⟨by omega, by omega⟩, ⟨by omega, by omega⟩, ⟨by omega, by omega⟩, ⟨by omega, by omega⟩, ⟨by omega, by omega⟩, ⟨by omega, by omega⟩, ⟨by omega, by omega⟩, ef57⟩) dX12_tells_10
set_option maxHeartbeats 4000000 in
set_option maxRecDepth 100000 in
theorem gX12_tells_9 (l : Launch) (g : GG) (ad : Nat → Nat) (hD : Dj ad 20) (S : SS) (hI : InvM g ad S) (a2 : Int32) (ba2 : Bd a2 (0) (40)) : Met l yX12_tells (wG (.code yX12_tells cX12_tells 3 none)) (Rm 0) (XPre g ad 20 S [.ref (ad 0), .int 9, .int a2]) (va_Qv (fun S' => InvM g ad S' ∧ (∀ j, j ∉ ([7] : List Nat) → S' j = S j) ∧ (0 ≤ a2.toInt + (-1) * elm (S' 7) 49 ∧ 0 ≤ elm (S' 7) 49 + (-1) * a2.toInt) ∧ (0 ≤ elm (S 7) 40 + (-1) * elm (S' 7) 40 ∧ 0 ≤ elm (S' 7) 40 + (-1) * elm (S 7) 40) ∧ (0 ≤ elm (S 7) 41 + (-1) * elm (S' 7) 41 ∧ 0 ≤ elm (S' 7) 41 + (-1) * elm (S 7) 41) ∧ (0 ≤ elm (S 7) 43 + (-1) * elm (S' 7) 43 ∧ 0 ≤ elm (S' 7) 43 + (-1) * elm (S 7) 43) ∧ (0 ≤ elm (S 7) 46 + (-1) * elm (S' 7) 46 ∧ 0 ≤ elm (S' 7) 46 + (-1) * elm (S 7) 46) ∧ (0 ≤ elm (S 7) 47 + (-1) * elm (S' 7) 47 ∧ 0 ≤ elm (S' 7) 47 + (-1) * elm (S 7) 47) ∧ (0 ≤ elm (S 7) 48 + (-1) * elm (S' 7) 48 ∧ 0 ≤ elm (S' 7) 48 + (-1) * elm (S 7) 48) ∧ EFp (S' 7) (S 7) 0 40) (QB g ad 20) (FA ad 20)) 0 0 (FA ad 20) := by
  refine xmet cX12_tells "EbbWreckModel" (by decide) rfl (Nat.le_of_ble_eq_true rfl) (fun p e s m below meth c E hr hlk hml hQ ls hl => ?_)
  have hx := E.1
  have hb := E.2.1
  have hs : Sp ad 20 (FA ad 20) := Sp.fa hD
  have hl : lv_has ls 3 [(0, .ref (ad 0)), (1, .int 9), (2, .int a2)] := hl
  obtain ⟨f1, c2, b3⟩ := invM_7 hI
  obtain ⟨v4, ee5⟩ : ∃ z : Int32, f1 49 = z := ⟨_, rfl⟩
  have b6 : Bd v4 (0) (40) := (by rw [← ee5]; exact b3.2.2.2.2.2.2.2 49 (by decide))
  obtain ⟨v7, ee8⟩ : ∃ z : Int32, f1 40 = z := ⟨_, rfl⟩
  have b9 : Bd v7 (0) (12) := (by rw [← ee8]; exact b3.1 40 (by decide))
  obtain ⟨v10, ee11⟩ : ∃ z : Int32, f1 41 = z := ⟨_, rfl⟩
  have b12 : Bd v10 (0) (12) := (by rw [← ee11]; exact b3.2.1 41 (by decide))
  obtain ⟨v13, ee14⟩ : ∃ z : Int32, f1 43 = z := ⟨_, rfl⟩
  have b15 : Bd v13 (0) (12) := (by rw [← ee14]; exact b3.2.2.2.1 43 (by decide))
  obtain ⟨v16, ee17⟩ : ∃ z : Int32, f1 46 = z := ⟨_, rfl⟩
  have b18 : Bd v16 (0) (8) := (by rw [← ee17]; exact b3.2.2.2.2.1 46 (by decide))
  obtain ⟨v19, ee20⟩ : ∃ z : Int32, f1 47 = z := ⟨_, rfl⟩
  have b21 : Bd v19 (0) (6) := (by rw [← ee20]; exact b3.2.2.2.2.2.1 47 (by decide))
  obtain ⟨v22, ee23⟩ : ∃ z : Int32, f1 48 = z := ⟨_, rfl⟩
  have b24 : Bd v22 (0) (3) := (by rw [← ee23]; exact b3.2.2.2.2.2.2.1 48 (by decide))
  have ef7_0 : EFp (S 7) (S 7) 0 40 := fun _ _ _ => rfl
  refine lv_aload_n hx hb dX12_tells_0 rfl (lv_at hl 0 rfl) ?_
  obtain ⟨v25, v26, v28, v30, v32, v33, w34, v35, v37, v38, v39, v40, v42, v44, v46, v48, v50, v51, v52, c53, b27, b29, b31, b36, b41, b43, b45, b47, b49⟩ := invM_0 hI
  have c53 : S 0 = .inr (12, [.int v25, .ref (ad 1), .ref (ad 2), .ref (ad 3), .ref (ad 4), .ref (ad 5), .int v26, .int v28, .int v30, .int v32, .int v33, .long w34, .int v35, .int v37, .int v38, .int v39, .ref (ad 6), .ref (ad 7), .ref (ad 8), .ref (ad 9), .ref (ad 10), .ref (ad 11), .ref (ad 12), .ref (ad 13), .ref (ad 14), .ref (ad 15), .int v40, .int v42, .ref (ad 16), .int v44, .int v46, .int v48, .int v50, .int v51, .ref (ad 17), .ref (ad 18), .int v52, .ref (ad 19)]) := c53
  refine xget E hQ 0 (by decide) c53 rfl 17 (by decide) q1485 rfl dX12_tells_1 ?_
  refine lv_bipush (v := 40) hx hb dX12_tells_4 (by decide) ?_
  refine lv_iload_n hx hb dX12_tells_6 rfl (lv_at hl 1 rfl) ?_
  refine lv_iadd hx hb dX12_tells_7 ?_
  refine sb_at (P := fun z => W _ _ _ _ _ _ _ _ _ _ _ _ _ _ _ (F0 _ _ _ (.int z :: _))) (show (40 : Int32) + 9 = 49 by decide) ?_
  refine lv_iload_n hx hb dX12_tells_8 rfl (lv_at hl 2 rfl) ?_
  refine xiast E hs hQ 7 (by decide) c2 (vp_in_lit 49 50 (by decide)) dX12_tells_9 (fun H locs S54 eS54 hQ => ?_)
  have hI := invM_up_7 hI eS54 ⟨_, rfl, ⟨upd_mn b3.1 (by decide), upd_mn b3.2.1 (by decide), upd_mn b3.2.2.1 (by decide), upd_mn b3.2.2.2.1 (by decide), upd_mn b3.2.2.2.2.1 (by decide), upd_mn b3.2.2.2.2.2.1 (by decide), upd_mn b3.2.2.2.2.2.2.1 (by decide), upd_m b3.2.2.2.2.2.2.2 ba2⟩⟩
  have b56 : (∀ j, j % 10 = 0 → Bd ((upd f1 (49 : Int32).toNatClampNeg a2) j) (0) (12)) ∧ (∀ j, j % 10 = 1 → Bd ((upd f1 (49 : Int32).toNatClampNeg a2) j) (0) (12)) ∧ (∀ j, j % 10 = 2 → Bd ((upd f1 (49 : Int32).toNatClampNeg a2) j) (0) (6)) ∧ (∀ j, j % 10 = 3 → Bd ((upd f1 (49 : Int32).toNatClampNeg a2) j) (0) (12)) ∧ (∀ j, j % 10 = 6 → Bd ((upd f1 (49 : Int32).toNatClampNeg a2) j) (0) (8)) ∧ (∀ j, j % 10 = 7 → Bd ((upd f1 (49 : Int32).toNatClampNeg a2) j) (0) (6)) ∧ (∀ j, j % 10 = 8 → Bd ((upd f1 (49 : Int32).toNatClampNeg a2) j) (0) (3)) ∧ (∀ j, j % 10 = 9 → Bd ((upd f1 (49 : Int32).toNatClampNeg a2) j) (0) (40)) := ⟨upd_mn b3.1 (by decide), upd_mn b3.2.1 (by decide), upd_mn b3.2.2.1 (by decide), upd_mn b3.2.2.2.1 (by decide), upd_mn b3.2.2.2.2.1 (by decide), upd_mn b3.2.2.2.2.2.1 (by decide), upd_mn b3.2.2.2.2.2.2.1 (by decide), upd_m b3.2.2.2.2.2.2.2 ba2⟩
  have c55 : S54 7 = .inl (g.2 0, 50, .inl (upd f1 (49 : Int32).toNatClampNeg a2)) := up_at eS54 rfl
  have ef57 : EFp (S54 7) (S 7) 0 40 := ef_up ef7_0 c2 c55 (by decide)
  have q58 : elm (S54 7) 49 = a2.toInt := (elm_of c55 49).trans (congrArg Int32.toInt ((upd_s)))
  have q59 : elm (S 7) 40 = v7.toInt := (elm_of c2 40).trans (congrArg Int32.toInt (ee8))
  have q60 : elm (S54 7) 40 = v7.toInt := (elm_of c55 40).trans (congrArg Int32.toInt (((upd_o (by decide)).trans (ee8))))
  have q61 : elm (S 7) 41 = v10.toInt := (elm_of c2 41).trans (congrArg Int32.toInt (ee11))
  have q62 : elm (S54 7) 41 = v10.toInt := (elm_of c55 41).trans (congrArg Int32.toInt (((upd_o (by decide)).trans (ee11))))
  have q63 : elm (S 7) 43 = v13.toInt := (elm_of c2 43).trans (congrArg Int32.toInt (ee14))
  have q64 : elm (S54 7) 43 = v13.toInt := (elm_of c55 43).trans (congrArg Int32.toInt (((upd_o (by decide)).trans (ee14))))
  have q65 : elm (S 7) 46 = v16.toInt := (elm_of c2 46).trans (congrArg Int32.toInt (ee17))
  have q66 : elm (S54 7) 46 = v16.toInt := (elm_of c55 46).trans (congrArg Int32.toInt (((upd_o (by decide)).trans (ee17))))
  have q67 : elm (S 7) 47 = v19.toInt := (elm_of c2 47).trans (congrArg Int32.toInt (ee20))
  have q68 : elm (S54 7) 47 = v19.toInt := (elm_of c55 47).trans (congrArg Int32.toInt (((upd_o (by decide)).trans (ee20))))
  have q69 : elm (S 7) 48 = v22.toInt := (elm_of c2 48).trans (congrArg Int32.toInt (ee23))
  have q70 : elm (S54 7) 48 = v22.toInt := (elm_of c55 48).trans (congrArg Int32.toInt (((upd_o (by decide)).trans (ee23))))
  exact xrv E hr hlk hQ (⟨hI, (up_o o_refl eS54 (by decide)), ⟨by omega, by omega⟩, ⟨by omega, by omega⟩, ⟨by omega, by omega⟩, ⟨by omega, by omega⟩, ⟨by omega, by omega⟩, ⟨by omega, by omega⟩, ⟨by omega, by omega⟩, ef57⟩) dX12_tells_10
set_option maxHeartbeats 4000000 in
set_option maxRecDepth 100000 in
theorem gX12_cellHere_0 (l : Launch) (g : GG) (ad : Nat → Nat) (hD : Dj ad 20) (S : SS) (hI : InvM g ad S) (hq1 : 0 ≤ fld (S 0) 6 + (-1) * fld (S 0) 7) : Met l yX12_cellHere (wG (.code yX12_cellHere cX12_cellHere 1 (some .int))) (Rm 3) (XPre g ad 20 S [.ref (ad 0)]) (va_Qi (fun r S' => InvM g ad S' ∧ (∀ j, j ∉ ([0] : List Nat) → S' j = S j) ∧ Bd r (0) (11) ∧ (0 ≤ fld (S' 0) 6 + (-1) * fld (S' 0) 7) ∧ (0 ≤ fld (S 0) 6 + (-1) * fld (S' 0) 6 ∧ 0 ≤ fld (S' 0) 6 + (-1) * fld (S 0) 6) ∧ (0 ≤ 4 * fld (S 0) 6 + (-4) * fld (S 0) 7 + fld (S 0) 8 + (-4) * fld (S' 0) 6 + 4 * fld (S' 0) 7 + (-1) * fld (S' 0) 8)) (QB g ad 20) (FA ad 20)) 0 0 (FA ad 20) := by
  refine xmet cX12_cellHere "EbbWreckModel" (by decide) rfl (Nat.le_of_ble_eq_true rfl) (fun p e s m below meth c E hr hlk hml hQ ls hl => ?_)
  have hx := E.1
  have hb := E.2.1
  have hs : Sp ad 20 (FA ad 20) := Sp.fa hD
  have hl : lv_has ls 1 [(0, .ref (ad 0))] := hl
  obtain ⟨v1, v2, v4, v6, v8, v9, w10, v11, v13, v14, v15, v16, v18, v20, v22, v24, v26, v27, v28, c29, b3, b5, b7, b12, b17, b19, b21, b23, b25⟩ := invM_0 hI
  have c29 : S 0 = .inr (12, [.int v1, .ref (ad 1), .ref (ad 2), .ref (ad 3), .ref (ad 4), .ref (ad 5), .int v2, .int v4, .int v6, .int v8, .int v9, .long w10, .int v11, .int v13, .int v14, .int v15, .ref (ad 6), .ref (ad 7), .ref (ad 8), .ref (ad 9), .ref (ad 10), .ref (ad 11), .ref (ad 12), .ref (ad 13), .ref (ad 14), .ref (ad 15), .int v16, .int v18, .ref (ad 16), .int v20, .int v22, .int v24, .int v26, .int v27, .ref (ad 17), .ref (ad 18), .int v28, .ref (ad 19)]) := c29
  have q30 : fld (S 0) 6 = v2.toInt := fld_of c29 rfl
  have q31 : fld (S 0) 7 = v4.toInt := fld_of c29 rfl
  refine lv_aload_n hx hb dX12_cellHere_0 rfl (lv_at hl 0 rfl) ?_
  refine lv_iconst (v := 0) hx hb dX12_cellHere_1 (by decide) ?_
  refine lv_aload_n hx hb dX12_cellHere_2 rfl (lv_at hl 0 rfl) ?_
  refine lv_iconst (v := 0) hx hb dX12_cellHere_3 (by decide) ?_
  obtain ⟨f32, c33, b34⟩ := invM_7 hI
  obtain ⟨v35, ee36⟩ : ∃ z : Int32, f32 40 = z := ⟨_, rfl⟩
  have b37 : Bd v35 (0) (12) := (by rw [← ee36]; exact b34.1 40 (by decide))
  refine xcVi E hs hQ hml hl.1 0 (gX12_hasRead_0 l g ad hD S hI ) mX12_hasRead q1697 (by decide) c29 rfl rfl ⟨(Nat.le_of_ble_eq_true rfl), (Nat.le_of_ble_eq_true rfl)⟩ ⟨(Nat.le_of_ble_eq_true rfl), (Nat.le_of_ble_eq_true rfl)⟩ (Nat.le_of_ble_eq_true rfl) rfl dX12_cellHere_4 (fun r38 S38 H locs hp38 hQ _ => ?_)
  obtain ⟨rfl, b38, g38_0⟩ := hp38
  have q39 : elm (S 7) 40 = v35.toInt := (elm_of c33 40).trans (congrArg Int32.toInt (ee36))
  refine lv_iconst (v := 1) hx hb dX12_cellHere_7 (by decide) ?_
  refine lv_isub hx hb dX12_cellHere_8 ?_
  refine lv_topi (fun z40 e41 => ?_)
  have t42 := ib_sub e41 b38 (by decide : Bd 1 (1) (1)) (by decide) (by decide)
  have b43 : Bd z40 (-1) (11) := ib_subb t42 b38 (by decide : Bd 1 (1) (1))
  have t42 : z40.toInt = r38.toInt - 1 := fold_sub t42 rfl (by decide)
  refine xcVi E hs hQ hml hl.1 0 (gX12_number_8 l g ad hD S hI 0 z40 (by decide : Bd 0 (0) (0)) b43 (by omega)) mX12_number q1676 (by decide) c29 rfl rfl ⟨(Nat.le_of_ble_eq_true rfl), (Nat.le_of_ble_eq_true rfl)⟩ ⟨(Nat.le_of_ble_eq_true rfl), (Nat.le_of_ble_eq_true rfl)⟩ (Nat.le_of_ble_eq_true rfl) rfl dX12_cellHere_9 (fun r44 S44 H locs hp44 hQ _ => ?_)
  obtain ⟨hI, o44, b44, g44_0, g44_1, g44_2⟩ := hp44
  obtain ⟨v45, v46, v48, v50, v52, v53, w54, v55, v57, v58, v59, v60, v62, v64, v66, v68, v70, v71, v72, c73, b47, b49, b51, b56, b61, b63, b65, b67, b69⟩ := invM_0 hI
  have c73 : S44 0 = .inr (12, [.int v45, .ref (ad 1), .ref (ad 2), .ref (ad 3), .ref (ad 4), .ref (ad 5), .int v46, .int v48, .int v50, .int v52, .int v53, .long w54, .int v55, .int v57, .int v58, .int v59, .ref (ad 6), .ref (ad 7), .ref (ad 8), .ref (ad 9), .ref (ad 10), .ref (ad 11), .ref (ad 12), .ref (ad 13), .ref (ad 14), .ref (ad 15), .int v60, .int v62, .ref (ad 16), .int v64, .int v66, .int v68, .int v70, .int v71, .ref (ad 17), .ref (ad 18), .int v72, .ref (ad 19)]) := c73
  have q74 : fld (S44 0) 6 = v46.toInt := fld_of c73 rfl
  have q75 : fld (S44 0) 7 = v48.toInt := fld_of c73 rfl
  have q76 : fld (S 0) 8 = v6.toInt := fld_of c29 rfl
  have q77 : fld (S44 0) 8 = v50.toInt := fld_of c73 rfl
  exact xri E hr hlk hQ (⟨hI, (o_trans o_refl o44 (by decide)), b44, (by omega), ⟨by omega, by omega⟩, (by omega)⟩) dX12_cellHere_12
set_option maxHeartbeats 4000000 in
set_option maxRecDepth 100000 in
theorem gX12_stepsHere_0 (l : Launch) (g : GG) (ad : Nat → Nat) (hD : Dj ad 20) (S : SS) (hI : InvM g ad S) (hq1 : 0 ≤ fld (S 0) 6 + (-1) * fld (S 0) 7) : Met l yX12_stepsHere (wG (.code yX12_stepsHere cX12_stepsHere 3 (some .int))) (Rm 3) (XPre g ad 20 S [.ref (ad 0)]) (va_Qi (fun r S' => InvM g ad S' ∧ (∀ j, j ∉ ([0] : List Nat) → S' j = S j) ∧ Bd r (-3) (3) ∧ (0 ≤ fld (S' 0) 6 + (-1) * fld (S' 0) 7) ∧ (0 ≤ fld (S 0) 6 + (-1) * fld (S' 0) 6 ∧ 0 ≤ fld (S' 0) 6 + (-1) * fld (S 0) 6) ∧ (0 ≤ 4 * fld (S 0) 6 + (-4) * fld (S 0) 7 + fld (S 0) 8 + (-4) * fld (S' 0) 6 + 4 * fld (S' 0) 7 + (-1) * fld (S' 0) 8)) (QB g ad 20) (FA ad 20)) 0 0 (FA ad 20) := by
  refine xmet cX12_stepsHere "EbbWreckModel" (by decide) rfl (Nat.le_of_ble_eq_true rfl) (fun p e s m below meth c E hr hlk hml hQ ls hl => ?_)
  have hx := E.1
  have hb := E.2.1
  have hs : Sp ad 20 (FA ad 20) := Sp.fa hD
  have hl : lv_has ls 3 [(0, .ref (ad 0))] := hl
  obtain ⟨v1, v2, v4, v6, v8, v9, w10, v11, v13, v14, v15, v16, v18, v20, v22, v24, v26, v27, v28, c29, b3, b5, b7, b12, b17, b19, b21, b23, b25⟩ := invM_0 hI
  have c29 : S 0 = .inr (12, [.int v1, .ref (ad 1), .ref (ad 2), .ref (ad 3), .ref (ad 4), .ref (ad 5), .int v2, .int v4, .int v6, .int v8, .int v9, .long w10, .int v11, .int v13, .int v14, .int v15, .ref (ad 6), .ref (ad 7), .ref (ad 8), .ref (ad 9), .ref (ad 10), .ref (ad 11), .ref (ad 12), .ref (ad 13), .ref (ad 14), .ref (ad 15), .int v16, .int v18, .ref (ad 16), .int v20, .int v22, .int v24, .int v26, .int v27, .ref (ad 17), .ref (ad 18), .int v28, .ref (ad 19)]) := c29
  have q30 : fld (S 0) 6 = v2.toInt := fld_of c29 rfl
  have q31 : fld (S 0) 7 = v4.toInt := fld_of c29 rfl
  refine lv_aload_n hx hb dX12_stepsHere_0 rfl (lv_at hl 0 rfl) ?_
  refine xget E hQ 0 (by decide) c29 rfl 12 (by decide) q1480 rfl dX12_stepsHere_1 ?_
  refine lv_if_ne (tgt := 21) hx hb dX12_stepsHere_4 (by decide) (fun k32 => ?_) (fun k32 => ?_)
  · have h33 := ib_ne k32
    have b34 : Bd v11 (1) (3) := rf_nlo b12 (by decide : Bd 0 (0) (0)) h33
    refine lv_iconst (v := 0) hx hb dX12_stepsHere_21 (by decide) ?_
    refine lv_istore_n (lv' := [(1, .int 0), (0, .ref (ad 0))]) hx hb dX12_stepsHere_22 rfl hl (by decide) rfl (fun ls hl => ?_)
    refine lv_aload_n hx hb dX12_stepsHere_23 rfl (lv_at hl 1 rfl) ?_
    refine lv_iconst (v := 0) hx hb dX12_stepsHere_24 (by decide) ?_
    refine lv_iconst (v := 3) hx hb dX12_stepsHere_25 (by decide) ?_
    refine xcVi E hs hQ hml hl.1 0 (gX12_number_4 l g ad hD S hI 0 3 (by decide : Bd 0 (0) (0)) (by decide : Bd 3 (3) (3)) (by omega)) mX12_number q1676 (by decide) c29 rfl rfl ⟨(Nat.le_of_ble_eq_true rfl), (Nat.le_of_ble_eq_true rfl)⟩ ⟨(Nat.le_of_ble_eq_true rfl), (Nat.le_of_ble_eq_true rfl)⟩ (Nat.le_of_ble_eq_true rfl) rfl dX12_stepsHere_26 (fun r35 S35 H locs hp35 hQ _ => ?_)
    obtain ⟨hI, o35, b35, g35_0, g35_1, g35_2⟩ := hp35
    obtain ⟨v36, v37, v39, v41, v43, v44, w45, v46, v48, v49, v50, v51, v53, v55, v57, v59, v61, v62, v63, c64, b38, b40, b42, b47, b52, b54, b56, b58, b60⟩ := invM_0 hI
    have c64 : S35 0 = .inr (12, [.int v36, .ref (ad 1), .ref (ad 2), .ref (ad 3), .ref (ad 4), .ref (ad 5), .int v37, .int v39, .int v41, .int v43, .int v44, .long w45, .int v46, .int v48, .int v49, .int v50, .ref (ad 6), .ref (ad 7), .ref (ad 8), .ref (ad 9), .ref (ad 10), .ref (ad 11), .ref (ad 12), .ref (ad 13), .ref (ad 14), .ref (ad 15), .int v51, .int v53, .ref (ad 16), .int v55, .int v57, .int v59, .int v61, .int v62, .ref (ad 17), .ref (ad 18), .int v63, .ref (ad 19)]) := c64
    have q65 : fld (S35 0) 6 = v37.toInt := fld_of c64 rfl
    have q66 : fld (S35 0) 7 = v39.toInt := fld_of c64 rfl
    have q67 : fld (S 0) 8 = v6.toInt := fld_of c29 rfl
    have q68 : fld (S35 0) 8 = v41.toInt := fld_of c64 rfl
    refine lv_istore_n (lv' := [(2, .int r35), (1, .int 0), (0, .ref (ad 0))]) hx hb dX12_stepsHere_29 rfl hl (by decide) rfl (fun ls hl => ?_)
    refine lv_iload_n hx hb dX12_stepsHere_30 rfl (lv_at hl 1 rfl) ?_
    refine lv_if_eq (tgt := 39) hx hb dX12_stepsHere_31 (by decide) (fun k69 => ?_) (fun k69 => ?_)
    · have h70 := ib_eq k69
      refine lv_iload_n hx hb dX12_stepsHere_39 rfl (lv_at hl 0 rfl) ?_
      exact xri E hr hlk hQ (⟨hI, (o_trans o_refl o35 (by decide)), (ib_wk b35 (by decide) (by decide)), (by omega), ⟨by omega, by omega⟩, (by omega)⟩) dX12_stepsHere_40
    · have h71 := ib_ne k69
      exact absurd h71 (by decide)
  · have h72 := ib_eq k32
    have b73 : Bd v11 (0) (0) := ⟨(b12).1, ((rf_eq b12 (by decide : Bd 0 (0) (0)) h72).1).2⟩
    refine lv_aload_n hx hb dX12_stepsHere_7 rfl (lv_at hl 0 rfl) ?_
    refine lv_ldc2 (v := 40187) hx hb E.2.2.1 (E.2.2.2.1 _ q1705) dX12_stepsHere_8 ?_
    refine xcVi E hs hQ hml hl.1 0 (gX12_takes_0 l g ad hD S hI 40187 (by omega)) mX12_takes q1659 (by decide) c29 rfl rfl ⟨(Nat.le_of_ble_eq_true rfl), (Nat.le_of_ble_eq_true rfl)⟩ ⟨(Nat.le_of_ble_eq_true rfl), (Nat.le_of_ble_eq_true rfl)⟩ (Nat.le_of_ble_eq_true rfl) rfl dX12_stepsHere_11 (fun r74 S74 H locs hp74 hQ _ => ?_)
    obtain ⟨hI, o74, b74, g74_0, g74_1, g74_2, g74_3, g74_4⟩ := hp74
    obtain ⟨v75, v76, v78, v80, v82, v83, w84, v85, v87, v88, v89, v90, v92, v94, v96, v98, v100, v101, v102, c103, b77, b79, b81, b86, b91, b93, b95, b97, b99⟩ := invM_0 hI
    have c103 : S74 0 = .inr (12, [.int v75, .ref (ad 1), .ref (ad 2), .ref (ad 3), .ref (ad 4), .ref (ad 5), .int v76, .int v78, .int v80, .int v82, .int v83, .long w84, .int v85, .int v87, .int v88, .int v89, .ref (ad 6), .ref (ad 7), .ref (ad 8), .ref (ad 9), .ref (ad 10), .ref (ad 11), .ref (ad 12), .ref (ad 13), .ref (ad 14), .ref (ad 15), .int v90, .int v92, .ref (ad 16), .int v94, .int v96, .int v98, .int v100, .int v101, .ref (ad 17), .ref (ad 18), .int v102, .ref (ad 19)]) := c103
    have q104 : fld (S74 0) 6 = v76.toInt := fld_of c103 rfl
    have q105 : fld (S74 0) 7 = v78.toInt := fld_of c103 rfl
    have q106 : fld (S 0) 8 = v6.toInt := fld_of c29 rfl
    have q107 : fld (S74 0) 8 = v80.toInt := fld_of c103 rfl
    have q108 : fld (S 0) 12 = v11.toInt := fld_of c29 rfl
    have q109 : fld (S74 0) 12 = v85.toInt := fld_of c103 rfl
    have b110 : Bd v85 (0) (0) := ⟨(b86).1, by omega⟩
    refine lv_if_eq (tgt := 21) hx hb dX12_stepsHere_14 (by decide) (fun k111 => ?_) (fun k111 => ?_)
    · have h112 := ib_eq k111
      have b113 : Bd r74 (0) (0) := ⟨(b74).1, ((rf_eq b74 (by decide : Bd 0 (0) (0)) h112).1).2⟩
      clear g74_4
      refine lv_iconst (v := 0) hx hb dX12_stepsHere_21 (by decide) ?_
      refine lv_istore_n (lv' := [(1, .int 0), (0, .ref (ad 0))]) hx hb dX12_stepsHere_22 rfl hl (by decide) rfl (fun ls hl => ?_)
      refine lv_aload_n hx hb dX12_stepsHere_23 rfl (lv_at hl 1 rfl) ?_
      refine lv_iconst (v := 0) hx hb dX12_stepsHere_24 (by decide) ?_
      refine lv_iconst (v := 3) hx hb dX12_stepsHere_25 (by decide) ?_
      refine xcVi E hs hQ hml hl.1 0 (gX12_number_4 l g ad hD S74 hI 0 3 (by decide : Bd 0 (0) (0)) (by decide : Bd 3 (3) (3)) (by omega)) mX12_number q1676 (by decide) c103 rfl rfl ⟨(Nat.le_of_ble_eq_true rfl), (Nat.le_of_ble_eq_true rfl)⟩ ⟨(Nat.le_of_ble_eq_true rfl), (Nat.le_of_ble_eq_true rfl)⟩ (Nat.le_of_ble_eq_true rfl) rfl dX12_stepsHere_26 (fun r114 S114 H locs hp114 hQ _ => ?_)
      obtain ⟨hI, o114, b114, g114_0, g114_1, g114_2⟩ := hp114
      obtain ⟨v115, v116, v118, v120, v122, v123, w124, v125, v127, v128, v129, v130, v132, v134, v136, v138, v140, v141, v142, c143, b117, b119, b121, b126, b131, b133, b135, b137, b139⟩ := invM_0 hI
      have c143 : S114 0 = .inr (12, [.int v115, .ref (ad 1), .ref (ad 2), .ref (ad 3), .ref (ad 4), .ref (ad 5), .int v116, .int v118, .int v120, .int v122, .int v123, .long w124, .int v125, .int v127, .int v128, .int v129, .ref (ad 6), .ref (ad 7), .ref (ad 8), .ref (ad 9), .ref (ad 10), .ref (ad 11), .ref (ad 12), .ref (ad 13), .ref (ad 14), .ref (ad 15), .int v130, .int v132, .ref (ad 16), .int v134, .int v136, .int v138, .int v140, .int v141, .ref (ad 17), .ref (ad 18), .int v142, .ref (ad 19)]) := c143
      have q144 : fld (S114 0) 6 = v116.toInt := fld_of c143 rfl
      have q145 : fld (S114 0) 7 = v118.toInt := fld_of c143 rfl
      have q146 : fld (S114 0) 8 = v120.toInt := fld_of c143 rfl
      refine lv_istore_n (lv' := [(2, .int r114), (1, .int 0), (0, .ref (ad 0))]) hx hb dX12_stepsHere_29 rfl hl (by decide) rfl (fun ls hl => ?_)
      refine lv_iload_n hx hb dX12_stepsHere_30 rfl (lv_at hl 1 rfl) ?_
      refine lv_if_eq (tgt := 39) hx hb dX12_stepsHere_31 (by decide) (fun k147 => ?_) (fun k147 => ?_)
      · have h148 := ib_eq k147
        refine lv_iload_n hx hb dX12_stepsHere_39 rfl (lv_at hl 0 rfl) ?_
        exact xri E hr hlk hQ (⟨hI, (o_trans (o_trans o_refl o74 (by decide)) o114 (by decide)), (ib_wk b114 (by decide) (by decide)), (by omega), ⟨by omega, by omega⟩, (by omega)⟩) dX12_stepsHere_40
      · have h149 := ib_ne k147
        exact absurd h149 (by decide)
    · have h150 := ib_ne k111
      have b151 : Bd r74 (1) (1) := rf_nlo b74 (by decide : Bd 0 (0) (0)) h150
      have g152 := g74_4.resolve_left (by omega)
      clear g74_4
      refine lv_iconst (v := 1) hx hb dX12_stepsHere_17 (by decide) ?_
      refine lv_goto (tgt := 22) hx hb dX12_stepsHere_18 (by decide) ?_
      refine lv_istore_n (lv' := [(1, .int 1), (0, .ref (ad 0))]) hx hb dX12_stepsHere_22 rfl hl (by decide) rfl (fun ls hl => ?_)
      refine lv_aload_n hx hb dX12_stepsHere_23 rfl (lv_at hl 1 rfl) ?_
      refine lv_iconst (v := 0) hx hb dX12_stepsHere_24 (by decide) ?_
      refine lv_iconst (v := 3) hx hb dX12_stepsHere_25 (by decide) ?_
      refine xcVi E hs hQ hml hl.1 0 (gX12_number_4 l g ad hD S74 hI 0 3 (by decide : Bd 0 (0) (0)) (by decide : Bd 3 (3) (3)) (by omega)) mX12_number q1676 (by decide) c103 rfl rfl ⟨(Nat.le_of_ble_eq_true rfl), (Nat.le_of_ble_eq_true rfl)⟩ ⟨(Nat.le_of_ble_eq_true rfl), (Nat.le_of_ble_eq_true rfl)⟩ (Nat.le_of_ble_eq_true rfl) rfl dX12_stepsHere_26 (fun r153 S153 H locs hp153 hQ _ => ?_)
      obtain ⟨hI, o153, b153, g153_0, g153_1, g153_2⟩ := hp153
      obtain ⟨v154, v155, v157, v159, v161, v162, w163, v164, v166, v167, v168, v169, v171, v173, v175, v177, v179, v180, v181, c182, b156, b158, b160, b165, b170, b172, b174, b176, b178⟩ := invM_0 hI
      have c182 : S153 0 = .inr (12, [.int v154, .ref (ad 1), .ref (ad 2), .ref (ad 3), .ref (ad 4), .ref (ad 5), .int v155, .int v157, .int v159, .int v161, .int v162, .long w163, .int v164, .int v166, .int v167, .int v168, .ref (ad 6), .ref (ad 7), .ref (ad 8), .ref (ad 9), .ref (ad 10), .ref (ad 11), .ref (ad 12), .ref (ad 13), .ref (ad 14), .ref (ad 15), .int v169, .int v171, .ref (ad 16), .int v173, .int v175, .int v177, .int v179, .int v180, .ref (ad 17), .ref (ad 18), .int v181, .ref (ad 19)]) := c182
      have q183 : fld (S153 0) 6 = v155.toInt := fld_of c182 rfl
      have q184 : fld (S153 0) 7 = v157.toInt := fld_of c182 rfl
      have q185 : fld (S153 0) 8 = v159.toInt := fld_of c182 rfl
      refine lv_istore_n (lv' := [(2, .int r153), (1, .int 1), (0, .ref (ad 0))]) hx hb dX12_stepsHere_29 rfl hl (by decide) rfl (fun ls hl => ?_)
      refine lv_iload_n hx hb dX12_stepsHere_30 rfl (lv_at hl 1 rfl) ?_
      refine lv_if_eq (tgt := 39) hx hb dX12_stepsHere_31 (by decide) (fun k186 => ?_) (fun k186 => ?_)
      · have h187 := ib_eq k186
        exact absurd h187 (by decide)
      · have h188 := ib_ne k186
        refine lv_iload_n hx hb dX12_stepsHere_34 rfl (lv_at hl 0 rfl) ?_
        refine lv_ineg hx hb dX12_stepsHere_35 ?_
        refine lv_topi (fun z189 e190 => ?_)
        have t191 := ib_neg e190 b153 (by decide)
        have b192 : Bd z189 (-3) (0) := ib_negb t191 b153
        refine lv_goto (tgt := 40) hx hb dX12_stepsHere_36 (by decide) ?_
        exact xri E hr hlk hQ (⟨hI, (o_trans (o_trans o_refl o74 (by decide)) o153 (by decide)), (ib_wk b192 (by decide) (by decide)), (by omega), ⟨by omega, by omega⟩, (by omega)⟩) dX12_stepsHere_40
set_option maxHeartbeats 4000000 in
set_option maxRecDepth 100000 in
theorem gX12_currentLine_0 (l : Launch) (g : GG) (ad : Nat → Nat) (hD : Dj ad 20) (S : SS) (hI : InvM g ad S) (hq1 : 0 ≤ fld (S 0) 6 + (-1) * fld (S 0) 7) : Met l yX12_currentLine (wG (.code yX12_currentLine cX12_currentLine 4 none)) (Rm 4) (XPre g ad 20 S [.ref (ad 0)]) (va_Qv (fun S' => InvM g ad S' ∧ (∀ j, j ∉ ([0, 8] : List Nat) → S' j = S j) ∧ (0 ≤ fld (S' 0) 6 + (-1) * fld (S' 0) 7) ∧ (0 ≤ fld (S 0) 6 + (-1) * fld (S' 0) 6 ∧ 0 ≤ fld (S' 0) 6 + (-1) * fld (S 0) 6) ∧ (0 ≤ 4 * fld (S 0) 6 + (-4) * fld (S 0) 7 + fld (S 0) 8 + (-4) * fld (S' 0) 6 + 4 * fld (S' 0) 7 + (-1) * fld (S' 0) 8)) (QB g ad 20) (FA ad 20)) 0 0 (FA ad 20) := by
  refine xmet cX12_currentLine "EbbWreckModel" (by decide) rfl (Nat.le_of_ble_eq_true rfl) (fun p e s m below meth c E hr hlk hml hQ ls hl => ?_)
  have hx := E.1
  have hb := E.2.1
  have hs : Sp ad 20 (FA ad 20) := Sp.fa hD
  have hl : lv_has ls 4 [(0, .ref (ad 0))] := hl
  obtain ⟨v1, v2, v4, v6, v8, v9, w10, v11, v13, v14, v15, v16, v18, v20, v22, v24, v26, v27, v28, c29, b3, b5, b7, b12, b17, b19, b21, b23, b25⟩ := invM_0 hI
  have c29 : S 0 = .inr (12, [.int v1, .ref (ad 1), .ref (ad 2), .ref (ad 3), .ref (ad 4), .ref (ad 5), .int v2, .int v4, .int v6, .int v8, .int v9, .long w10, .int v11, .int v13, .int v14, .int v15, .ref (ad 6), .ref (ad 7), .ref (ad 8), .ref (ad 9), .ref (ad 10), .ref (ad 11), .ref (ad 12), .ref (ad 13), .ref (ad 14), .ref (ad 15), .int v16, .int v18, .ref (ad 16), .int v20, .int v22, .int v24, .int v26, .int v27, .ref (ad 17), .ref (ad 18), .int v28, .ref (ad 19)]) := c29
  have q30 : fld (S 0) 6 = v2.toInt := fld_of c29 rfl
  have q31 : fld (S 0) 7 = v4.toInt := fld_of c29 rfl
  refine lv_aload_n hx hb dX12_currentLine_0 rfl (lv_at hl 0 rfl) ?_
  refine xcVi E hs hQ hml hl.1 0 (gX12_cellHere_0 l g ad hD S hI (by omega)) mX12_cellHere q1693 (by decide) c29 rfl rfl ⟨(Nat.le_of_ble_eq_true rfl), (Nat.le_of_ble_eq_true rfl)⟩ ⟨(Nat.le_of_ble_eq_true rfl), (Nat.le_of_ble_eq_true rfl)⟩ (Nat.le_of_ble_eq_true rfl) rfl dX12_currentLine_1 (fun r32 S32 H locs hp32 hQ _ => ?_)
  obtain ⟨hI, o32, b32, g32_0, g32_1, g32_2⟩ := hp32
  obtain ⟨v33, v34, v36, v38, v40, v41, w42, v43, v45, v46, v47, v48, v50, v52, v54, v56, v58, v59, v60, c61, b35, b37, b39, b44, b49, b51, b53, b55, b57⟩ := invM_0 hI
  have c61 : S32 0 = .inr (12, [.int v33, .ref (ad 1), .ref (ad 2), .ref (ad 3), .ref (ad 4), .ref (ad 5), .int v34, .int v36, .int v38, .int v40, .int v41, .long w42, .int v43, .int v45, .int v46, .int v47, .ref (ad 6), .ref (ad 7), .ref (ad 8), .ref (ad 9), .ref (ad 10), .ref (ad 11), .ref (ad 12), .ref (ad 13), .ref (ad 14), .ref (ad 15), .int v48, .int v50, .ref (ad 16), .int v52, .int v54, .int v56, .int v58, .int v59, .ref (ad 17), .ref (ad 18), .int v60, .ref (ad 19)]) := c61
  have q62 : fld (S32 0) 6 = v34.toInt := fld_of c61 rfl
  have q63 : fld (S32 0) 7 = v36.toInt := fld_of c61 rfl
  have q64 : fld (S 0) 8 = v6.toInt := fld_of c29 rfl
  have q65 : fld (S32 0) 8 = v38.toInt := fld_of c61 rfl
  refine lv_istore_n (lv' := [(1, .int r32), (0, .ref (ad 0))]) hx hb dX12_currentLine_4 rfl hl (by decide) rfl (fun ls hl => ?_)
  refine lv_aload_n hx hb dX12_currentLine_5 rfl (lv_at hl 1 rfl) ?_
  refine lv_ldc2 (v := 3436186) hx hb E.2.2.1 (E.2.2.2.1 _ q1680) dX12_currentLine_6 ?_
  refine xcVv E hs hQ hml hl.1 0 (gX12_asks_0 l g ad hD S32 hI 3436186 (by omega)) mX12_asks q1655 (by decide) c61 rfl rfl ⟨(Nat.le_of_ble_eq_true rfl), (Nat.le_of_ble_eq_true rfl)⟩ ⟨(Nat.le_of_ble_eq_true rfl), (Nat.le_of_ble_eq_true rfl)⟩ (Nat.le_of_ble_eq_true rfl) rfl dX12_currentLine_9 (fun S66 H locs hp66 hQ _ => ?_)
  obtain ⟨hI, o66, g66_0, g66_1, g66_2⟩ := hp66
  obtain ⟨v67, v68, v70, v72, v74, v75, w76, v77, v79, v80, v81, v82, v84, v86, v88, v90, v92, v93, v94, c95, b69, b71, b73, b78, b83, b85, b87, b89, b91⟩ := invM_0 hI
  have c95 : S66 0 = .inr (12, [.int v67, .ref (ad 1), .ref (ad 2), .ref (ad 3), .ref (ad 4), .ref (ad 5), .int v68, .int v70, .int v72, .int v74, .int v75, .long w76, .int v77, .int v79, .int v80, .int v81, .ref (ad 6), .ref (ad 7), .ref (ad 8), .ref (ad 9), .ref (ad 10), .ref (ad 11), .ref (ad 12), .ref (ad 13), .ref (ad 14), .ref (ad 15), .int v82, .int v84, .ref (ad 16), .int v86, .int v88, .int v90, .int v92, .int v93, .ref (ad 17), .ref (ad 18), .int v94, .ref (ad 19)]) := c95
  have q96 : fld (S66 0) 6 = v68.toInt := fld_of c95 rfl
  have q97 : fld (S66 0) 7 = v70.toInt := fld_of c95 rfl
  have q98 : fld (S66 0) 8 = v72.toInt := fld_of c95 rfl
  refine lv_aload_n hx hb dX12_currentLine_12 rfl (lv_at hl 1 rfl) ?_
  refine xcVi E hs hQ hml hl.1 0 (gX12_stepsHere_0 l g ad hD S66 hI (by omega)) mX12_stepsHere q1701 (by decide) c95 rfl rfl ⟨(Nat.le_of_ble_eq_true rfl), (Nat.le_of_ble_eq_true rfl)⟩ ⟨(Nat.le_of_ble_eq_true rfl), (Nat.le_of_ble_eq_true rfl)⟩ (Nat.le_of_ble_eq_true rfl) rfl dX12_currentLine_13 (fun r99 S99 H locs hp99 hQ _ => ?_)
  obtain ⟨hI, o99, b99, g99_0, g99_1, g99_2⟩ := hp99
  obtain ⟨v100, v101, v103, v105, v107, v108, w109, v110, v112, v113, v114, v115, v117, v119, v121, v123, v125, v126, v127, c128, b102, b104, b106, b111, b116, b118, b120, b122, b124⟩ := invM_0 hI
  have c128 : S99 0 = .inr (12, [.int v100, .ref (ad 1), .ref (ad 2), .ref (ad 3), .ref (ad 4), .ref (ad 5), .int v101, .int v103, .int v105, .int v107, .int v108, .long w109, .int v110, .int v112, .int v113, .int v114, .ref (ad 6), .ref (ad 7), .ref (ad 8), .ref (ad 9), .ref (ad 10), .ref (ad 11), .ref (ad 12), .ref (ad 13), .ref (ad 14), .ref (ad 15), .int v115, .int v117, .ref (ad 16), .int v119, .int v121, .int v123, .int v125, .int v126, .ref (ad 17), .ref (ad 18), .int v127, .ref (ad 19)]) := c128
  have q129 : fld (S99 0) 6 = v101.toInt := fld_of c128 rfl
  have q130 : fld (S99 0) 7 = v103.toInt := fld_of c128 rfl
  have q131 : fld (S99 0) 8 = v105.toInt := fld_of c128 rfl
  refine lv_istore_n (lv' := [(2, .int r99), (1, .int r32), (0, .ref (ad 0))]) hx hb dX12_currentLine_16 rfl hl (by decide) rfl (fun ls hl => ?_)
  refine lv_aload_n hx hb dX12_currentLine_17 rfl (lv_at hl 2 rfl) ?_
  refine lv_ldc2 (v := 3701) hx hb E.2.2.1 (E.2.2.2.1 _ q1682) dX12_currentLine_18 ?_
  refine xcVv E hs hQ hml hl.1 0 (gX12_asks_0 l g ad hD S99 hI 3701 (by omega)) mX12_asks q1655 (by decide) c128 rfl rfl ⟨(Nat.le_of_ble_eq_true rfl), (Nat.le_of_ble_eq_true rfl)⟩ ⟨(Nat.le_of_ble_eq_true rfl), (Nat.le_of_ble_eq_true rfl)⟩ (Nat.le_of_ble_eq_true rfl) rfl dX12_currentLine_21 (fun S132 H locs hp132 hQ _ => ?_)
  obtain ⟨hI, o132, g132_0, g132_1, g132_2⟩ := hp132
  obtain ⟨v133, v134, v136, v138, v140, v141, w142, v143, v145, v146, v147, v148, v150, v152, v154, v156, v158, v159, v160, c161, b135, b137, b139, b144, b149, b151, b153, b155, b157⟩ := invM_0 hI
  have c161 : S132 0 = .inr (12, [.int v133, .ref (ad 1), .ref (ad 2), .ref (ad 3), .ref (ad 4), .ref (ad 5), .int v134, .int v136, .int v138, .int v140, .int v141, .long w142, .int v143, .int v145, .int v146, .int v147, .ref (ad 6), .ref (ad 7), .ref (ad 8), .ref (ad 9), .ref (ad 10), .ref (ad 11), .ref (ad 12), .ref (ad 13), .ref (ad 14), .ref (ad 15), .int v148, .int v150, .ref (ad 16), .int v152, .int v154, .int v156, .int v158, .int v159, .ref (ad 17), .ref (ad 18), .int v160, .ref (ad 19)]) := c161
  have q162 : fld (S132 0) 6 = v134.toInt := fld_of c161 rfl
  have q163 : fld (S132 0) 7 = v136.toInt := fld_of c161 rfl
  have q164 : fld (S132 0) 8 = v138.toInt := fld_of c161 rfl
  refine lv_aload_n hx hb dX12_currentLine_24 rfl (lv_at hl 2 rfl) ?_
  refine xcVi E hs hQ hml hl.1 0 (gX12_stepsHere_0 l g ad hD S132 hI (by omega)) mX12_stepsHere q1701 (by decide) c161 rfl rfl ⟨(Nat.le_of_ble_eq_true rfl), (Nat.le_of_ble_eq_true rfl)⟩ ⟨(Nat.le_of_ble_eq_true rfl), (Nat.le_of_ble_eq_true rfl)⟩ (Nat.le_of_ble_eq_true rfl) rfl dX12_currentLine_25 (fun r165 S165 H locs hp165 hQ _ => ?_)
  obtain ⟨hI, o165, b165, g165_0, g165_1, g165_2⟩ := hp165
  obtain ⟨v166, v167, v169, v171, v173, v174, w175, v176, v178, v179, v180, v181, v183, v185, v187, v189, v191, v192, v193, c194, b168, b170, b172, b177, b182, b184, b186, b188, b190⟩ := invM_0 hI
  have c194 : S165 0 = .inr (12, [.int v166, .ref (ad 1), .ref (ad 2), .ref (ad 3), .ref (ad 4), .ref (ad 5), .int v167, .int v169, .int v171, .int v173, .int v174, .long w175, .int v176, .int v178, .int v179, .int v180, .ref (ad 6), .ref (ad 7), .ref (ad 8), .ref (ad 9), .ref (ad 10), .ref (ad 11), .ref (ad 12), .ref (ad 13), .ref (ad 14), .ref (ad 15), .int v181, .int v183, .ref (ad 16), .int v185, .int v187, .int v189, .int v191, .int v192, .ref (ad 17), .ref (ad 18), .int v193, .ref (ad 19)]) := c194
  have q195 : fld (S165 0) 6 = v167.toInt := fld_of c194 rfl
  have q196 : fld (S165 0) 7 = v169.toInt := fld_of c194 rfl
  have q197 : fld (S165 0) 8 = v171.toInt := fld_of c194 rfl
  refine lv_istore_n (lv' := [(3, .int r165), (2, .int r99), (1, .int r32), (0, .ref (ad 0))]) hx hb dX12_currentLine_28 rfl hl (by decide) rfl (fun ls hl => ?_)
  refine lv_aload_n hx hb dX12_currentLine_29 rfl (lv_at hl 3 rfl) ?_
  refine xcVi E hs hQ hml hl.1 0 (gX12_isGood_0 l g ad hD S165 hI ) mX12_isGood q1650 (by decide) c194 rfl rfl ⟨(Nat.le_of_ble_eq_true rfl), (Nat.le_of_ble_eq_true rfl)⟩ ⟨(Nat.le_of_ble_eq_true rfl), (Nat.le_of_ble_eq_true rfl)⟩ (Nat.le_of_ble_eq_true rfl) rfl dX12_currentLine_30 (fun r198 S198 H locs hp198 hQ _ => ?_)
  obtain ⟨rfl, b198, g198_0, g198_1⟩ := hp198
  have q199 : fld (S165 0) 12 = v176.toInt := fld_of c194 rfl
  refine lv_if_ne (tgt := 37) hx hb dX12_currentLine_33 (by decide) (fun k200 => ?_) (fun k200 => ?_)
  · have h201 := ib_ne k200
    have b202 : Bd r198 (1) (1) := rf_nlo b198 (by decide : Bd 0 (0) (0)) h201
    have g203 := g198_0.resolve_left (by omega)
    clear g198_0
    have b204 : Bd v176 (0) (0) := ⟨(b177).1, by omega⟩
    clear g198_1
    refine lv_aload_n hx hb dX12_currentLine_37 rfl (lv_at hl 3 rfl) ?_
    refine xget E hQ 0 (by decide) c194 rfl 18 (by decide) q1486 rfl dX12_currentLine_38 ?_
    refine lv_iconst (v := 2) hx hb dX12_currentLine_41 (by decide) ?_
    refine lv_bipush (v := 48) hx hb dX12_currentLine_42 (by decide) ?_
    refine lv_iload_n hx hb dX12_currentLine_44 rfl (lv_at hl 2 rfl) ?_
    refine lv_iadd hx hb dX12_currentLine_45 ?_
    refine lv_topi (fun z205 e206 => ?_)
    have t207 := ib_add e206 (by decide : Bd 48 (48) (48)) b32 (by decide) (by decide)
    have b208 : Bd z205 (48) (59) := ib_addb t207 (by decide : Bd 48 (48) (48)) b32
    have t207 : z205.toInt = 48 + r32.toInt := fold_add t207 (by decide) rfl
    refine lv_imul hx hb dX12_currentLine_46 ?_
    refine lv_topi (fun z209 e210 => ?_)
    have t211 := ib_cmul (q := 2) e210 (by decide) (by decide) b208 (by decide) (by decide)
    have b212 : Bd z209 (96) (118) := ib_mulb t211 (by decide) b208
    refine lv_iload_n hx hb dX12_currentLine_47 rfl (lv_at hl 1 rfl) ?_
    obtain ⟨f213, c214⟩ := invM_8 hI
    refine xiast E hs hQ 8 (by decide) c214 (ib_in b212 (by decide) (by decide)) dX12_currentLine_48 (fun H locs S216 eS216 hQ => ?_)
    have hI := invM_up_8 hI eS216 ⟨_, rfl⟩
    have c217 : S216 8 = .inl (g.2 0, 120, .inl (upd f213 (z209 : Int32).toNatClampNeg r99)) := up_at eS216 rfl
    refine lv_aload_n hx hb dX12_currentLine_49 rfl (lv_at hl 3 rfl) ?_
    have c218 : S216 0 = .inr (12, [.int v166, .ref (ad 1), .ref (ad 2), .ref (ad 3), .ref (ad 4), .ref (ad 5), .int v167, .int v169, .int v171, .int v173, .int v174, .long w175, .int v176, .int v178, .int v179, .int v180, .ref (ad 6), .ref (ad 7), .ref (ad 8), .ref (ad 9), .ref (ad 10), .ref (ad 11), .ref (ad 12), .ref (ad 13), .ref (ad 14), .ref (ad 15), .int v181, .int v183, .ref (ad 16), .int v185, .int v187, .int v189, .int v191, .int v192, .ref (ad 17), .ref (ad 18), .int v193, .ref (ad 19)]) := (up_ne eS216 (by decide) c194)
    refine xget E hQ 0 (by decide) c218 rfl 18 (by decide) q1486 rfl dX12_currentLine_50 ?_
    refine lv_iconst (v := 2) hx hb dX12_currentLine_53 (by decide) ?_
    refine lv_bipush (v := 48) hx hb dX12_currentLine_54 (by decide) ?_
    refine lv_iload_n hx hb dX12_currentLine_56 rfl (lv_at hl 2 rfl) ?_
    refine lv_iadd hx hb dX12_currentLine_57 ?_
    refine lv_topi (fun z219 e220 => ?_)
    have t221 := ib_add e220 (by decide : Bd 48 (48) (48)) b32 (by decide) (by decide)
    have b222 : Bd z219 (48) (59) := ib_addb t221 (by decide : Bd 48 (48) (48)) b32
    have t221 : z219.toInt = 48 + r32.toInt := fold_add t221 (by decide) rfl
    refine lv_imul hx hb dX12_currentLine_58 ?_
    refine lv_topi (fun z223 e224 => ?_)
    have t225 := ib_cmul (q := 2) e224 (by decide) (by decide) b222 (by decide) (by decide)
    have b226 : Bd z223 (96) (118) := ib_mulb t225 (by decide) b222
    refine lv_iconst (v := 1) hx hb dX12_currentLine_59 (by decide) ?_
    refine lv_iadd hx hb dX12_currentLine_60 ?_
    refine lv_topi (fun z227 e228 => ?_)
    have t229 := ib_add e228 b226 (by decide : Bd 1 (1) (1)) (by decide) (by decide)
    have b230 : Bd z227 (97) (119) := ib_addb t229 b226 (by decide : Bd 1 (1) (1))
    have t229 : z227.toInt = z223.toInt + 1 := fold_add t229 rfl (by decide)
    refine lv_iload_n hx hb dX12_currentLine_61 rfl (lv_at hl 0 rfl) ?_
    refine xiast E hs hQ 8 (by decide) c217 (ib_in b230 (by decide) (by decide)) dX12_currentLine_62 (fun H locs S231 eS231 hQ => ?_)
    have hI := invM_up_8 hI eS231 ⟨_, rfl⟩
    have c232 : S231 8 = .inl (g.2 0, 120, .inl (upd (upd f213 (z209 : Int32).toNatClampNeg r99) (z227 : Int32).toNatClampNeg r165)) := up_at eS231 rfl
    have c233 : S231 0 = .inr (12, [.int v166, .ref (ad 1), .ref (ad 2), .ref (ad 3), .ref (ad 4), .ref (ad 5), .int v167, .int v169, .int v171, .int v173, .int v174, .long w175, .int v176, .int v178, .int v179, .int v180, .ref (ad 6), .ref (ad 7), .ref (ad 8), .ref (ad 9), .ref (ad 10), .ref (ad 11), .ref (ad 12), .ref (ad 13), .ref (ad 14), .ref (ad 15), .int v181, .int v183, .ref (ad 16), .int v185, .int v187, .int v189, .int v191, .int v192, .ref (ad 17), .ref (ad 18), .int v193, .ref (ad 19)]) := (up_ne eS231 (by decide) c218)
    have q234 : fld (S231 0) 6 = v167.toInt := fld_of c233 rfl
    have q235 : fld (S231 0) 7 = v169.toInt := fld_of c233 rfl
    have q236 : fld (S231 0) 8 = v171.toInt := fld_of c233 rfl
    exact xrv E hr hlk hQ (⟨hI, (up_o (up_o (o_trans (o_trans (o_trans (o_trans (o_trans o_refl o32 (by decide)) o66 (by decide)) o99 (by decide)) o132 (by decide)) o165 (by decide)) eS216 (by decide)) eS231 (by decide)), (by omega), ⟨by omega, by omega⟩, (by omega)⟩) dX12_currentLine_63
  · have h237 := ib_eq k200
    have b238 : Bd r198 (0) (0) := ⟨(b198).1, ((rf_eq b198 (by decide : Bd 0 (0) (0)) h237).1).2⟩
    clear g198_0
    have g239 := g198_1.resolve_left (by omega)
    clear g198_1
    have b240 : Bd v176 (1) (3) := ⟨by omega, (b177).2⟩
    exact xrv E hr hlk hQ (⟨hI, (o_trans (o_trans (o_trans (o_trans (o_trans o_refl o32 (by decide)) o66 (by decide)) o99 (by decide)) o132 (by decide)) o165 (by decide)), (by omega), ⟨by omega, by omega⟩, (by omega)⟩) dX12_currentLine_36
set_option maxHeartbeats 4000000 in
set_option maxRecDepth 100000 in
theorem gX12_thingLine_0 (l : Launch) (g : GG) (ad : Nat → Nat) (hD : Dj ad 20) (S : SS) (hI : InvM g ad S) (hq1 : 0 ≤ fld (S 0) 6 + (-1) * fld (S 0) 7) (hq2 : 0 ≤ (-1) * elm (S 7) 46 + 7) : Met l yX12_thingLine (wG (.code yX12_thingLine cX12_thingLine 2 none)) (Rm 5) (XPre g ad 20 S [.ref (ad 0)]) (va_Qv (fun S' => InvM g ad S' ∧ (∀ j, j ∉ ([0, 7, 9] : List Nat) → S' j = S j) ∧ (0 ≤ fld (S' 0) 6 + (-1) * fld (S' 0) 7) ∧ (0 ≤ fld (S 0) 6 + (-1) * fld (S' 0) 6 ∧ 0 ≤ fld (S' 0) 6 + (-1) * fld (S 0) 6) ∧ (0 ≤ 4 * fld (S 0) 6 + (-4) * fld (S 0) 7 + fld (S 0) 8 + (-4) * fld (S' 0) 6 + 4 * fld (S' 0) 7 + (-1) * fld (S' 0) 8) ∧ (0 ≤ elm (S 7) 40 + (-1) * elm (S' 7) 40 ∧ 0 ≤ elm (S' 7) 40 + (-1) * elm (S 7) 40) ∧ (0 ≤ elm (S 7) 41 + (-1) * elm (S' 7) 41 ∧ 0 ≤ elm (S' 7) 41 + (-1) * elm (S 7) 41) ∧ (0 ≤ elm (S 7) 43 + (-1) * elm (S' 7) 43 ∧ 0 ≤ elm (S' 7) 43 + (-1) * elm (S 7) 43) ∧ (0 ≤ elm (S 7) 47 + (-1) * elm (S' 7) 47 ∧ 0 ≤ elm (S' 7) 47 + (-1) * elm (S 7) 47) ∧ (0 ≤ elm (S 7) 48 + (-1) * elm (S' 7) 48 ∧ 0 ≤ elm (S' 7) 48 + (-1) * elm (S 7) 48) ∧ (0 ≤ elm (S 7) 49 + (-1) * elm (S' 7) 49 ∧ 0 ≤ elm (S' 7) 49 + (-1) * elm (S 7) 49) ∧ EFp (S' 7) (S 7) 0 40) (QB g ad 20) (FA ad 20)) 0 0 (FA ad 20) := by
  refine xmet cX12_thingLine "EbbWreckModel" (by decide) rfl (Nat.le_of_ble_eq_true rfl) (fun p e s m below meth c E hr hlk hml hQ ls hl => ?_)
  have hx := E.1
  have hb := E.2.1
  have hs : Sp ad 20 (FA ad 20) := Sp.fa hD
  have hl : lv_has ls 2 [(0, .ref (ad 0))] := hl
  obtain ⟨v1, v2, v4, v6, v8, v9, w10, v11, v13, v14, v15, v16, v18, v20, v22, v24, v26, v27, v28, c29, b3, b5, b7, b12, b17, b19, b21, b23, b25⟩ := invM_0 hI
  have c29 : S 0 = .inr (12, [.int v1, .ref (ad 1), .ref (ad 2), .ref (ad 3), .ref (ad 4), .ref (ad 5), .int v2, .int v4, .int v6, .int v8, .int v9, .long w10, .int v11, .int v13, .int v14, .int v15, .ref (ad 6), .ref (ad 7), .ref (ad 8), .ref (ad 9), .ref (ad 10), .ref (ad 11), .ref (ad 12), .ref (ad 13), .ref (ad 14), .ref (ad 15), .int v16, .int v18, .ref (ad 16), .int v20, .int v22, .int v24, .int v26, .int v27, .ref (ad 17), .ref (ad 18), .int v28, .ref (ad 19)]) := c29
  obtain ⟨f30, c31, b32⟩ := invM_7 hI
  obtain ⟨v33, ee34⟩ : ∃ z : Int32, f30 46 = z := ⟨_, rfl⟩
  have b35 : Bd v33 (0) (8) := (by rw [← ee34]; exact b32.2.2.2.2.1 46 (by decide))
  obtain ⟨v36, ee37⟩ : ∃ z : Int32, f30 40 = z := ⟨_, rfl⟩
  have b38 : Bd v36 (0) (12) := (by rw [← ee37]; exact b32.1 40 (by decide))
  obtain ⟨v39, ee40⟩ : ∃ z : Int32, f30 41 = z := ⟨_, rfl⟩
  have b41 : Bd v39 (0) (12) := (by rw [← ee40]; exact b32.2.1 41 (by decide))
  obtain ⟨v42, ee43⟩ : ∃ z : Int32, f30 43 = z := ⟨_, rfl⟩
  have b44 : Bd v42 (0) (12) := (by rw [← ee43]; exact b32.2.2.2.1 43 (by decide))
  obtain ⟨v45, ee46⟩ : ∃ z : Int32, f30 47 = z := ⟨_, rfl⟩
  have b47 : Bd v45 (0) (6) := (by rw [← ee46]; exact b32.2.2.2.2.2.1 47 (by decide))
  obtain ⟨v48, ee49⟩ : ∃ z : Int32, f30 48 = z := ⟨_, rfl⟩
  have b50 : Bd v48 (0) (3) := (by rw [← ee49]; exact b32.2.2.2.2.2.2.1 48 (by decide))
  obtain ⟨v51, ee52⟩ : ∃ z : Int32, f30 49 = z := ⟨_, rfl⟩
  have b53 : Bd v51 (0) (40) := (by rw [← ee52]; exact b32.2.2.2.2.2.2.2 49 (by decide))
  have q54 : fld (S 0) 6 = v2.toInt := fld_of c29 rfl
  have q55 : fld (S 0) 7 = v4.toInt := fld_of c29 rfl
  have q56 : elm (S 7) 46 = v33.toInt := (elm_of c31 46).trans (congrArg Int32.toInt (ee34))
  have b57 : Bd v33 (0) (7) := ⟨(b35).1, by omega⟩
  have ef7_0 : EFp (S 7) (S 7) 0 40 := fun _ _ _ => rfl
  refine lv_iconst (v := 3) hx hb dX12_thingLine_0 (by decide) ?_
  refine lv_bipush (v := 32) hx hb dX12_thingLine_1 (by decide) ?_
  refine lv_aload_n hx hb dX12_thingLine_3 rfl (lv_at hl 0 rfl) ?_
  refine lv_bipush (v := 6) hx hb dX12_thingLine_4 (by decide) ?_
  refine xcVi E hs hQ hml hl.1 0 (gX12_hasRead_6 l g ad hD S hI ) mX12_hasRead q1697 (by decide) c29 rfl rfl ⟨(Nat.le_of_ble_eq_true rfl), (Nat.le_of_ble_eq_true rfl)⟩ ⟨(Nat.le_of_ble_eq_true rfl), (Nat.le_of_ble_eq_true rfl)⟩ (Nat.le_of_ble_eq_true rfl) rfl dX12_thingLine_6 (fun r58 S58 H locs hp58 hQ _ => ?_)
  obtain ⟨rfl, b58, g58_0⟩ := hp58
  have b59 : Bd r58 (0) (7) := ⟨(b58).1, by omega⟩
  refine lv_iadd hx hb dX12_thingLine_9 ?_
  refine lv_topi (fun z60 e61 => ?_)
  have t62 := ib_add e61 (by decide : Bd 32 (32) (32)) b59 (by decide) (by decide)
  have b63 : Bd z60 (32) (39) := ib_addb t62 (by decide : Bd 32 (32) (32)) b59
  have t62 : z60.toInt = 32 + r58.toInt := fold_add t62 (by decide) rfl
  refine lv_imul hx hb dX12_thingLine_10 ?_
  refine lv_topi (fun z64 e65 => ?_)
  have t66 := ib_cmul (q := 3) e65 (by decide) (by decide) b63 (by decide) (by decide)
  have b67 : Bd z64 (96) (117) := ib_mulb t66 (by decide) b63
  refine lv_istore_n (lv' := [(1, .int z64), (0, .ref (ad 0))]) hx hb dX12_thingLine_11 rfl hl (by decide) rfl (fun ls hl => ?_)
  refine lv_aload_n hx hb dX12_thingLine_12 rfl (lv_at hl 1 rfl) ?_
  refine xget E hQ 0 (by decide) c29 rfl 19 (by decide) q1487 rfl dX12_thingLine_13 ?_
  refine lv_iload_n hx hb dX12_thingLine_16 rfl (lv_at hl 0 rfl) ?_
  refine lv_aload_n hx hb dX12_thingLine_17 rfl (lv_at hl 1 rfl) ?_
  refine lv_ldc2 (v := 12532058) hx hb E.2.2.1 (E.2.2.2.1 _ q1716) dX12_thingLine_18 ?_
  refine lv_iconst (v := 0) hx hb dX12_thingLine_21 (by decide) ?_
  refine lv_sipush (v := 999) hx hb dX12_thingLine_22 (by decide) ?_
  refine xcVi E hs hQ hml hl.1 0 (gX12_numberw_5 l g ad hD S hI 12532058 0 999 (by decide : Bd 0 (0) (0)) (by decide : Bd 999 (999) (999)) (by omega)) mX12_number_ q1672 (by decide) c29 rfl rfl ⟨(Nat.le_of_ble_eq_true rfl), (Nat.le_of_ble_eq_true rfl)⟩ ⟨(Nat.le_of_ble_eq_true rfl), (Nat.le_of_ble_eq_true rfl)⟩ (Nat.le_of_ble_eq_true rfl) rfl dX12_thingLine_25 (fun r68 S68 H locs hp68 hQ _ => ?_)
  obtain ⟨hI, o68, b68, g68_0, g68_1, g68_2⟩ := hp68
  obtain ⟨v69, v70, v72, v74, v76, v77, w78, v79, v81, v82, v83, v84, v86, v88, v90, v92, v94, v95, v96, c97, b71, b73, b75, b80, b85, b87, b89, b91, b93⟩ := invM_0 hI
  have c97 : S68 0 = .inr (12, [.int v69, .ref (ad 1), .ref (ad 2), .ref (ad 3), .ref (ad 4), .ref (ad 5), .int v70, .int v72, .int v74, .int v76, .int v77, .long w78, .int v79, .int v81, .int v82, .int v83, .ref (ad 6), .ref (ad 7), .ref (ad 8), .ref (ad 9), .ref (ad 10), .ref (ad 11), .ref (ad 12), .ref (ad 13), .ref (ad 14), .ref (ad 15), .int v84, .int v86, .ref (ad 16), .int v88, .int v90, .int v92, .int v94, .int v95, .ref (ad 17), .ref (ad 18), .int v96, .ref (ad 19)]) := c97
  have q98 : fld (S68 0) 6 = v70.toInt := fld_of c97 rfl
  have q99 : fld (S68 0) 7 = v72.toInt := fld_of c97 rfl
  have q100 : fld (S 0) 8 = v6.toInt := fld_of c29 rfl
  have q101 : fld (S68 0) 8 = v74.toInt := fld_of c97 rfl
  obtain ⟨f102, c103, b104⟩ := invM_9 hI
  refine xiast E hs hQ 9 (by decide) c103 (ib_in b67 (by decide) (by decide)) dX12_thingLine_28 (fun H locs S105 eS105 hQ => ?_)
  have hI := invM_up_9 hI eS105 ⟨_, rfl, ⟨upd_mn b104.1 (by rw [clampN b67]; omega), upd_mn b104.2 (by rw [clampN b67]; omega)⟩⟩
  have b107 : (∀ j, j % 3 = 1 → Bd ((upd f102 (z64 : Int32).toNatClampNeg r68) j) (0) (11)) ∧ (∀ j, j % 3 = 2 → Bd ((upd f102 (z64 : Int32).toNatClampNeg r68) j) (0) (99)) := ⟨upd_mn b104.1 (by rw [clampN b67]; omega), upd_mn b104.2 (by rw [clampN b67]; omega)⟩
  have c106 : S105 9 = .inl (g.2 0, 120, .inl (upd f102 (z64 : Int32).toNatClampNeg r68)) := up_at eS105 rfl
  refine lv_aload_n hx hb dX12_thingLine_29 rfl (lv_at hl 1 rfl) ?_
  refine lv_ldc2 (v := 47) hx hb E.2.2.1 (E.2.2.2.1 _ q1717) dX12_thingLine_30 ?_
  have c108 : S105 0 = .inr (12, [.int v69, .ref (ad 1), .ref (ad 2), .ref (ad 3), .ref (ad 4), .ref (ad 5), .int v70, .int v72, .int v74, .int v76, .int v77, .long w78, .int v79, .int v81, .int v82, .int v83, .ref (ad 6), .ref (ad 7), .ref (ad 8), .ref (ad 9), .ref (ad 10), .ref (ad 11), .ref (ad 12), .ref (ad 13), .ref (ad 14), .ref (ad 15), .int v84, .int v86, .ref (ad 16), .int v88, .int v90, .int v92, .int v94, .int v95, .ref (ad 17), .ref (ad 18), .int v96, .ref (ad 19)]) := (up_ne eS105 (by decide) c97)
  have q109 : fld (S105 0) 6 = v70.toInt := fld_of c108 rfl
  have q110 : fld (S105 0) 7 = v72.toInt := fld_of c108 rfl
  refine xcVv E hs hQ hml hl.1 0 (gX12_asks_0 l g ad hD S105 hI 47 (by omega)) mX12_asks q1655 (by decide) c108 rfl rfl ⟨(Nat.le_of_ble_eq_true rfl), (Nat.le_of_ble_eq_true rfl)⟩ ⟨(Nat.le_of_ble_eq_true rfl), (Nat.le_of_ble_eq_true rfl)⟩ (Nat.le_of_ble_eq_true rfl) rfl dX12_thingLine_33 (fun S111 H locs hp111 hQ _ => ?_)
  obtain ⟨hI, o111, g111_0, g111_1, g111_2⟩ := hp111
  obtain ⟨v112, v113, v115, v117, v119, v120, w121, v122, v124, v125, v126, v127, v129, v131, v133, v135, v137, v138, v139, c140, b114, b116, b118, b123, b128, b130, b132, b134, b136⟩ := invM_0 hI
  have c140 : S111 0 = .inr (12, [.int v112, .ref (ad 1), .ref (ad 2), .ref (ad 3), .ref (ad 4), .ref (ad 5), .int v113, .int v115, .int v117, .int v119, .int v120, .long w121, .int v122, .int v124, .int v125, .int v126, .ref (ad 6), .ref (ad 7), .ref (ad 8), .ref (ad 9), .ref (ad 10), .ref (ad 11), .ref (ad 12), .ref (ad 13), .ref (ad 14), .ref (ad 15), .int v127, .int v129, .ref (ad 16), .int v131, .int v133, .int v135, .int v137, .int v138, .ref (ad 17), .ref (ad 18), .int v139, .ref (ad 19)]) := c140
  have q141 : fld (S111 0) 6 = v113.toInt := fld_of c140 rfl
  have q142 : fld (S111 0) 7 = v115.toInt := fld_of c140 rfl
  have q143 : fld (S105 0) 8 = v74.toInt := fld_of c108 rfl
  have q144 : fld (S111 0) 8 = v117.toInt := fld_of c140 rfl
  refine lv_aload_n hx hb dX12_thingLine_36 rfl (lv_at hl 1 rfl) ?_
  refine xget E hQ 0 (by decide) c140 rfl 19 (by decide) q1487 rfl dX12_thingLine_37 ?_
  refine lv_iload_n hx hb dX12_thingLine_40 rfl (lv_at hl 0 rfl) ?_
  refine lv_iconst (v := 1) hx hb dX12_thingLine_41 (by decide) ?_
  refine lv_iadd hx hb dX12_thingLine_42 ?_
  refine lv_topi (fun z145 e146 => ?_)
  have t147 := ib_add e146 b67 (by decide : Bd 1 (1) (1)) (by decide) (by decide)
  have b148 : Bd z145 (97) (118) := ib_addb t147 b67 (by decide : Bd 1 (1) (1))
  have t147 : z145.toInt = z64.toInt + 1 := fold_add t147 rfl (by decide)
  refine lv_aload_n hx hb dX12_thingLine_43 rfl (lv_at hl 1 rfl) ?_
  refine xcVi E hs hQ hml hl.1 0 (gX12_cellHere_0 l g ad hD S111 hI (by omega)) mX12_cellHere q1693 (by decide) c140 rfl rfl ⟨(Nat.le_of_ble_eq_true rfl), (Nat.le_of_ble_eq_true rfl)⟩ ⟨(Nat.le_of_ble_eq_true rfl), (Nat.le_of_ble_eq_true rfl)⟩ (Nat.le_of_ble_eq_true rfl) rfl dX12_thingLine_44 (fun r149 S149 H locs hp149 hQ _ => ?_)
  obtain ⟨hI, o149, b149, g149_0, g149_1, g149_2⟩ := hp149
  obtain ⟨v150, v151, v153, v155, v157, v158, w159, v160, v162, v163, v164, v165, v167, v169, v171, v173, v175, v176, v177, c178, b152, b154, b156, b161, b166, b168, b170, b172, b174⟩ := invM_0 hI
  have c178 : S149 0 = .inr (12, [.int v150, .ref (ad 1), .ref (ad 2), .ref (ad 3), .ref (ad 4), .ref (ad 5), .int v151, .int v153, .int v155, .int v157, .int v158, .long w159, .int v160, .int v162, .int v163, .int v164, .ref (ad 6), .ref (ad 7), .ref (ad 8), .ref (ad 9), .ref (ad 10), .ref (ad 11), .ref (ad 12), .ref (ad 13), .ref (ad 14), .ref (ad 15), .int v165, .int v167, .ref (ad 16), .int v169, .int v171, .int v173, .int v175, .int v176, .ref (ad 17), .ref (ad 18), .int v177, .ref (ad 19)]) := c178
  have q179 : fld (S149 0) 6 = v151.toInt := fld_of c178 rfl
  have q180 : fld (S149 0) 7 = v153.toInt := fld_of c178 rfl
  have q181 : fld (S149 0) 8 = v155.toInt := fld_of c178 rfl
  have c182 : S149 9 = .inl (g.2 0, 120, .inl (upd f102 (z64 : Int32).toNatClampNeg r68)) := ((o149 9 (by decide)).trans ((o111 9 (by decide)).trans c106))
  refine xiast E hs hQ 9 (by decide) c182 (ib_in b148 (by decide) (by decide)) dX12_thingLine_47 (fun H locs S183 eS183 hQ => ?_)
  have hI := invM_up_9 hI eS183 ⟨_, rfl, ⟨upd_m b107.1 b149, upd_mn b107.2 (by rw [clampN b148]; omega)⟩⟩
  have b185 : (∀ j, j % 3 = 1 → Bd ((upd (upd f102 (z64 : Int32).toNatClampNeg r68) (z145 : Int32).toNatClampNeg r149) j) (0) (11)) ∧ (∀ j, j % 3 = 2 → Bd ((upd (upd f102 (z64 : Int32).toNatClampNeg r68) (z145 : Int32).toNatClampNeg r149) j) (0) (99)) := ⟨upd_m b107.1 b149, upd_mn b107.2 (by rw [clampN b148]; omega)⟩
  have c184 : S183 9 = .inl (g.2 0, 120, .inl (upd (upd f102 (z64 : Int32).toNatClampNeg r68) (z145 : Int32).toNatClampNeg r149)) := up_at eS183 rfl
  refine lv_aload_n hx hb dX12_thingLine_48 rfl (lv_at hl 1 rfl) ?_
  have c186 : S183 0 = .inr (12, [.int v150, .ref (ad 1), .ref (ad 2), .ref (ad 3), .ref (ad 4), .ref (ad 5), .int v151, .int v153, .int v155, .int v157, .int v158, .long w159, .int v160, .int v162, .int v163, .int v164, .ref (ad 6), .ref (ad 7), .ref (ad 8), .ref (ad 9), .ref (ad 10), .ref (ad 11), .ref (ad 12), .ref (ad 13), .ref (ad 14), .ref (ad 15), .int v165, .int v167, .ref (ad 16), .int v169, .int v171, .int v173, .int v175, .int v176, .ref (ad 17), .ref (ad 18), .int v177, .ref (ad 19)]) := (up_ne eS183 (by decide) c178)
  refine xget E hQ 0 (by decide) c186 rfl 19 (by decide) q1487 rfl dX12_thingLine_49 ?_
  refine lv_iload_n hx hb dX12_thingLine_52 rfl (lv_at hl 0 rfl) ?_
  refine lv_iconst (v := 2) hx hb dX12_thingLine_53 (by decide) ?_
  refine lv_iadd hx hb dX12_thingLine_54 ?_
  refine lv_topi (fun z187 e188 => ?_)
  have t189 := ib_add e188 b67 (by decide : Bd 2 (2) (2)) (by decide) (by decide)
  have b190 : Bd z187 (98) (119) := ib_addb t189 b67 (by decide : Bd 2 (2) (2))
  have t189 : z187.toInt = z64.toInt + 2 := fold_add t189 rfl (by decide)
  refine lv_aload_n hx hb dX12_thingLine_55 rfl (lv_at hl 1 rfl) ?_
  refine lv_ldc2 (v := 131638) hx hb E.2.2.1 (E.2.2.2.1 _ q1718) dX12_thingLine_56 ?_
  refine lv_iconst (v := 0) hx hb dX12_thingLine_59 (by decide) ?_
  refine lv_bipush (v := 99) hx hb dX12_thingLine_60 (by decide) ?_
  have q191 : fld (S183 0) 6 = v151.toInt := fld_of c186 rfl
  have q192 : fld (S183 0) 7 = v153.toInt := fld_of c186 rfl
  refine xcVi E hs hQ hml hl.1 0 (gX12_numberw_6 l g ad hD S183 hI 131638 0 99 (by decide : Bd 0 (0) (0)) (by decide : Bd 99 (99) (99)) (by omega)) mX12_number_ q1672 (by decide) c186 rfl rfl ⟨(Nat.le_of_ble_eq_true rfl), (Nat.le_of_ble_eq_true rfl)⟩ ⟨(Nat.le_of_ble_eq_true rfl), (Nat.le_of_ble_eq_true rfl)⟩ (Nat.le_of_ble_eq_true rfl) rfl dX12_thingLine_62 (fun r193 S193 H locs hp193 hQ _ => ?_)
  obtain ⟨hI, o193, b193, g193_0, g193_1, g193_2⟩ := hp193
  obtain ⟨v194, v195, v197, v199, v201, v202, w203, v204, v206, v207, v208, v209, v211, v213, v215, v217, v219, v220, v221, c222, b196, b198, b200, b205, b210, b212, b214, b216, b218⟩ := invM_0 hI
  have c222 : S193 0 = .inr (12, [.int v194, .ref (ad 1), .ref (ad 2), .ref (ad 3), .ref (ad 4), .ref (ad 5), .int v195, .int v197, .int v199, .int v201, .int v202, .long w203, .int v204, .int v206, .int v207, .int v208, .ref (ad 6), .ref (ad 7), .ref (ad 8), .ref (ad 9), .ref (ad 10), .ref (ad 11), .ref (ad 12), .ref (ad 13), .ref (ad 14), .ref (ad 15), .int v209, .int v211, .ref (ad 16), .int v213, .int v215, .int v217, .int v219, .int v220, .ref (ad 17), .ref (ad 18), .int v221, .ref (ad 19)]) := c222
  have q223 : fld (S193 0) 6 = v195.toInt := fld_of c222 rfl
  have q224 : fld (S193 0) 7 = v197.toInt := fld_of c222 rfl
  have q225 : fld (S183 0) 8 = v155.toInt := fld_of c186 rfl
  have q226 : fld (S193 0) 8 = v199.toInt := fld_of c222 rfl
  have c227 : S193 9 = .inl (g.2 0, 120, .inl (upd (upd f102 (z64 : Int32).toNatClampNeg r68) (z145 : Int32).toNatClampNeg r149)) := ((o193 9 (by decide)).trans c184)
  refine xiast E hs hQ 9 (by decide) c227 (ib_in b190 (by decide) (by decide)) dX12_thingLine_65 (fun H locs S228 eS228 hQ => ?_)
  have hI := invM_up_9 hI eS228 ⟨_, rfl, ⟨upd_mn b185.1 (by rw [clampN b190]; omega), upd_m b185.2 b193⟩⟩
  have b230 : (∀ j, j % 3 = 1 → Bd ((upd (upd (upd f102 (z64 : Int32).toNatClampNeg r68) (z145 : Int32).toNatClampNeg r149) (z187 : Int32).toNatClampNeg r193) j) (0) (11)) ∧ (∀ j, j % 3 = 2 → Bd ((upd (upd (upd f102 (z64 : Int32).toNatClampNeg r68) (z145 : Int32).toNatClampNeg r149) (z187 : Int32).toNatClampNeg r193) j) (0) (99)) := ⟨upd_mn b185.1 (by rw [clampN b190]; omega), upd_m b185.2 b193⟩
  have c229 : S228 9 = .inl (g.2 0, 120, .inl (upd (upd (upd f102 (z64 : Int32).toNatClampNeg r68) (z145 : Int32).toNatClampNeg r149) (z187 : Int32).toNatClampNeg r193)) := up_at eS228 rfl
  refine lv_aload_n hx hb dX12_thingLine_66 rfl (lv_at hl 1 rfl) ?_
  refine lv_bipush (v := 6) hx hb dX12_thingLine_67 (by decide) ?_
  refine lv_aload_n hx hb dX12_thingLine_69 rfl (lv_at hl 1 rfl) ?_
  refine lv_bipush (v := 6) hx hb dX12_thingLine_70 (by decide) ?_
  have c231 : S228 7 = .inl (g.2 0, 50, .inl f30) := (up_ne eS228 (by decide) ((o193 7 (by decide)).trans (up_ne eS183 (by decide) ((o149 7 (by decide)).trans ((o111 7 (by decide)).trans (up_ne eS105 (by decide) ((o68 7 (by decide)).trans c31)))))))
  have c233 : S228 0 = .inr (12, [.int v194, .ref (ad 1), .ref (ad 2), .ref (ad 3), .ref (ad 4), .ref (ad 5), .int v195, .int v197, .int v199, .int v201, .int v202, .long w203, .int v204, .int v206, .int v207, .int v208, .ref (ad 6), .ref (ad 7), .ref (ad 8), .ref (ad 9), .ref (ad 10), .ref (ad 11), .ref (ad 12), .ref (ad 13), .ref (ad 14), .ref (ad 15), .int v209, .int v211, .ref (ad 16), .int v213, .int v215, .int v217, .int v219, .int v220, .ref (ad 17), .ref (ad 18), .int v221, .ref (ad 19)]) := (up_ne eS228 (by decide) c222)
  refine xcVi E hs hQ hml hl.1 0 (gX12_hasRead_6 l g ad hD S228 hI ) mX12_hasRead q1697 (by decide) c233 rfl rfl ⟨(Nat.le_of_ble_eq_true rfl), (Nat.le_of_ble_eq_true rfl)⟩ ⟨(Nat.le_of_ble_eq_true rfl), (Nat.le_of_ble_eq_true rfl)⟩ (Nat.le_of_ble_eq_true rfl) rfl dX12_thingLine_72 (fun r232 S232 H locs hp232 hQ _ => ?_)
  obtain ⟨rfl, b232, g232_0⟩ := hp232
  have q234 : elm (S228 7) 46 = v33.toInt := (elm_of c231 46).trans (congrArg Int32.toInt (ee34))
  have b235 : Bd r232 (0) (7) := ⟨(b232).1, by omega⟩
  refine lv_iconst (v := 1) hx hb dX12_thingLine_75 (by decide) ?_
  refine lv_iadd hx hb dX12_thingLine_76 ?_
  refine lv_topi (fun z236 e237 => ?_)
  have t238 := ib_add e237 b235 (by decide : Bd 1 (1) (1)) (by decide) (by decide)
  have b239 : Bd z236 (1) (8) := ib_addb t238 b235 (by decide : Bd 1 (1) (1))
  have t238 : z236.toInt = r232.toInt + 1 := fold_add t238 rfl (by decide)
  refine xcVv E hs hQ hml hl.1 0 (gX12_tells_6 l g ad hD S228 hI z236 (ib_wk b239 (by decide) (by decide))) mX12_tells q1629 (by decide) c233 rfl rfl ⟨(Nat.le_of_ble_eq_true rfl), (Nat.le_of_ble_eq_true rfl)⟩ ⟨(Nat.le_of_ble_eq_true rfl), (Nat.le_of_ble_eq_true rfl)⟩ (Nat.le_of_ble_eq_true rfl) rfl dX12_thingLine_77 (fun S240 H locs hp240 hQ _ => ?_)
  obtain ⟨hI, o240, g240_0, g240_1, g240_2, g240_3, g240_4, g240_5, g240_6, ef240_7⟩ := hp240
  have ef241 : EFp (S240 7) (S 7) 0 40 := ef_tt ef240_7 (ef_tr ef7_0 ((up_eq (j := 7) eS228 (by decide)).trans ((o193 7 (by decide)).trans ((up_eq (j := 7) eS183 (by decide)).trans ((o149 7 (by decide)).trans ((o111 7 (by decide)).trans ((up_eq (j := 7) eS105 (by decide)).trans (o68 7 (by decide)))))))))
  obtain ⟨f242, c243, b244⟩ := invM_7 hI
  obtain ⟨v245, ee246⟩ : ∃ z : Int32, f242 46 = z := ⟨_, rfl⟩
  have b247 : Bd v245 (0) (8) := (by rw [← ee246]; exact b244.2.2.2.2.1 46 (by decide))
  have q248 : elm (S240 7) 46 = v245.toInt := (elm_of c243 46).trans (congrArg Int32.toInt (ee246))
  have b249 : Bd v245 (1) (8) := ⟨by omega, (b247).2⟩
  have q250 : elm (S228 7) 40 = v36.toInt := (elm_of c231 40).trans (congrArg Int32.toInt (ee37))
  obtain ⟨v251, ee252⟩ : ∃ z : Int32, f242 40 = z := ⟨_, rfl⟩
  have b253 : Bd v251 (0) (12) := (by rw [← ee252]; exact b244.1 40 (by decide))
  have q254 : elm (S240 7) 40 = v251.toInt := (elm_of c243 40).trans (congrArg Int32.toInt (ee252))
  have q255 : elm (S228 7) 41 = v39.toInt := (elm_of c231 41).trans (congrArg Int32.toInt (ee40))
  obtain ⟨v256, ee257⟩ : ∃ z : Int32, f242 41 = z := ⟨_, rfl⟩
  have b258 : Bd v256 (0) (12) := (by rw [← ee257]; exact b244.2.1 41 (by decide))
  have q259 : elm (S240 7) 41 = v256.toInt := (elm_of c243 41).trans (congrArg Int32.toInt (ee257))
  have q260 : elm (S228 7) 43 = v42.toInt := (elm_of c231 43).trans (congrArg Int32.toInt (ee43))
  obtain ⟨v261, ee262⟩ : ∃ z : Int32, f242 43 = z := ⟨_, rfl⟩
  have b263 : Bd v261 (0) (12) := (by rw [← ee262]; exact b244.2.2.2.1 43 (by decide))
  have q264 : elm (S240 7) 43 = v261.toInt := (elm_of c243 43).trans (congrArg Int32.toInt (ee262))
  have q265 : elm (S228 7) 47 = v45.toInt := (elm_of c231 47).trans (congrArg Int32.toInt (ee46))
  obtain ⟨v266, ee267⟩ : ∃ z : Int32, f242 47 = z := ⟨_, rfl⟩
  have b268 : Bd v266 (0) (6) := (by rw [← ee267]; exact b244.2.2.2.2.2.1 47 (by decide))
  have q269 : elm (S240 7) 47 = v266.toInt := (elm_of c243 47).trans (congrArg Int32.toInt (ee267))
  have q270 : elm (S228 7) 48 = v48.toInt := (elm_of c231 48).trans (congrArg Int32.toInt (ee49))
  obtain ⟨v271, ee272⟩ : ∃ z : Int32, f242 48 = z := ⟨_, rfl⟩
  have b273 : Bd v271 (0) (3) := (by rw [← ee272]; exact b244.2.2.2.2.2.2.1 48 (by decide))
  have q274 : elm (S240 7) 48 = v271.toInt := (elm_of c243 48).trans (congrArg Int32.toInt (ee272))
  have q275 : elm (S228 7) 49 = v51.toInt := (elm_of c231 49).trans (congrArg Int32.toInt (ee52))
  obtain ⟨v276, ee277⟩ : ∃ z : Int32, f242 49 = z := ⟨_, rfl⟩
  have b278 : Bd v276 (0) (40) := (by rw [← ee277]; exact b244.2.2.2.2.2.2.2 49 (by decide))
  have q279 : elm (S240 7) 49 = v276.toInt := (elm_of c243 49).trans (congrArg Int32.toInt (ee277))
  have c280 : S240 0 = .inr (12, [.int v194, .ref (ad 1), .ref (ad 2), .ref (ad 3), .ref (ad 4), .ref (ad 5), .int v195, .int v197, .int v199, .int v201, .int v202, .long w203, .int v204, .int v206, .int v207, .int v208, .ref (ad 6), .ref (ad 7), .ref (ad 8), .ref (ad 9), .ref (ad 10), .ref (ad 11), .ref (ad 12), .ref (ad 13), .ref (ad 14), .ref (ad 15), .int v209, .int v211, .ref (ad 16), .int v213, .int v215, .int v217, .int v219, .int v220, .ref (ad 17), .ref (ad 18), .int v221, .ref (ad 19)]) := ((o240 0 (by decide)).trans c233)
  have q281 : fld (S240 0) 6 = v195.toInt := fld_of c280 rfl
  have q282 : fld (S240 0) 7 = v197.toInt := fld_of c280 rfl
  have q283 : fld (S240 0) 8 = v199.toInt := fld_of c280 rfl
  have q284 : elm (S 7) 40 = v36.toInt := (elm_of c31 40).trans (congrArg Int32.toInt (ee37))
  have q285 : elm (S 7) 41 = v39.toInt := (elm_of c31 41).trans (congrArg Int32.toInt (ee40))
  have q286 : elm (S 7) 43 = v42.toInt := (elm_of c31 43).trans (congrArg Int32.toInt (ee43))
  have q287 : elm (S 7) 47 = v45.toInt := (elm_of c31 47).trans (congrArg Int32.toInt (ee46))
  have q288 : elm (S 7) 48 = v48.toInt := (elm_of c31 48).trans (congrArg Int32.toInt (ee49))
  have q289 : elm (S 7) 49 = v51.toInt := (elm_of c31 49).trans (congrArg Int32.toInt (ee52))
  exact xrv E hr hlk hQ (⟨hI, (o_trans (up_o (o_trans (up_o (o_trans (o_trans (up_o (o_trans o_refl o68 (by decide)) eS105 (by decide)) o111 (by decide)) o149 (by decide)) eS183 (by decide)) o193 (by decide)) eS228 (by decide)) o240 (by decide)), (by omega), ⟨by omega, by omega⟩, (by omega), ⟨by omega, by omega⟩, ⟨by omega, by omega⟩, ⟨by omega, by omega⟩, ⟨by omega, by omega⟩, ⟨by omega, by omega⟩, ⟨by omega, by omega⟩, ef241⟩) dX12_thingLine_80
set_option maxHeartbeats 4000000 in
set_option maxRecDepth 100000 in
theorem gX12_phaseHere_0 (l : Launch) (g : GG) (ad : Nat → Nat) (hD : Dj ad 20) (S : SS) (hI : InvM g ad S) (hq1 : 0 ≤ fld (S 0) 6 + (-1) * fld (S 0) 7) : Met l yX12_phaseHere (wG (.code yX12_phaseHere cX12_phaseHere 1 (some .int))) (Rm 3) (XPre g ad 20 S [.ref (ad 0)]) (va_Qi (fun r S' => InvM g ad S' ∧ (∀ j, j ∉ ([0] : List Nat) → S' j = S j) ∧ Bd r (0) (4) ∧ (0 ≤ fld (S' 0) 6 + (-1) * fld (S' 0) 7) ∧ (0 ≤ fld (S 0) 6 + (-1) * fld (S' 0) 6 ∧ 0 ≤ fld (S' 0) 6 + (-1) * fld (S 0) 6) ∧ (0 ≤ 4 * fld (S 0) 6 + (-4) * fld (S 0) 7 + fld (S 0) 8 + (-4) * fld (S' 0) 6 + 4 * fld (S' 0) 7 + (-1) * fld (S' 0) 8) ∧ ((r.toInt + (-1) < 0 ∨ (0 ≤ 4 * fld (S 0) 6 + (-4) * fld (S 0) 7 + fld (S 0) 8 + (-4) * fld (S' 0) 6 + 4 * fld (S' 0) 7 + (-1) * fld (S' 0) 8 + (-1))))) (QB g ad 20) (FA ad 20)) 0 0 (FA ad 20) := by
  refine xmet cX12_phaseHere "EbbWreckModel" (by decide) rfl (Nat.le_of_ble_eq_true rfl) (fun p e s m below meth c E hr hlk hml hQ ls hl => ?_)
  have hx := E.1
  have hb := E.2.1
  have hs : Sp ad 20 (FA ad 20) := Sp.fa hD
  have hl : lv_has ls 1 [(0, .ref (ad 0))] := hl
  obtain ⟨v1, v2, v4, v6, v8, v9, w10, v11, v13, v14, v15, v16, v18, v20, v22, v24, v26, v27, v28, c29, b3, b5, b7, b12, b17, b19, b21, b23, b25⟩ := invM_0 hI
  have c29 : S 0 = .inr (12, [.int v1, .ref (ad 1), .ref (ad 2), .ref (ad 3), .ref (ad 4), .ref (ad 5), .int v2, .int v4, .int v6, .int v8, .int v9, .long w10, .int v11, .int v13, .int v14, .int v15, .ref (ad 6), .ref (ad 7), .ref (ad 8), .ref (ad 9), .ref (ad 10), .ref (ad 11), .ref (ad 12), .ref (ad 13), .ref (ad 14), .ref (ad 15), .int v16, .int v18, .ref (ad 16), .int v20, .int v22, .int v24, .int v26, .int v27, .ref (ad 17), .ref (ad 18), .int v28, .ref (ad 19)]) := c29
  have q30 : fld (S 0) 6 = v2.toInt := fld_of c29 rfl
  have q31 : fld (S 0) 7 = v4.toInt := fld_of c29 rfl
  refine lv_aload_n hx hb dX12_phaseHere_0 rfl (lv_at hl 0 rfl) ?_
  refine xget E hQ 0 (by decide) c29 rfl 12 (by decide) q1480 rfl dX12_phaseHere_1 ?_
  refine lv_if_ne (tgt := 19) hx hb dX12_phaseHere_4 (by decide) (fun k32 => ?_) (fun k32 => ?_)
  · have h33 := ib_ne k32
    have b34 : Bd v11 (1) (3) := rf_nlo b12 (by decide : Bd 0 (0) (0)) h33
    refine lv_aload_n hx hb dX12_phaseHere_19 rfl (lv_at hl 0 rfl) ?_
    refine xget E hQ 0 (by decide) c29 rfl 12 (by decide) q1480 rfl dX12_phaseHere_20 ?_
    refine lv_if_ne (tgt := 38) hx hb dX12_phaseHere_23 (by decide) (fun k35 => ?_) (fun k35 => ?_)
    · have h36 := ib_ne k35
      refine lv_aload_n hx hb dX12_phaseHere_38 rfl (lv_at hl 0 rfl) ?_
      refine xget E hQ 0 (by decide) c29 rfl 12 (by decide) q1480 rfl dX12_phaseHere_39 ?_
      refine lv_if_ne (tgt := 57) hx hb dX12_phaseHere_42 (by decide) (fun k37 => ?_) (fun k37 => ?_)
      · have h38 := ib_ne k37
        refine lv_iconst (v := 0) hx hb dX12_phaseHere_57 (by decide) ?_
        have q39 : fld (S 0) 8 = v6.toInt := fld_of c29 rfl
        have q40 : (0 : Int32).toInt = 0 := by decide
        exact xri E hr hlk hQ (⟨hI, o_refl, (ib_wk (by decide : Bd 0 (0) (0)) (by decide) (by decide)), (by omega), ⟨by omega, by omega⟩, (by omega), Or.inl (by omega)⟩) dX12_phaseHere_58
      · have h41 := ib_eq k37
        have b42 : Bd v11 (1) (0) := ⟨(b34).1, ((rf_eq b34 (by decide : Bd 0 (0) (0)) h41).1).2⟩
        exact absurd (Int.le_trans b42.1 b42.2) (by decide)
    · have h43 := ib_eq k35
      have b44 : Bd v11 (1) (0) := ⟨(b34).1, ((rf_eq b34 (by decide : Bd 0 (0) (0)) h43).1).2⟩
      exact absurd (Int.le_trans b44.1 b44.2) (by decide)
  · have h45 := ib_eq k32
    have b46 : Bd v11 (0) (0) := ⟨(b12).1, ((rf_eq b12 (by decide : Bd 0 (0) (0)) h45).1).2⟩
    refine lv_aload_n hx hb dX12_phaseHere_7 rfl (lv_at hl 0 rfl) ?_
    refine lv_ldc2 (v := 3436186) hx hb E.2.2.1 (E.2.2.2.1 _ q1680) dX12_phaseHere_8 ?_
    refine xcVi E hs hQ hml hl.1 0 (gX12_takes_0 l g ad hD S hI 3436186 (by omega)) mX12_takes q1659 (by decide) c29 rfl rfl ⟨(Nat.le_of_ble_eq_true rfl), (Nat.le_of_ble_eq_true rfl)⟩ ⟨(Nat.le_of_ble_eq_true rfl), (Nat.le_of_ble_eq_true rfl)⟩ (Nat.le_of_ble_eq_true rfl) rfl dX12_phaseHere_11 (fun r47 S47 H locs hp47 hQ _ => ?_)
    obtain ⟨hI, o47, b47, g47_0, g47_1, g47_2, g47_3, g47_4⟩ := hp47
    obtain ⟨v48, v49, v51, v53, v55, v56, w57, v58, v60, v61, v62, v63, v65, v67, v69, v71, v73, v74, v75, c76, b50, b52, b54, b59, b64, b66, b68, b70, b72⟩ := invM_0 hI
    have c76 : S47 0 = .inr (12, [.int v48, .ref (ad 1), .ref (ad 2), .ref (ad 3), .ref (ad 4), .ref (ad 5), .int v49, .int v51, .int v53, .int v55, .int v56, .long w57, .int v58, .int v60, .int v61, .int v62, .ref (ad 6), .ref (ad 7), .ref (ad 8), .ref (ad 9), .ref (ad 10), .ref (ad 11), .ref (ad 12), .ref (ad 13), .ref (ad 14), .ref (ad 15), .int v63, .int v65, .ref (ad 16), .int v67, .int v69, .int v71, .int v73, .int v74, .ref (ad 17), .ref (ad 18), .int v75, .ref (ad 19)]) := c76
    have q77 : fld (S47 0) 6 = v49.toInt := fld_of c76 rfl
    have q78 : fld (S47 0) 7 = v51.toInt := fld_of c76 rfl
    have q79 : fld (S 0) 8 = v6.toInt := fld_of c29 rfl
    have q80 : fld (S47 0) 8 = v53.toInt := fld_of c76 rfl
    have q81 : fld (S 0) 12 = v11.toInt := fld_of c29 rfl
    have q82 : fld (S47 0) 12 = v58.toInt := fld_of c76 rfl
    have b83 : Bd v58 (0) (0) := ⟨(b59).1, by omega⟩
    refine lv_if_eq (tgt := 19) hx hb dX12_phaseHere_14 (by decide) (fun k84 => ?_) (fun k84 => ?_)
    · have h85 := ib_eq k84
      have b86 : Bd r47 (0) (0) := ⟨(b47).1, ((rf_eq b47 (by decide : Bd 0 (0) (0)) h85).1).2⟩
      clear g47_4
      refine lv_aload_n hx hb dX12_phaseHere_19 rfl (lv_at hl 0 rfl) ?_
      refine xget E hQ 0 (by decide) c76 rfl 12 (by decide) q1480 rfl dX12_phaseHere_20 ?_
      refine lv_if_ne (tgt := 38) hx hb dX12_phaseHere_23 (by decide) (fun k87 => ?_) (fun k87 => ?_)
      · have h88 := ib_ne k87
        exact absurd (Int.le_antisymm (Int.le_trans (b83).2 ((by decide : Bd 0 (0) (0))).1) (Int.le_trans ((by decide : Bd 0 (0) (0))).2 (b83).1)) h88
      · have h89 := ib_eq k87
        refine lv_aload_n hx hb dX12_phaseHere_26 rfl (lv_at hl 0 rfl) ?_
        refine lv_ldc2 (v := 10334396) hx hb E.2.2.1 (E.2.2.2.1 _ q1681) dX12_phaseHere_27 ?_
        refine xcVi E hs hQ hml hl.1 0 (gX12_takes_0 l g ad hD S47 hI 10334396 (by omega)) mX12_takes q1659 (by decide) c76 rfl rfl ⟨(Nat.le_of_ble_eq_true rfl), (Nat.le_of_ble_eq_true rfl)⟩ ⟨(Nat.le_of_ble_eq_true rfl), (Nat.le_of_ble_eq_true rfl)⟩ (Nat.le_of_ble_eq_true rfl) rfl dX12_phaseHere_30 (fun r90 S90 H locs hp90 hQ _ => ?_)
        obtain ⟨hI, o90, b90, g90_0, g90_1, g90_2, g90_3, g90_4⟩ := hp90
        obtain ⟨v91, v92, v94, v96, v98, v99, w100, v101, v103, v104, v105, v106, v108, v110, v112, v114, v116, v117, v118, c119, b93, b95, b97, b102, b107, b109, b111, b113, b115⟩ := invM_0 hI
        have c119 : S90 0 = .inr (12, [.int v91, .ref (ad 1), .ref (ad 2), .ref (ad 3), .ref (ad 4), .ref (ad 5), .int v92, .int v94, .int v96, .int v98, .int v99, .long w100, .int v101, .int v103, .int v104, .int v105, .ref (ad 6), .ref (ad 7), .ref (ad 8), .ref (ad 9), .ref (ad 10), .ref (ad 11), .ref (ad 12), .ref (ad 13), .ref (ad 14), .ref (ad 15), .int v106, .int v108, .ref (ad 16), .int v110, .int v112, .int v114, .int v116, .int v117, .ref (ad 17), .ref (ad 18), .int v118, .ref (ad 19)]) := c119
        have q120 : fld (S90 0) 6 = v92.toInt := fld_of c119 rfl
        have q121 : fld (S90 0) 7 = v94.toInt := fld_of c119 rfl
        have q122 : fld (S90 0) 8 = v96.toInt := fld_of c119 rfl
        have q123 : fld (S90 0) 12 = v101.toInt := fld_of c119 rfl
        have b124 : Bd v101 (0) (0) := ⟨(b102).1, by omega⟩
        refine lv_if_eq (tgt := 38) hx hb dX12_phaseHere_33 (by decide) (fun k125 => ?_) (fun k125 => ?_)
        · have h126 := ib_eq k125
          have b127 : Bd r90 (0) (0) := ⟨(b90).1, ((rf_eq b90 (by decide : Bd 0 (0) (0)) h126).1).2⟩
          clear g90_4
          refine lv_aload_n hx hb dX12_phaseHere_38 rfl (lv_at hl 0 rfl) ?_
          refine xget E hQ 0 (by decide) c119 rfl 12 (by decide) q1480 rfl dX12_phaseHere_39 ?_
          refine lv_if_ne (tgt := 57) hx hb dX12_phaseHere_42 (by decide) (fun k128 => ?_) (fun k128 => ?_)
          · have h129 := ib_ne k128
            exact absurd (Int.le_antisymm (Int.le_trans (b124).2 ((by decide : Bd 0 (0) (0))).1) (Int.le_trans ((by decide : Bd 0 (0) (0))).2 (b124).1)) h129
          · have h130 := ib_eq k128
            refine lv_aload_n hx hb dX12_phaseHere_45 rfl (lv_at hl 0 rfl) ?_
            refine lv_ldc2 (v := 3701) hx hb E.2.2.1 (E.2.2.2.1 _ q1682) dX12_phaseHere_46 ?_
            refine xcVi E hs hQ hml hl.1 0 (gX12_takes_0 l g ad hD S90 hI 3701 (by omega)) mX12_takes q1659 (by decide) c119 rfl rfl ⟨(Nat.le_of_ble_eq_true rfl), (Nat.le_of_ble_eq_true rfl)⟩ ⟨(Nat.le_of_ble_eq_true rfl), (Nat.le_of_ble_eq_true rfl)⟩ (Nat.le_of_ble_eq_true rfl) rfl dX12_phaseHere_49 (fun r131 S131 H locs hp131 hQ _ => ?_)
            obtain ⟨hI, o131, b131, g131_0, g131_1, g131_2, g131_3, g131_4⟩ := hp131
            obtain ⟨v132, v133, v135, v137, v139, v140, w141, v142, v144, v145, v146, v147, v149, v151, v153, v155, v157, v158, v159, c160, b134, b136, b138, b143, b148, b150, b152, b154, b156⟩ := invM_0 hI
            have c160 : S131 0 = .inr (12, [.int v132, .ref (ad 1), .ref (ad 2), .ref (ad 3), .ref (ad 4), .ref (ad 5), .int v133, .int v135, .int v137, .int v139, .int v140, .long w141, .int v142, .int v144, .int v145, .int v146, .ref (ad 6), .ref (ad 7), .ref (ad 8), .ref (ad 9), .ref (ad 10), .ref (ad 11), .ref (ad 12), .ref (ad 13), .ref (ad 14), .ref (ad 15), .int v147, .int v149, .ref (ad 16), .int v151, .int v153, .int v155, .int v157, .int v158, .ref (ad 17), .ref (ad 18), .int v159, .ref (ad 19)]) := c160
            have q161 : fld (S131 0) 6 = v133.toInt := fld_of c160 rfl
            have q162 : fld (S131 0) 7 = v135.toInt := fld_of c160 rfl
            have q163 : fld (S131 0) 8 = v137.toInt := fld_of c160 rfl
            have q164 : fld (S131 0) 12 = v142.toInt := fld_of c160 rfl
            have b165 : Bd v142 (0) (0) := ⟨(b143).1, by omega⟩
            refine lv_if_eq (tgt := 57) hx hb dX12_phaseHere_52 (by decide) (fun k166 => ?_) (fun k166 => ?_)
            · have h167 := ib_eq k166
              have b168 : Bd r131 (0) (0) := ⟨(b131).1, ((rf_eq b131 (by decide : Bd 0 (0) (0)) h167).1).2⟩
              clear g131_4
              refine lv_iconst (v := 0) hx hb dX12_phaseHere_57 (by decide) ?_
              have q169 : (0 : Int32).toInt = 0 := by decide
              exact xri E hr hlk hQ (⟨hI, (o_trans (o_trans (o_trans o_refl o47 (by decide)) o90 (by decide)) o131 (by decide)), (ib_wk (by decide : Bd 0 (0) (0)) (by decide) (by decide)), (by omega), ⟨by omega, by omega⟩, (by omega), Or.inl (by omega)⟩) dX12_phaseHere_58
            · have h170 := ib_ne k166
              have b171 : Bd r131 (1) (1) := rf_nlo b131 (by decide : Bd 0 (0) (0)) h170
              have g172 := g131_4.resolve_left (by omega)
              clear g131_4
              refine lv_iconst (v := 4) hx hb dX12_phaseHere_55 (by decide) ?_
              have q173 : (4 : Int32).toInt = 4 := by decide
              exact xri E hr hlk hQ (⟨hI, (o_trans (o_trans (o_trans o_refl o47 (by decide)) o90 (by decide)) o131 (by decide)), (ib_wk (by decide : Bd 4 (4) (4)) (by decide) (by decide)), (by omega), ⟨by omega, by omega⟩, (by omega), Or.inr (by omega)⟩) dX12_phaseHere_56
        · have h174 := ib_ne k125
          have b175 : Bd r90 (1) (1) := rf_nlo b90 (by decide : Bd 0 (0) (0)) h174
          have g176 := g90_4.resolve_left (by omega)
          clear g90_4
          refine lv_iconst (v := 2) hx hb dX12_phaseHere_36 (by decide) ?_
          have q177 : (2 : Int32).toInt = 2 := by decide
          exact xri E hr hlk hQ (⟨hI, (o_trans (o_trans o_refl o47 (by decide)) o90 (by decide)), (ib_wk (by decide : Bd 2 (2) (2)) (by decide) (by decide)), (by omega), ⟨by omega, by omega⟩, (by omega), Or.inr (by omega)⟩) dX12_phaseHere_37
    · have h178 := ib_ne k84
      have b179 : Bd r47 (1) (1) := rf_nlo b47 (by decide : Bd 0 (0) (0)) h178
      have g180 := g47_4.resolve_left (by omega)
      clear g47_4
      refine lv_iconst (v := 1) hx hb dX12_phaseHere_17 (by decide) ?_
      have q181 : (1 : Int32).toInt = 1 := by decide
      exact xri E hr hlk hQ (⟨hI, (o_trans o_refl o47 (by decide)), (ib_wk (by decide : Bd 1 (1) (1)) (by decide) (by decide)), (by omega), ⟨by omega, by omega⟩, (by omega), Or.inr (by omega)⟩) dX12_phaseHere_18
set_option maxHeartbeats 4000000 in
set_option maxRecDepth 100000 in
theorem gX12_ruleLine_0 (l : Launch) (g : GG) (ad : Nat → Nat) (hD : Dj ad 20) (S : SS) (hI : InvM g ad S) (hq1 : 0 ≤ fld (S 0) 6 + (-1) * fld (S 0) 7) (hq2 : 0 ≤ (-1) * elm (S 7) 47 + 5) : Met l yX12_ruleLine (wG (.code yX12_ruleLine cX12_ruleLine 4 none)) (Rm 4) (XPre g ad 20 S [.ref (ad 0)]) (va_Qv (fun S' => InvM g ad S' ∧ (∀ j, j ∉ ([0, 7, 10] : List Nat) → S' j = S j) ∧ (0 ≤ fld (S' 0) 6 + (-1) * fld (S' 0) 7) ∧ (0 ≤ fld (S 0) 6 + (-1) * fld (S' 0) 6 ∧ 0 ≤ fld (S' 0) 6 + (-1) * fld (S 0) 6) ∧ (0 ≤ 4 * fld (S 0) 6 + (-4) * fld (S 0) 7 + fld (S 0) 8 + (-4) * fld (S' 0) 6 + 4 * fld (S' 0) 7 + (-1) * fld (S' 0) 8) ∧ (0 ≤ elm (S 7) 40 + (-1) * elm (S' 7) 40 ∧ 0 ≤ elm (S' 7) 40 + (-1) * elm (S 7) 40) ∧ (0 ≤ elm (S 7) 41 + (-1) * elm (S' 7) 41 ∧ 0 ≤ elm (S' 7) 41 + (-1) * elm (S 7) 41) ∧ (0 ≤ elm (S 7) 43 + (-1) * elm (S' 7) 43 ∧ 0 ≤ elm (S' 7) 43 + (-1) * elm (S 7) 43) ∧ (0 ≤ elm (S 7) 46 + (-1) * elm (S' 7) 46 ∧ 0 ≤ elm (S' 7) 46 + (-1) * elm (S 7) 46) ∧ (0 ≤ elm (S 7) 48 + (-1) * elm (S' 7) 48 ∧ 0 ≤ elm (S' 7) 48 + (-1) * elm (S 7) 48) ∧ (0 ≤ elm (S 7) 49 + (-1) * elm (S' 7) 49 ∧ 0 ≤ elm (S' 7) 49 + (-1) * elm (S 7) 49) ∧ EFp (S' 7) (S 7) 0 40) (QB g ad 20) (FA ad 20)) 0 0 (FA ad 20) := by
  refine xmet cX12_ruleLine "EbbWreckModel" (by decide) rfl (Nat.le_of_ble_eq_true rfl) (fun p e s m below meth c E hr hlk hml hQ ls hl => ?_)
  have hx := E.1
  have hb := E.2.1
  have hs : Sp ad 20 (FA ad 20) := Sp.fa hD
  have hl : lv_has ls 4 [(0, .ref (ad 0))] := hl
  obtain ⟨v1, v2, v4, v6, v8, v9, w10, v11, v13, v14, v15, v16, v18, v20, v22, v24, v26, v27, v28, c29, b3, b5, b7, b12, b17, b19, b21, b23, b25⟩ := invM_0 hI
  have c29 : S 0 = .inr (12, [.int v1, .ref (ad 1), .ref (ad 2), .ref (ad 3), .ref (ad 4), .ref (ad 5), .int v2, .int v4, .int v6, .int v8, .int v9, .long w10, .int v11, .int v13, .int v14, .int v15, .ref (ad 6), .ref (ad 7), .ref (ad 8), .ref (ad 9), .ref (ad 10), .ref (ad 11), .ref (ad 12), .ref (ad 13), .ref (ad 14), .ref (ad 15), .int v16, .int v18, .ref (ad 16), .int v20, .int v22, .int v24, .int v26, .int v27, .ref (ad 17), .ref (ad 18), .int v28, .ref (ad 19)]) := c29
  obtain ⟨f30, c31, b32⟩ := invM_7 hI
  obtain ⟨v33, ee34⟩ : ∃ z : Int32, f30 47 = z := ⟨_, rfl⟩
  have b35 : Bd v33 (0) (6) := (by rw [← ee34]; exact b32.2.2.2.2.2.1 47 (by decide))
  obtain ⟨v36, ee37⟩ : ∃ z : Int32, f30 40 = z := ⟨_, rfl⟩
  have b38 : Bd v36 (0) (12) := (by rw [← ee37]; exact b32.1 40 (by decide))
  obtain ⟨v39, ee40⟩ : ∃ z : Int32, f30 41 = z := ⟨_, rfl⟩
  have b41 : Bd v39 (0) (12) := (by rw [← ee40]; exact b32.2.1 41 (by decide))
  obtain ⟨v42, ee43⟩ : ∃ z : Int32, f30 43 = z := ⟨_, rfl⟩
  have b44 : Bd v42 (0) (12) := (by rw [← ee43]; exact b32.2.2.2.1 43 (by decide))
  obtain ⟨v45, ee46⟩ : ∃ z : Int32, f30 46 = z := ⟨_, rfl⟩
  have b47 : Bd v45 (0) (8) := (by rw [← ee46]; exact b32.2.2.2.2.1 46 (by decide))
  obtain ⟨v48, ee49⟩ : ∃ z : Int32, f30 48 = z := ⟨_, rfl⟩
  have b50 : Bd v48 (0) (3) := (by rw [← ee49]; exact b32.2.2.2.2.2.2.1 48 (by decide))
  obtain ⟨v51, ee52⟩ : ∃ z : Int32, f30 49 = z := ⟨_, rfl⟩
  have b53 : Bd v51 (0) (40) := (by rw [← ee52]; exact b32.2.2.2.2.2.2.2 49 (by decide))
  have q54 : fld (S 0) 6 = v2.toInt := fld_of c29 rfl
  have q55 : fld (S 0) 7 = v4.toInt := fld_of c29 rfl
  have q56 : elm (S 7) 47 = v33.toInt := (elm_of c31 47).trans (congrArg Int32.toInt (ee34))
  have b57 : Bd v33 (0) (5) := ⟨(b35).1, by omega⟩
  have ef7_0 : EFp (S 7) (S 7) 0 40 := fun _ _ _ => rfl
  refine lv_iconst (v := 4) hx hb dX12_ruleLine_0 (by decide) ?_
  refine lv_bipush (v := 24) hx hb dX12_ruleLine_1 (by decide) ?_
  refine lv_aload_n hx hb dX12_ruleLine_3 rfl (lv_at hl 0 rfl) ?_
  refine lv_bipush (v := 7) hx hb dX12_ruleLine_4 (by decide) ?_
  refine xcVi E hs hQ hml hl.1 0 (gX12_hasRead_7 l g ad hD S hI ) mX12_hasRead q1697 (by decide) c29 rfl rfl ⟨(Nat.le_of_ble_eq_true rfl), (Nat.le_of_ble_eq_true rfl)⟩ ⟨(Nat.le_of_ble_eq_true rfl), (Nat.le_of_ble_eq_true rfl)⟩ (Nat.le_of_ble_eq_true rfl) rfl dX12_ruleLine_6 (fun r58 S58 H locs hp58 hQ _ => ?_)
  obtain ⟨rfl, b58, g58_0⟩ := hp58
  have b59 : Bd r58 (0) (5) := ⟨(b58).1, by omega⟩
  refine lv_iadd hx hb dX12_ruleLine_9 ?_
  refine lv_topi (fun z60 e61 => ?_)
  have t62 := ib_add e61 (by decide : Bd 24 (24) (24)) b59 (by decide) (by decide)
  have b63 : Bd z60 (24) (29) := ib_addb t62 (by decide : Bd 24 (24) (24)) b59
  have t62 : z60.toInt = 24 + r58.toInt := fold_add t62 (by decide) rfl
  refine lv_imul hx hb dX12_ruleLine_10 ?_
  refine lv_topi (fun z64 e65 => ?_)
  have t66 := ib_cmul (q := 4) e65 (by decide) (by decide) b63 (by decide) (by decide)
  have b67 : Bd z64 (96) (116) := ib_mulb t66 (by decide) b63
  refine lv_istore_n (lv' := [(1, .int z64), (0, .ref (ad 0))]) hx hb dX12_ruleLine_11 rfl hl (by decide) rfl (fun ls hl => ?_)
  refine lv_aload_n hx hb dX12_ruleLine_12 rfl (lv_at hl 1 rfl) ?_
  refine xget E hQ 0 (by decide) c29 rfl 20 (by decide) q1488 rfl dX12_ruleLine_13 ?_
  refine lv_iload_n hx hb dX12_ruleLine_16 rfl (lv_at hl 0 rfl) ?_
  refine lv_aload_n hx hb dX12_ruleLine_17 rfl (lv_at hl 1 rfl) ?_
  refine xcVi E hs hQ hml hl.1 0 (gX12_cellHere_0 l g ad hD S hI (by omega)) mX12_cellHere q1693 (by decide) c29 rfl rfl ⟨(Nat.le_of_ble_eq_true rfl), (Nat.le_of_ble_eq_true rfl)⟩ ⟨(Nat.le_of_ble_eq_true rfl), (Nat.le_of_ble_eq_true rfl)⟩ (Nat.le_of_ble_eq_true rfl) rfl dX12_ruleLine_18 (fun r68 S68 H locs hp68 hQ _ => ?_)
  obtain ⟨hI, o68, b68, g68_0, g68_1, g68_2⟩ := hp68
  obtain ⟨v69, v70, v72, v74, v76, v77, w78, v79, v81, v82, v83, v84, v86, v88, v90, v92, v94, v95, v96, c97, b71, b73, b75, b80, b85, b87, b89, b91, b93⟩ := invM_0 hI
  have c97 : S68 0 = .inr (12, [.int v69, .ref (ad 1), .ref (ad 2), .ref (ad 3), .ref (ad 4), .ref (ad 5), .int v70, .int v72, .int v74, .int v76, .int v77, .long w78, .int v79, .int v81, .int v82, .int v83, .ref (ad 6), .ref (ad 7), .ref (ad 8), .ref (ad 9), .ref (ad 10), .ref (ad 11), .ref (ad 12), .ref (ad 13), .ref (ad 14), .ref (ad 15), .int v84, .int v86, .ref (ad 16), .int v88, .int v90, .int v92, .int v94, .int v95, .ref (ad 17), .ref (ad 18), .int v96, .ref (ad 19)]) := c97
  have q98 : fld (S68 0) 6 = v70.toInt := fld_of c97 rfl
  have q99 : fld (S68 0) 7 = v72.toInt := fld_of c97 rfl
  have q100 : fld (S 0) 8 = v6.toInt := fld_of c29 rfl
  have q101 : fld (S68 0) 8 = v74.toInt := fld_of c97 rfl
  obtain ⟨f102, c103⟩ := invM_10 hI
  refine xiast E hs hQ 10 (by decide) c103 (ib_in b67 (by decide) (by decide)) dX12_ruleLine_21 (fun H locs S105 eS105 hQ => ?_)
  have hI := invM_up_10 hI eS105 ⟨_, rfl⟩
  have c106 : S105 10 = .inl (g.2 0, 120, .inl (upd f102 (z64 : Int32).toNatClampNeg r68)) := up_at eS105 rfl
  refine lv_aload_n hx hb dX12_ruleLine_22 rfl (lv_at hl 1 rfl) ?_
  refine lv_ldc2 (v := 555) hx hb E.2.2.1 (E.2.2.2.1 _ q1724) dX12_ruleLine_23 ?_
  have c107 : S105 0 = .inr (12, [.int v69, .ref (ad 1), .ref (ad 2), .ref (ad 3), .ref (ad 4), .ref (ad 5), .int v70, .int v72, .int v74, .int v76, .int v77, .long w78, .int v79, .int v81, .int v82, .int v83, .ref (ad 6), .ref (ad 7), .ref (ad 8), .ref (ad 9), .ref (ad 10), .ref (ad 11), .ref (ad 12), .ref (ad 13), .ref (ad 14), .ref (ad 15), .int v84, .int v86, .ref (ad 16), .int v88, .int v90, .int v92, .int v94, .int v95, .ref (ad 17), .ref (ad 18), .int v96, .ref (ad 19)]) := (up_ne eS105 (by decide) c97)
  have q108 : fld (S105 0) 6 = v70.toInt := fld_of c107 rfl
  have q109 : fld (S105 0) 7 = v72.toInt := fld_of c107 rfl
  refine xcVv E hs hQ hml hl.1 0 (gX12_asks_0 l g ad hD S105 hI 555 (by omega)) mX12_asks q1655 (by decide) c107 rfl rfl ⟨(Nat.le_of_ble_eq_true rfl), (Nat.le_of_ble_eq_true rfl)⟩ ⟨(Nat.le_of_ble_eq_true rfl), (Nat.le_of_ble_eq_true rfl)⟩ (Nat.le_of_ble_eq_true rfl) rfl dX12_ruleLine_26 (fun S110 H locs hp110 hQ _ => ?_)
  obtain ⟨hI, o110, g110_0, g110_1, g110_2⟩ := hp110
  obtain ⟨v111, v112, v114, v116, v118, v119, w120, v121, v123, v124, v125, v126, v128, v130, v132, v134, v136, v137, v138, c139, b113, b115, b117, b122, b127, b129, b131, b133, b135⟩ := invM_0 hI
  have c139 : S110 0 = .inr (12, [.int v111, .ref (ad 1), .ref (ad 2), .ref (ad 3), .ref (ad 4), .ref (ad 5), .int v112, .int v114, .int v116, .int v118, .int v119, .long w120, .int v121, .int v123, .int v124, .int v125, .ref (ad 6), .ref (ad 7), .ref (ad 8), .ref (ad 9), .ref (ad 10), .ref (ad 11), .ref (ad 12), .ref (ad 13), .ref (ad 14), .ref (ad 15), .int v126, .int v128, .ref (ad 16), .int v130, .int v132, .int v134, .int v136, .int v137, .ref (ad 17), .ref (ad 18), .int v138, .ref (ad 19)]) := c139
  have q140 : fld (S110 0) 6 = v112.toInt := fld_of c139 rfl
  have q141 : fld (S110 0) 7 = v114.toInt := fld_of c139 rfl
  have q142 : fld (S105 0) 8 = v74.toInt := fld_of c107 rfl
  have q143 : fld (S110 0) 8 = v116.toInt := fld_of c139 rfl
  refine lv_aload_n hx hb dX12_ruleLine_29 rfl (lv_at hl 1 rfl) ?_
  refine xget E hQ 0 (by decide) c139 rfl 20 (by decide) q1488 rfl dX12_ruleLine_30 ?_
  refine lv_iload_n hx hb dX12_ruleLine_33 rfl (lv_at hl 0 rfl) ?_
  refine lv_iconst (v := 1) hx hb dX12_ruleLine_34 (by decide) ?_
  refine lv_iadd hx hb dX12_ruleLine_35 ?_
  refine lv_topi (fun z144 e145 => ?_)
  have t146 := ib_add e145 b67 (by decide : Bd 1 (1) (1)) (by decide) (by decide)
  have b147 : Bd z144 (97) (117) := ib_addb t146 b67 (by decide : Bd 1 (1) (1))
  have t146 : z144.toInt = z64.toInt + 1 := fold_add t146 rfl (by decide)
  refine lv_aload_n hx hb dX12_ruleLine_36 rfl (lv_at hl 1 rfl) ?_
  refine lv_aload_n hx hb dX12_ruleLine_37 rfl (lv_at hl 1 rfl) ?_
  refine xget E hQ 0 (by decide) c139 rfl 20 (by decide) q1488 rfl dX12_ruleLine_38 ?_
  refine lv_iload_n hx hb dX12_ruleLine_41 rfl (lv_at hl 0 rfl) ?_
  have c148 : S110 10 = .inl (g.2 0, 120, .inl (upd f102 (z64 : Int32).toNatClampNeg r68)) := ((o110 10 (by decide)).trans c106)
  refine xiald E hQ 10 (by decide) c148 (ib_in b67 (by decide) (by decide)) dX12_ruleLine_42 ?_
  refine lv_topi (fun z149 e150 => ?_)
  refine lv_aload_n hx hb dX12_ruleLine_43 rfl (lv_at hl 1 rfl) ?_
  refine lv_iconst (v := 0) hx hb dX12_ruleLine_44 (by decide) ?_
  have c151 : S110 7 = .inl (g.2 0, 50, .inl f30) := ((o110 7 (by decide)).trans (up_ne eS105 (by decide) ((o68 7 (by decide)).trans c31)))
  refine xcVi E hs hQ hml hl.1 0 (gX12_hasRead_0 l g ad hD S110 hI ) mX12_hasRead q1697 (by decide) c139 rfl rfl ⟨(Nat.le_of_ble_eq_true rfl), (Nat.le_of_ble_eq_true rfl)⟩ ⟨(Nat.le_of_ble_eq_true rfl), (Nat.le_of_ble_eq_true rfl)⟩ (Nat.le_of_ble_eq_true rfl) rfl dX12_ruleLine_45 (fun r152 S152 H locs hp152 hQ _ => ?_)
  obtain ⟨rfl, b152, g152_0⟩ := hp152
  have q153 : elm (S110 7) 40 = v36.toInt := (elm_of c151 40).trans (congrArg Int32.toInt (ee37))
  refine lv_iconst (v := 1) hx hb dX12_ruleLine_48 (by decide) ?_
  refine lv_isub hx hb dX12_ruleLine_49 ?_
  refine lv_topi (fun z154 e155 => ?_)
  have t156 := ib_sub e155 b152 (by decide : Bd 1 (1) (1)) (by decide) (by decide)
  have b157 : Bd z154 (-1) (11) := ib_subb t156 b152 (by decide : Bd 1 (1) (1))
  have t156 : z154.toInt = r152.toInt - 1 := fold_sub t156 rfl (by decide)
  refine xcVi E hs hQ hml hl.1 0 (gX12_number_9 l g ad hD S110 hI z149 z154 b157 (by omega)) mX12_number q1676 (by decide) c139 rfl rfl ⟨(Nat.le_of_ble_eq_true rfl), (Nat.le_of_ble_eq_true rfl)⟩ ⟨(Nat.le_of_ble_eq_true rfl), (Nat.le_of_ble_eq_true rfl)⟩ (Nat.le_of_ble_eq_true rfl) rfl dX12_ruleLine_50 (fun r158 S158 H locs hp158 hQ _ => ?_)
  obtain ⟨hI, o158, g158_0, g158_1, g158_2⟩ := hp158
  obtain ⟨v159, v160, v162, v164, v166, v167, w168, v169, v171, v172, v173, v174, v176, v178, v180, v182, v184, v185, v186, c187, b161, b163, b165, b170, b175, b177, b179, b181, b183⟩ := invM_0 hI
  have c187 : S158 0 = .inr (12, [.int v159, .ref (ad 1), .ref (ad 2), .ref (ad 3), .ref (ad 4), .ref (ad 5), .int v160, .int v162, .int v164, .int v166, .int v167, .long w168, .int v169, .int v171, .int v172, .int v173, .ref (ad 6), .ref (ad 7), .ref (ad 8), .ref (ad 9), .ref (ad 10), .ref (ad 11), .ref (ad 12), .ref (ad 13), .ref (ad 14), .ref (ad 15), .int v174, .int v176, .ref (ad 16), .int v178, .int v180, .int v182, .int v184, .int v185, .ref (ad 17), .ref (ad 18), .int v186, .ref (ad 19)]) := c187
  have q188 : fld (S158 0) 6 = v160.toInt := fld_of c187 rfl
  have q189 : fld (S158 0) 7 = v162.toInt := fld_of c187 rfl
  have q190 : fld (S158 0) 8 = v164.toInt := fld_of c187 rfl
  have c191 : S158 10 = .inl (g.2 0, 120, .inl (upd f102 (z64 : Int32).toNatClampNeg r68)) := ((o158 10 (by decide)).trans c148)
  refine xiast E hs hQ 10 (by decide) c191 (ib_in b147 (by decide) (by decide)) dX12_ruleLine_53 (fun H locs S192 eS192 hQ => ?_)
  have hI := invM_up_10 hI eS192 ⟨_, rfl⟩
  have c193 : S192 10 = .inl (g.2 0, 120, .inl (upd (upd f102 (z64 : Int32).toNatClampNeg r68) (z144 : Int32).toNatClampNeg r158)) := up_at eS192 rfl
  refine lv_aload_n hx hb dX12_ruleLine_54 rfl (lv_at hl 1 rfl) ?_
  refine lv_ldc2 (v := 419) hx hb E.2.2.1 (E.2.2.2.1 _ q1725) dX12_ruleLine_55 ?_
  have c194 : S192 0 = .inr (12, [.int v159, .ref (ad 1), .ref (ad 2), .ref (ad 3), .ref (ad 4), .ref (ad 5), .int v160, .int v162, .int v164, .int v166, .int v167, .long w168, .int v169, .int v171, .int v172, .int v173, .ref (ad 6), .ref (ad 7), .ref (ad 8), .ref (ad 9), .ref (ad 10), .ref (ad 11), .ref (ad 12), .ref (ad 13), .ref (ad 14), .ref (ad 15), .int v174, .int v176, .ref (ad 16), .int v178, .int v180, .int v182, .int v184, .int v185, .ref (ad 17), .ref (ad 18), .int v186, .ref (ad 19)]) := (up_ne eS192 (by decide) c187)
  have q195 : fld (S192 0) 6 = v160.toInt := fld_of c194 rfl
  have q196 : fld (S192 0) 7 = v162.toInt := fld_of c194 rfl
  refine xcVv E hs hQ hml hl.1 0 (gX12_asks_0 l g ad hD S192 hI 419 (by omega)) mX12_asks q1655 (by decide) c194 rfl rfl ⟨(Nat.le_of_ble_eq_true rfl), (Nat.le_of_ble_eq_true rfl)⟩ ⟨(Nat.le_of_ble_eq_true rfl), (Nat.le_of_ble_eq_true rfl)⟩ (Nat.le_of_ble_eq_true rfl) rfl dX12_ruleLine_58 (fun S197 H locs hp197 hQ _ => ?_)
  obtain ⟨hI, o197, g197_0, g197_1, g197_2⟩ := hp197
  obtain ⟨v198, v199, v201, v203, v205, v206, w207, v208, v210, v211, v212, v213, v215, v217, v219, v221, v223, v224, v225, c226, b200, b202, b204, b209, b214, b216, b218, b220, b222⟩ := invM_0 hI
  have c226 : S197 0 = .inr (12, [.int v198, .ref (ad 1), .ref (ad 2), .ref (ad 3), .ref (ad 4), .ref (ad 5), .int v199, .int v201, .int v203, .int v205, .int v206, .long w207, .int v208, .int v210, .int v211, .int v212, .ref (ad 6), .ref (ad 7), .ref (ad 8), .ref (ad 9), .ref (ad 10), .ref (ad 11), .ref (ad 12), .ref (ad 13), .ref (ad 14), .ref (ad 15), .int v213, .int v215, .ref (ad 16), .int v217, .int v219, .int v221, .int v223, .int v224, .ref (ad 17), .ref (ad 18), .int v225, .ref (ad 19)]) := c226
  have q227 : fld (S197 0) 6 = v199.toInt := fld_of c226 rfl
  have q228 : fld (S197 0) 7 = v201.toInt := fld_of c226 rfl
  have q229 : fld (S192 0) 8 = v164.toInt := fld_of c194 rfl
  have q230 : fld (S197 0) 8 = v203.toInt := fld_of c226 rfl
  refine lv_aload_n hx hb dX12_ruleLine_61 rfl (lv_at hl 1 rfl) ?_
  refine xcVi E hs hQ hml hl.1 0 (gX12_phaseHere_0 l g ad hD S197 hI (by omega)) mX12_phaseHere q1726 (by decide) c226 rfl rfl ⟨(Nat.le_of_ble_eq_true rfl), (Nat.le_of_ble_eq_true rfl)⟩ ⟨(Nat.le_of_ble_eq_true rfl), (Nat.le_of_ble_eq_true rfl)⟩ (Nat.le_of_ble_eq_true rfl) rfl dX12_ruleLine_62 (fun r231 S231 H locs hp231 hQ _ => ?_)
  obtain ⟨hI, o231, b231, g231_0, g231_1, g231_2, g231_3⟩ := hp231
  obtain ⟨v232, v233, v235, v237, v239, v240, w241, v242, v244, v245, v246, v247, v249, v251, v253, v255, v257, v258, v259, c260, b234, b236, b238, b243, b248, b250, b252, b254, b256⟩ := invM_0 hI
  have c260 : S231 0 = .inr (12, [.int v232, .ref (ad 1), .ref (ad 2), .ref (ad 3), .ref (ad 4), .ref (ad 5), .int v233, .int v235, .int v237, .int v239, .int v240, .long w241, .int v242, .int v244, .int v245, .int v246, .ref (ad 6), .ref (ad 7), .ref (ad 8), .ref (ad 9), .ref (ad 10), .ref (ad 11), .ref (ad 12), .ref (ad 13), .ref (ad 14), .ref (ad 15), .int v247, .int v249, .ref (ad 16), .int v251, .int v253, .int v255, .int v257, .int v258, .ref (ad 17), .ref (ad 18), .int v259, .ref (ad 19)]) := c260
  have q261 : fld (S231 0) 6 = v233.toInt := fld_of c260 rfl
  have q262 : fld (S231 0) 7 = v235.toInt := fld_of c260 rfl
  have q263 : fld (S231 0) 8 = v237.toInt := fld_of c260 rfl
  refine lv_istore_n (lv' := [(2, .int r231), (1, .int z64), (0, .ref (ad 0))]) hx hb dX12_ruleLine_65 rfl hl (by decide) rfl (fun ls hl => ?_)
  refine lv_iload_n hx hb dX12_ruleLine_66 rfl (lv_at hl 0 rfl) ?_
  refine lv_if_ne (tgt := 75) hx hb dX12_ruleLine_67 (by decide) (fun k264 => ?_) (fun k264 => ?_)
  · have h265 := ib_ne k264
    have b266 : Bd r231 (1) (4) := rf_nlo b231 (by decide : Bd 0 (0) (0)) h265
    have g267 := g231_3.resolve_left (by omega)
    clear g231_3
    refine lv_aload_n hx hb dX12_ruleLine_75 rfl (lv_at hl 2 rfl) ?_
    refine xcVi E hs hQ hml hl.1 0 (gX12_phaseHere_0 l g ad hD S231 hI (by omega)) mX12_phaseHere q1726 (by decide) c260 rfl rfl ⟨(Nat.le_of_ble_eq_true rfl), (Nat.le_of_ble_eq_true rfl)⟩ ⟨(Nat.le_of_ble_eq_true rfl), (Nat.le_of_ble_eq_true rfl)⟩ (Nat.le_of_ble_eq_true rfl) rfl dX12_ruleLine_76 (fun r268 S268 H locs hp268 hQ _ => ?_)
    obtain ⟨hI, o268, b268, g268_0, g268_1, g268_2, g268_3⟩ := hp268
    obtain ⟨v269, v270, v272, v274, v276, v277, w278, v279, v281, v282, v283, v284, v286, v288, v290, v292, v294, v295, v296, c297, b271, b273, b275, b280, b285, b287, b289, b291, b293⟩ := invM_0 hI
    have c297 : S268 0 = .inr (12, [.int v269, .ref (ad 1), .ref (ad 2), .ref (ad 3), .ref (ad 4), .ref (ad 5), .int v270, .int v272, .int v274, .int v276, .int v277, .long w278, .int v279, .int v281, .int v282, .int v283, .ref (ad 6), .ref (ad 7), .ref (ad 8), .ref (ad 9), .ref (ad 10), .ref (ad 11), .ref (ad 12), .ref (ad 13), .ref (ad 14), .ref (ad 15), .int v284, .int v286, .ref (ad 16), .int v288, .int v290, .int v292, .int v294, .int v295, .ref (ad 17), .ref (ad 18), .int v296, .ref (ad 19)]) := c297
    have q298 : fld (S268 0) 6 = v270.toInt := fld_of c297 rfl
    have q299 : fld (S268 0) 7 = v272.toInt := fld_of c297 rfl
    have q300 : fld (S268 0) 8 = v274.toInt := fld_of c297 rfl
    refine lv_istore_n (lv' := [(3, .int r268), (2, .int r231), (1, .int z64), (0, .ref (ad 0))]) hx hb dX12_ruleLine_79 rfl hl (by decide) rfl (fun ls hl => ?_)
    have loop80 : ∀ (n : Nat) (S_80 : SS) (H : Heap) (locs : List Loc) (ls : Array Slot) (x80_2 : Int32) (x80_3 : Int32) (y80_0_0 : Int32) (y80_0_6 : Int32) (y80_0_7 : Int32) (y80_0_8 : Int32) (y80_0_9 : Int32) (y80_0_10 : Int32) (wy80_0_11 : Int64) (y80_0_12 : Int32) (y80_0_13 : Int32) (y80_0_14 : Int32) (y80_0_15 : Int32) (y80_0_26 : Int32) (y80_0_27 : Int32) (y80_0_29 : Int32) (y80_0_30 : Int32) (y80_0_31 : Int32) (y80_0_32 : Int32) (y80_0_33 : Int32) (y80_0_36 : Int32), Bd x80_3 (0) (4) → Bd y80_0_6 (0) (1200) → Bd y80_0_7 (0) (1200) → Bd y80_0_8 (0) (4) → Bd y80_0_12 (0) (3) → Bd y80_0_26 (0) (11) → Bd y80_0_27 (-1) (400) → Bd y80_0_29 (0) (2) → Bd y80_0_30 (0) (11) → Bd y80_0_31 (-1) (468) → 0 ≤ y80_0_6.toInt + (-1) * y80_0_7.toInt → 0 ≤ v2.toInt + (-1) * y80_0_6.toInt → 0 ≤ y80_0_6.toInt + (-1) * v2.toInt → 0 ≤ 4 * v2.toInt + (-4) * v4.toInt + v6.toInt + (-4) * y80_0_6.toInt + 4 * y80_0_7.toInt + (-1) * y80_0_8.toInt → 32 * y80_0_6.toInt + (-32) * y80_0_7.toInt + 8 * y80_0_8.toInt + x80_3.toInt < ((n : Nat) : Int) → InvM g ad S_80 → (∀ j, j ∉ ([0] : List Nat) → S_80 j = S268 j) → S_80 0 = .inr (12, [.int y80_0_0, .ref (ad 1), .ref (ad 2), .ref (ad 3), .ref (ad 4), .ref (ad 5), .int y80_0_6, .int y80_0_7, .int y80_0_8, .int y80_0_9, .int y80_0_10, .long wy80_0_11, .int y80_0_12, .int y80_0_13, .int y80_0_14, .int y80_0_15, .ref (ad 6), .ref (ad 7), .ref (ad 8), .ref (ad 9), .ref (ad 10), .ref (ad 11), .ref (ad 12), .ref (ad 13), .ref (ad 14), .ref (ad 15), .int y80_0_26, .int y80_0_27, .ref (ad 16), .int y80_0_29, .int y80_0_30, .int y80_0_31, .int y80_0_32, .int y80_0_33, .ref (ad 17), .ref (ad 18), .int y80_0_36, .ref (ad 19)]) → Hp g ad 20 S_80 (FA ad 20) s.heap H locs → lv_has ls 4 [(3, .int x80_3), (2, .int x80_2), (1, .int z64), (0, .ref (ad 0))] → W p l e (Rm 4) s m [.ref (ad 0)].toArray below meth c H locs 0 0 (MQ below (va_Qv (fun S' => InvM g ad S' ∧ (∀ j, j ∉ ([0, 7, 10] : List Nat) → S' j = S j) ∧ (0 ≤ fld (S' 0) 6 + (-1) * fld (S' 0) 7) ∧ (0 ≤ fld (S 0) 6 + (-1) * fld (S' 0) 6 ∧ 0 ≤ fld (S' 0) 6 + (-1) * fld (S 0) 6) ∧ (0 ≤ 4 * fld (S 0) 6 + (-4) * fld (S 0) 7 + fld (S 0) 8 + (-4) * fld (S' 0) 6 + 4 * fld (S' 0) 7 + (-1) * fld (S' 0) 8) ∧ (0 ≤ elm (S 7) 40 + (-1) * elm (S' 7) 40 ∧ 0 ≤ elm (S' 7) 40 + (-1) * elm (S 7) 40) ∧ (0 ≤ elm (S 7) 41 + (-1) * elm (S' 7) 41 ∧ 0 ≤ elm (S' 7) 41 + (-1) * elm (S 7) 41) ∧ (0 ≤ elm (S 7) 43 + (-1) * elm (S' 7) 43 ∧ 0 ≤ elm (S' 7) 43 + (-1) * elm (S 7) 43) ∧ (0 ≤ elm (S 7) 46 + (-1) * elm (S' 7) 46 ∧ 0 ≤ elm (S' 7) 46 + (-1) * elm (S 7) 46) ∧ (0 ≤ elm (S 7) 48 + (-1) * elm (S' 7) 48 ∧ 0 ≤ elm (S' 7) 48 + (-1) * elm (S 7) 48) ∧ (0 ≤ elm (S 7) 49 + (-1) * elm (S' 7) 49 ∧ 0 ≤ elm (S' 7) 49 + (-1) * elm (S 7) 49) ∧ EFp (S' 7) (S 7) 0 40) (QB g ad 20) (FA ad 20)) [.ref (ad 0)].toArray s 0 0 (FA ad 20)) (F0 m 80 ls []) := by
      intro n
      induction n with
      | zero => intro S_80 H locs ls x80_2 x80_3 y80_0_0 y80_0_6 y80_0_7 y80_0_8 y80_0_9 y80_0_10 wy80_0_11 y80_0_12 y80_0_13 y80_0_14 y80_0_15 y80_0_26 y80_0_27 y80_0_29 y80_0_30 y80_0_31 y80_0_32 y80_0_33 y80_0_36 Bx80_3 By80_0_6 By80_0_7 By80_0_8 By80_0_12 By80_0_26 By80_0_27 By80_0_29 By80_0_30 By80_0_31 C80_0 C80_1 C80_2 C80_3 hn80_ hI hf80 cl80_0 hQ hl; exfalso; omega
      | succ n80_ ih80 =>
        intro S_80 H locs ls x80_2 x80_3 y80_0_0 y80_0_6 y80_0_7 y80_0_8 y80_0_9 y80_0_10 wy80_0_11 y80_0_12 y80_0_13 y80_0_14 y80_0_15 y80_0_26 y80_0_27 y80_0_29 y80_0_30 y80_0_31 y80_0_32 y80_0_33 y80_0_36 Bx80_3 By80_0_6 By80_0_7 By80_0_8 By80_0_12 By80_0_26 By80_0_27 By80_0_29 By80_0_30 By80_0_31 C80_0 C80_1 C80_2 C80_3 hn80_ hI hf80 cl80_0 hQ hl
        refine lv_iload_n hx hb dX12_ruleLine_80 rfl (lv_at hl 0 rfl) ?_
        refine lv_if_eq (tgt := 96) hx hb dX12_ruleLine_81 (by decide) (fun k301 => ?_) (fun k301 => ?_)
        · have h302 := ib_eq k301
          have b303 : Bd x80_3 (0) (0) := ⟨(Bx80_3).1, ((rf_eq Bx80_3 (by decide : Bd 0 (0) (0)) h302).1).2⟩
          refine lv_aload_n hx hb dX12_ruleLine_96 rfl (lv_at hl 3 rfl) ?_
          refine xget E hQ 0 (by decide) cl80_0 rfl 20 (by decide) q1488 rfl dX12_ruleLine_97 ?_
          refine lv_iload_n hx hb dX12_ruleLine_100 rfl (lv_at hl 2 rfl) ?_
          refine lv_iconst (v := 2) hx hb dX12_ruleLine_101 (by decide) ?_
          refine lv_iadd hx hb dX12_ruleLine_102 ?_
          refine lv_topi (fun z304 e305 => ?_)
          have t306 := ib_add e305 b67 (by decide : Bd 2 (2) (2)) (by decide) (by decide)
          have b307 : Bd z304 (98) (118) := ib_addb t306 b67 (by decide : Bd 2 (2) (2))
          have t306 : z304.toInt = z64.toInt + 2 := fold_add t306 rfl (by decide)
          refine lv_iload_n hx hb dX12_ruleLine_103 rfl (lv_at hl 1 rfl) ?_
          have c308 : S_80 10 = .inl (g.2 0, 120, .inl (upd (upd f102 (z64 : Int32).toNatClampNeg r68) (z144 : Int32).toNatClampNeg r158)) := ((hf80 10 (by decide)).trans ((o268 10 (by decide)).trans ((o231 10 (by decide)).trans ((o197 10 (by decide)).trans c193))))
          refine xiast E hs hQ 10 (by decide) c308 (ib_in b307 (by decide) (by decide)) dX12_ruleLine_104 (fun H locs S309 eS309 hQ => ?_)
          have hI := invM_up_10 hI eS309 ⟨_, rfl⟩
          have c310 : S309 10 = .inl (g.2 0, 120, .inl (upd (upd (upd f102 (z64 : Int32).toNatClampNeg r68) (z144 : Int32).toNatClampNeg r158) (z304 : Int32).toNatClampNeg x80_2)) := up_at eS309 rfl
          refine lv_aload_n hx hb dX12_ruleLine_105 rfl (lv_at hl 3 rfl) ?_
          refine lv_ldc2 (v := 555) hx hb E.2.2.1 (E.2.2.2.1 _ q1724) dX12_ruleLine_106 ?_
          have c311 : S309 0 = .inr (12, [.int y80_0_0, .ref (ad 1), .ref (ad 2), .ref (ad 3), .ref (ad 4), .ref (ad 5), .int y80_0_6, .int y80_0_7, .int y80_0_8, .int y80_0_9, .int y80_0_10, .long wy80_0_11, .int y80_0_12, .int y80_0_13, .int y80_0_14, .int y80_0_15, .ref (ad 6), .ref (ad 7), .ref (ad 8), .ref (ad 9), .ref (ad 10), .ref (ad 11), .ref (ad 12), .ref (ad 13), .ref (ad 14), .ref (ad 15), .int y80_0_26, .int y80_0_27, .ref (ad 16), .int y80_0_29, .int y80_0_30, .int y80_0_31, .int y80_0_32, .int y80_0_33, .ref (ad 17), .ref (ad 18), .int y80_0_36, .ref (ad 19)]) := (up_ne eS309 (by decide) cl80_0)
          have q312 : fld (S309 0) 6 = y80_0_6.toInt := fld_of c311 rfl
          have q313 : fld (S309 0) 7 = y80_0_7.toInt := fld_of c311 rfl
          refine xcVv E hs hQ hml hl.1 0 (gX12_asks_0 l g ad hD S309 hI 555 (by omega)) mX12_asks q1655 (by decide) c311 rfl rfl ⟨(Nat.le_of_ble_eq_true rfl), (Nat.le_of_ble_eq_true rfl)⟩ ⟨(Nat.le_of_ble_eq_true rfl), (Nat.le_of_ble_eq_true rfl)⟩ (Nat.le_of_ble_eq_true rfl) rfl dX12_ruleLine_109 (fun S314 H locs hp314 hQ _ => ?_)
          obtain ⟨hI, o314, g314_0, g314_1, g314_2⟩ := hp314
          obtain ⟨v315, v316, v318, v320, v322, v323, w324, v325, v327, v328, v329, v330, v332, v334, v336, v338, v340, v341, v342, c343, b317, b319, b321, b326, b331, b333, b335, b337, b339⟩ := invM_0 hI
          have c343 : S314 0 = .inr (12, [.int v315, .ref (ad 1), .ref (ad 2), .ref (ad 3), .ref (ad 4), .ref (ad 5), .int v316, .int v318, .int v320, .int v322, .int v323, .long w324, .int v325, .int v327, .int v328, .int v329, .ref (ad 6), .ref (ad 7), .ref (ad 8), .ref (ad 9), .ref (ad 10), .ref (ad 11), .ref (ad 12), .ref (ad 13), .ref (ad 14), .ref (ad 15), .int v330, .int v332, .ref (ad 16), .int v334, .int v336, .int v338, .int v340, .int v341, .ref (ad 17), .ref (ad 18), .int v342, .ref (ad 19)]) := c343
          have q344 : fld (S314 0) 6 = v316.toInt := fld_of c343 rfl
          have q345 : fld (S314 0) 7 = v318.toInt := fld_of c343 rfl
          have q346 : fld (S309 0) 8 = y80_0_8.toInt := fld_of c311 rfl
          have q347 : fld (S314 0) 8 = v320.toInt := fld_of c343 rfl
          refine lv_aload_n hx hb dX12_ruleLine_112 rfl (lv_at hl 3 rfl) ?_
          refine xget E hQ 0 (by decide) c343 rfl 20 (by decide) q1488 rfl dX12_ruleLine_113 ?_
          refine lv_iload_n hx hb dX12_ruleLine_116 rfl (lv_at hl 2 rfl) ?_
          refine lv_iconst (v := 3) hx hb dX12_ruleLine_117 (by decide) ?_
          refine lv_iadd hx hb dX12_ruleLine_118 ?_
          refine lv_topi (fun z348 e349 => ?_)
          have t350 := ib_add e349 b67 (by decide : Bd 3 (3) (3)) (by decide) (by decide)
          have b351 : Bd z348 (99) (119) := ib_addb t350 b67 (by decide : Bd 3 (3) (3))
          have t350 : z348.toInt = z64.toInt + 3 := fold_add t350 rfl (by decide)
          refine lv_aload_n hx hb dX12_ruleLine_119 rfl (lv_at hl 3 rfl) ?_
          refine lv_iconst (v := 0) hx hb dX12_ruleLine_120 (by decide) ?_
          refine lv_iconst (v := 5) hx hb dX12_ruleLine_121 (by decide) ?_
          refine xcVi E hs hQ hml hl.1 0 (gX12_number_7 l g ad hD S314 hI 0 5 (by decide : Bd 0 (0) (0)) (by decide : Bd 5 (5) (5)) (by omega)) mX12_number q1676 (by decide) c343 rfl rfl ⟨(Nat.le_of_ble_eq_true rfl), (Nat.le_of_ble_eq_true rfl)⟩ ⟨(Nat.le_of_ble_eq_true rfl), (Nat.le_of_ble_eq_true rfl)⟩ (Nat.le_of_ble_eq_true rfl) rfl dX12_ruleLine_122 (fun r352 S352 H locs hp352 hQ _ => ?_)
          obtain ⟨hI, o352, b352, g352_0, g352_1, g352_2⟩ := hp352
          obtain ⟨v353, v354, v356, v358, v360, v361, w362, v363, v365, v366, v367, v368, v370, v372, v374, v376, v378, v379, v380, c381, b355, b357, b359, b364, b369, b371, b373, b375, b377⟩ := invM_0 hI
          have c381 : S352 0 = .inr (12, [.int v353, .ref (ad 1), .ref (ad 2), .ref (ad 3), .ref (ad 4), .ref (ad 5), .int v354, .int v356, .int v358, .int v360, .int v361, .long w362, .int v363, .int v365, .int v366, .int v367, .ref (ad 6), .ref (ad 7), .ref (ad 8), .ref (ad 9), .ref (ad 10), .ref (ad 11), .ref (ad 12), .ref (ad 13), .ref (ad 14), .ref (ad 15), .int v368, .int v370, .ref (ad 16), .int v372, .int v374, .int v376, .int v378, .int v379, .ref (ad 17), .ref (ad 18), .int v380, .ref (ad 19)]) := c381
          have q382 : fld (S352 0) 6 = v354.toInt := fld_of c381 rfl
          have q383 : fld (S352 0) 7 = v356.toInt := fld_of c381 rfl
          have q384 : fld (S352 0) 8 = v358.toInt := fld_of c381 rfl
          have c385 : S352 10 = .inl (g.2 0, 120, .inl (upd (upd (upd f102 (z64 : Int32).toNatClampNeg r68) (z144 : Int32).toNatClampNeg r158) (z304 : Int32).toNatClampNeg x80_2)) := ((o352 10 (by decide)).trans ((o314 10 (by decide)).trans c310))
          refine xiast E hs hQ 10 (by decide) c385 (ib_in b351 (by decide) (by decide)) dX12_ruleLine_125 (fun H locs S386 eS386 hQ => ?_)
          have hI := invM_up_10 hI eS386 ⟨_, rfl⟩
          have c387 : S386 10 = .inl (g.2 0, 120, .inl (upd (upd (upd (upd f102 (z64 : Int32).toNatClampNeg r68) (z144 : Int32).toNatClampNeg r158) (z304 : Int32).toNatClampNeg x80_2) (z348 : Int32).toNatClampNeg r352)) := up_at eS386 rfl
          obtain ⟨f388, ef389⟩ : ∃ f : Nat → Int32, f = upd (upd (upd (upd f102 (z64 : Int32).toNatClampNeg r68) (z144 : Int32).toNatClampNeg r158) (z304 : Int32).toNatClampNeg x80_2) (z348 : Int32).toNatClampNeg r352 := ⟨_, rfl⟩
          have c390 : S386 10 = .inl (g.2 0, 120, .inl f388) := by rw [ef389]; exact c387
          refine lv_aload_n hx hb dX12_ruleLine_126 rfl (lv_at hl 3 rfl) ?_
          refine lv_bipush (v := 7) hx hb dX12_ruleLine_127 (by decide) ?_
          refine lv_aload_n hx hb dX12_ruleLine_129 rfl (lv_at hl 3 rfl) ?_
          refine lv_bipush (v := 7) hx hb dX12_ruleLine_130 (by decide) ?_
          have c391 : S386 7 = .inl (g.2 0, 50, .inl f30) := (up_ne eS386 (by decide) ((o352 7 (by decide)).trans ((o314 7 (by decide)).trans (up_ne eS309 (by decide) ((hf80 7 (by decide)).trans ((o268 7 (by decide)).trans ((o231 7 (by decide)).trans ((o197 7 (by decide)).trans (up_ne eS192 (by decide) ((o158 7 (by decide)).trans c151))))))))))
          have c393 : S386 0 = .inr (12, [.int v353, .ref (ad 1), .ref (ad 2), .ref (ad 3), .ref (ad 4), .ref (ad 5), .int v354, .int v356, .int v358, .int v360, .int v361, .long w362, .int v363, .int v365, .int v366, .int v367, .ref (ad 6), .ref (ad 7), .ref (ad 8), .ref (ad 9), .ref (ad 10), .ref (ad 11), .ref (ad 12), .ref (ad 13), .ref (ad 14), .ref (ad 15), .int v368, .int v370, .ref (ad 16), .int v372, .int v374, .int v376, .int v378, .int v379, .ref (ad 17), .ref (ad 18), .int v380, .ref (ad 19)]) := (up_ne eS386 (by decide) c381)
          refine xcVi E hs hQ hml hl.1 0 (gX12_hasRead_7 l g ad hD S386 hI ) mX12_hasRead q1697 (by decide) c393 rfl rfl ⟨(Nat.le_of_ble_eq_true rfl), (Nat.le_of_ble_eq_true rfl)⟩ ⟨(Nat.le_of_ble_eq_true rfl), (Nat.le_of_ble_eq_true rfl)⟩ (Nat.le_of_ble_eq_true rfl) rfl dX12_ruleLine_132 (fun r392 S392 H locs hp392 hQ _ => ?_)
          obtain ⟨rfl, b392, g392_0⟩ := hp392
          have q394 : elm (S386 7) 47 = v33.toInt := (elm_of c391 47).trans (congrArg Int32.toInt (ee34))
          have b395 : Bd r392 (0) (5) := ⟨(b392).1, by omega⟩
          refine lv_iconst (v := 1) hx hb dX12_ruleLine_135 (by decide) ?_
          refine lv_iadd hx hb dX12_ruleLine_136 ?_
          refine lv_topi (fun z396 e397 => ?_)
          have t398 := ib_add e397 b395 (by decide : Bd 1 (1) (1)) (by decide) (by decide)
          have b399 : Bd z396 (1) (6) := ib_addb t398 b395 (by decide : Bd 1 (1) (1))
          have t398 : z396.toInt = r392.toInt + 1 := fold_add t398 rfl (by decide)
          refine xcVv E hs hQ hml hl.1 0 (gX12_tells_7 l g ad hD S386 hI z396 (ib_wk b399 (by decide) (by decide))) mX12_tells q1629 (by decide) c393 rfl rfl ⟨(Nat.le_of_ble_eq_true rfl), (Nat.le_of_ble_eq_true rfl)⟩ ⟨(Nat.le_of_ble_eq_true rfl), (Nat.le_of_ble_eq_true rfl)⟩ (Nat.le_of_ble_eq_true rfl) rfl dX12_ruleLine_137 (fun S400 H locs hp400 hQ _ => ?_)
          obtain ⟨hI, o400, g400_0, g400_1, g400_2, g400_3, g400_4, g400_5, g400_6, ef400_7⟩ := hp400
          have ef401 : EFp (S400 7) (S 7) 0 40 := ef_tt ef400_7 (ef_tr ef7_0 ((up_eq (j := 7) eS386 (by decide)).trans ((o352 7 (by decide)).trans ((o314 7 (by decide)).trans ((up_eq (j := 7) eS309 (by decide)).trans ((hf80 7 (by decide)).trans ((o268 7 (by decide)).trans ((o231 7 (by decide)).trans ((o197 7 (by decide)).trans ((up_eq (j := 7) eS192 (by decide)).trans ((o158 7 (by decide)).trans ((o110 7 (by decide)).trans ((up_eq (j := 7) eS105 (by decide)).trans (o68 7 (by decide)))))))))))))))
          obtain ⟨f402, c403, b404⟩ := invM_7 hI
          obtain ⟨v405, ee406⟩ : ∃ z : Int32, f402 47 = z := ⟨_, rfl⟩
          have b407 : Bd v405 (0) (6) := (by rw [← ee406]; exact b404.2.2.2.2.2.1 47 (by decide))
          have q408 : elm (S400 7) 47 = v405.toInt := (elm_of c403 47).trans (congrArg Int32.toInt (ee406))
          have b409 : Bd v405 (1) (6) := ⟨by omega, (b407).2⟩
          have q410 : elm (S386 7) 40 = v36.toInt := (elm_of c391 40).trans (congrArg Int32.toInt (ee37))
          obtain ⟨v411, ee412⟩ : ∃ z : Int32, f402 40 = z := ⟨_, rfl⟩
          have b413 : Bd v411 (0) (12) := (by rw [← ee412]; exact b404.1 40 (by decide))
          have q414 : elm (S400 7) 40 = v411.toInt := (elm_of c403 40).trans (congrArg Int32.toInt (ee412))
          have q415 : elm (S386 7) 41 = v39.toInt := (elm_of c391 41).trans (congrArg Int32.toInt (ee40))
          obtain ⟨v416, ee417⟩ : ∃ z : Int32, f402 41 = z := ⟨_, rfl⟩
          have b418 : Bd v416 (0) (12) := (by rw [← ee417]; exact b404.2.1 41 (by decide))
          have q419 : elm (S400 7) 41 = v416.toInt := (elm_of c403 41).trans (congrArg Int32.toInt (ee417))
          have q420 : elm (S386 7) 43 = v42.toInt := (elm_of c391 43).trans (congrArg Int32.toInt (ee43))
          obtain ⟨v421, ee422⟩ : ∃ z : Int32, f402 43 = z := ⟨_, rfl⟩
          have b423 : Bd v421 (0) (12) := (by rw [← ee422]; exact b404.2.2.2.1 43 (by decide))
          have q424 : elm (S400 7) 43 = v421.toInt := (elm_of c403 43).trans (congrArg Int32.toInt (ee422))
          have q425 : elm (S386 7) 46 = v45.toInt := (elm_of c391 46).trans (congrArg Int32.toInt (ee46))
          obtain ⟨v426, ee427⟩ : ∃ z : Int32, f402 46 = z := ⟨_, rfl⟩
          have b428 : Bd v426 (0) (8) := (by rw [← ee427]; exact b404.2.2.2.2.1 46 (by decide))
          have q429 : elm (S400 7) 46 = v426.toInt := (elm_of c403 46).trans (congrArg Int32.toInt (ee427))
          have q430 : elm (S386 7) 48 = v48.toInt := (elm_of c391 48).trans (congrArg Int32.toInt (ee49))
          obtain ⟨v431, ee432⟩ : ∃ z : Int32, f402 48 = z := ⟨_, rfl⟩
          have b433 : Bd v431 (0) (3) := (by rw [← ee432]; exact b404.2.2.2.2.2.2.1 48 (by decide))
          have q434 : elm (S400 7) 48 = v431.toInt := (elm_of c403 48).trans (congrArg Int32.toInt (ee432))
          have q435 : elm (S386 7) 49 = v51.toInt := (elm_of c391 49).trans (congrArg Int32.toInt (ee52))
          obtain ⟨v436, ee437⟩ : ∃ z : Int32, f402 49 = z := ⟨_, rfl⟩
          have b438 : Bd v436 (0) (40) := (by rw [← ee437]; exact b404.2.2.2.2.2.2.2 49 (by decide))
          have q439 : elm (S400 7) 49 = v436.toInt := (elm_of c403 49).trans (congrArg Int32.toInt (ee437))
          have c440 : S400 0 = .inr (12, [.int v353, .ref (ad 1), .ref (ad 2), .ref (ad 3), .ref (ad 4), .ref (ad 5), .int v354, .int v356, .int v358, .int v360, .int v361, .long w362, .int v363, .int v365, .int v366, .int v367, .ref (ad 6), .ref (ad 7), .ref (ad 8), .ref (ad 9), .ref (ad 10), .ref (ad 11), .ref (ad 12), .ref (ad 13), .ref (ad 14), .ref (ad 15), .int v368, .int v370, .ref (ad 16), .int v372, .int v374, .int v376, .int v378, .int v379, .ref (ad 17), .ref (ad 18), .int v380, .ref (ad 19)]) := ((o400 0 (by decide)).trans c393)
          have q441 : fld (S400 0) 6 = v354.toInt := fld_of c440 rfl
          have q442 : fld (S400 0) 7 = v356.toInt := fld_of c440 rfl
          have q443 : fld (S400 0) 8 = v358.toInt := fld_of c440 rfl
          have q444 : elm (S 7) 40 = v36.toInt := (elm_of c31 40).trans (congrArg Int32.toInt (ee37))
          have q445 : elm (S 7) 41 = v39.toInt := (elm_of c31 41).trans (congrArg Int32.toInt (ee40))
          have q446 : elm (S 7) 43 = v42.toInt := (elm_of c31 43).trans (congrArg Int32.toInt (ee43))
          have q447 : elm (S 7) 46 = v45.toInt := (elm_of c31 46).trans (congrArg Int32.toInt (ee46))
          have q448 : elm (S 7) 48 = v48.toInt := (elm_of c31 48).trans (congrArg Int32.toInt (ee49))
          have q449 : elm (S 7) 49 = v51.toInt := (elm_of c31 49).trans (congrArg Int32.toInt (ee52))
          exact xrv E hr hlk hQ (⟨hI, (o_trans (up_o (o_trans (o_trans (up_o (o_trans (o_trans (o_trans (o_trans (up_o (o_trans (o_trans (up_o (o_trans o_refl o68 (by decide)) eS105 (by decide)) o110 (by decide)) o158 (by decide)) eS192 (by decide)) o197 (by decide)) o231 (by decide)) o268 (by decide)) hf80 (by decide)) eS309 (by decide)) o314 (by decide)) o352 (by decide)) eS386 (by decide)) o400 (by decide)), (by omega), ⟨by omega, by omega⟩, (by omega), ⟨by omega, by omega⟩, ⟨by omega, by omega⟩, ⟨by omega, by omega⟩, ⟨by omega, by omega⟩, ⟨by omega, by omega⟩, ⟨by omega, by omega⟩, ef401⟩) dX12_ruleLine_140
        · have h450 := ib_ne k301
          have b451 : Bd x80_3 (1) (4) := rf_nlo Bx80_3 (by decide : Bd 0 (0) (0)) h450
          refine lv_iload_n hx hb dX12_ruleLine_84 rfl (lv_at hl 1 rfl) ?_
          refine lv_iload_n hx hb dX12_ruleLine_85 rfl (lv_at hl 0 rfl) ?_
          refine lv_ior hx hb dX12_ruleLine_86 ?_
          refine lv_topi (fun z452 e453 => ?_)
          refine lv_istore_n (lv' := [(2, .int z452), (3, .int x80_3), (1, .int z64), (0, .ref (ad 0))]) hx hb dX12_ruleLine_87 rfl hl (by decide) rfl (fun ls hl => ?_)
          refine lv_aload_n hx hb dX12_ruleLine_88 rfl (lv_at hl 3 rfl) ?_
          have q454 : fld (S_80 0) 6 = y80_0_6.toInt := fld_of cl80_0 rfl
          have q455 : fld (S_80 0) 7 = y80_0_7.toInt := fld_of cl80_0 rfl
          refine xcVi E hs hQ hml hl.1 0 (gX12_phaseHere_0 l g ad hD S_80 hI (by omega)) mX12_phaseHere q1726 (by decide) cl80_0 rfl rfl ⟨(Nat.le_of_ble_eq_true rfl), (Nat.le_of_ble_eq_true rfl)⟩ ⟨(Nat.le_of_ble_eq_true rfl), (Nat.le_of_ble_eq_true rfl)⟩ (Nat.le_of_ble_eq_true rfl) rfl dX12_ruleLine_89 (fun r456 S456 H locs hp456 hQ _ => ?_)
          obtain ⟨hI, o456, b456, g456_0, g456_1, g456_2, g456_3⟩ := hp456
          obtain ⟨v457, v458, v460, v462, v464, v465, w466, v467, v469, v470, v471, v472, v474, v476, v478, v480, v482, v483, v484, c485, b459, b461, b463, b468, b473, b475, b477, b479, b481⟩ := invM_0 hI
          have c485 : S456 0 = .inr (12, [.int v457, .ref (ad 1), .ref (ad 2), .ref (ad 3), .ref (ad 4), .ref (ad 5), .int v458, .int v460, .int v462, .int v464, .int v465, .long w466, .int v467, .int v469, .int v470, .int v471, .ref (ad 6), .ref (ad 7), .ref (ad 8), .ref (ad 9), .ref (ad 10), .ref (ad 11), .ref (ad 12), .ref (ad 13), .ref (ad 14), .ref (ad 15), .int v472, .int v474, .ref (ad 16), .int v476, .int v478, .int v480, .int v482, .int v483, .ref (ad 17), .ref (ad 18), .int v484, .ref (ad 19)]) := c485
          have q486 : fld (S456 0) 6 = v458.toInt := fld_of c485 rfl
          have q487 : fld (S456 0) 7 = v460.toInt := fld_of c485 rfl
          have q488 : fld (S_80 0) 8 = y80_0_8.toInt := fld_of cl80_0 rfl
          have q489 : fld (S456 0) 8 = v462.toInt := fld_of c485 rfl
          refine lv_istore_n (lv' := [(3, .int r456), (2, .int z452), (1, .int z64), (0, .ref (ad 0))]) hx hb dX12_ruleLine_92 rfl hl (by decide) rfl (fun ls hl => ?_)
          refine lv_goto (tgt := 80) hx hb dX12_ruleLine_93 (by decide) ?_
          exact ih80 _ _ _ _ z452 r456 v457 v458 v460 v462 v464 v465 w466 v467 v469 v470 v471 v472 v474 v476 v478 v480 v482 v483 v484 b456 b459 b461 b463 b468 b473 b475 b477 b479 b481 (by omega) (by omega) (by omega) (by omega) (by omega) hI (o_trans hf80 o456 (by decide)) c485 hQ (lv_sub hl [0, 1, 2, 3] rfl)
    obtain ⟨n80, hn80⟩ := fu_n (32 * v270.toInt + (-32) * v272.toInt + 8 * v274.toInt + r268.toInt)
    exact loop80 n80 _ _ _ _ r231 r268 v269 v270 v272 v274 v276 v277 w278 v279 v281 v282 v283 v284 v286 v288 v290 v292 v294 v295 v296 b268 b271 b273 b275 b280 b285 b287 b289 b291 b293 (by omega) (by omega) (by omega) (by omega) (by omega) hI o_refl c297 hQ (lv_sub hl [0, 1, 2, 3] rfl)
  · have h490 := ib_eq k264
    have b491 : Bd r231 (0) (0) := ⟨(b231).1, ((rf_eq b231 (by decide : Bd 0 (0) (0)) h490).1).2⟩
    clear g231_3
    refine lv_aload_n hx hb dX12_ruleLine_70 rfl (lv_at hl 2 rfl) ?_
    refine lv_iconst (v := 1) hx hb dX12_ruleLine_71 (by decide) ?_
    refine xcVv E hs hQ hml hl.1 0 (gX12_fails_0 l g ad hD S231 hI 1 (ib_wk (by decide : Bd 1 (1) (1)) (by decide) (by decide))) mX12_fails q1667 (by decide) c260 rfl rfl ⟨(Nat.le_of_ble_eq_true rfl), (Nat.le_of_ble_eq_true rfl)⟩ ⟨(Nat.le_of_ble_eq_true rfl), (Nat.le_of_ble_eq_true rfl)⟩ (Nat.le_of_ble_eq_true rfl) rfl dX12_ruleLine_72 (fun S492 H locs hp492 hQ _ => ?_)
    obtain ⟨hI, o492, g492_0, g492_1, g492_2, g492_3⟩ := hp492
    obtain ⟨v493, v494, v496, v498, v500, v501, w502, v503, v505, v506, v507, v508, v510, v512, v514, v516, v518, v519, v520, c521, b495, b497, b499, b504, b509, b511, b513, b515, b517⟩ := invM_0 hI
    have c521 : S492 0 = .inr (12, [.int v493, .ref (ad 1), .ref (ad 2), .ref (ad 3), .ref (ad 4), .ref (ad 5), .int v494, .int v496, .int v498, .int v500, .int v501, .long w502, .int v503, .int v505, .int v506, .int v507, .ref (ad 6), .ref (ad 7), .ref (ad 8), .ref (ad 9), .ref (ad 10), .ref (ad 11), .ref (ad 12), .ref (ad 13), .ref (ad 14), .ref (ad 15), .int v508, .int v510, .ref (ad 16), .int v512, .int v514, .int v516, .int v518, .int v519, .ref (ad 17), .ref (ad 18), .int v520, .ref (ad 19)]) := c521
    have q522 : fld (S492 0) 12 = v503.toInt := fld_of c521 rfl
    have b523 : Bd v503 (1) (3) := ⟨by omega, (b504).2⟩
    have q524 : fld (S492 0) 6 = v494.toInt := fld_of c521 rfl
    have q525 : fld (S492 0) 7 = v496.toInt := fld_of c521 rfl
    have q526 : fld (S492 0) 8 = v498.toInt := fld_of c521 rfl
    refine lv_aload_n hx hb dX12_ruleLine_75 rfl (lv_at hl 2 rfl) ?_
    refine xcVi E hs hQ hml hl.1 0 (gX12_phaseHere_0 l g ad hD S492 hI (by omega)) mX12_phaseHere q1726 (by decide) c521 rfl rfl ⟨(Nat.le_of_ble_eq_true rfl), (Nat.le_of_ble_eq_true rfl)⟩ ⟨(Nat.le_of_ble_eq_true rfl), (Nat.le_of_ble_eq_true rfl)⟩ (Nat.le_of_ble_eq_true rfl) rfl dX12_ruleLine_76 (fun r527 S527 H locs hp527 hQ _ => ?_)
    obtain ⟨hI, o527, b527, g527_0, g527_1, g527_2, g527_3⟩ := hp527
    obtain ⟨v528, v529, v531, v533, v535, v536, w537, v538, v540, v541, v542, v543, v545, v547, v549, v551, v553, v554, v555, c556, b530, b532, b534, b539, b544, b546, b548, b550, b552⟩ := invM_0 hI
    have c556 : S527 0 = .inr (12, [.int v528, .ref (ad 1), .ref (ad 2), .ref (ad 3), .ref (ad 4), .ref (ad 5), .int v529, .int v531, .int v533, .int v535, .int v536, .long w537, .int v538, .int v540, .int v541, .int v542, .ref (ad 6), .ref (ad 7), .ref (ad 8), .ref (ad 9), .ref (ad 10), .ref (ad 11), .ref (ad 12), .ref (ad 13), .ref (ad 14), .ref (ad 15), .int v543, .int v545, .ref (ad 16), .int v547, .int v549, .int v551, .int v553, .int v554, .ref (ad 17), .ref (ad 18), .int v555, .ref (ad 19)]) := c556
    have q557 : fld (S527 0) 6 = v529.toInt := fld_of c556 rfl
    have q558 : fld (S527 0) 7 = v531.toInt := fld_of c556 rfl
    have q559 : fld (S527 0) 8 = v533.toInt := fld_of c556 rfl
    refine lv_istore_n (lv' := [(3, .int r527), (2, .int r231), (1, .int z64), (0, .ref (ad 0))]) hx hb dX12_ruleLine_79 rfl hl (by decide) rfl (fun ls hl => ?_)
    have loop80 : ∀ (n : Nat) (S_80 : SS) (H : Heap) (locs : List Loc) (ls : Array Slot) (x80_2 : Int32) (x80_3 : Int32) (y80_0_0 : Int32) (y80_0_6 : Int32) (y80_0_7 : Int32) (y80_0_8 : Int32) (y80_0_9 : Int32) (y80_0_10 : Int32) (wy80_0_11 : Int64) (y80_0_12 : Int32) (y80_0_13 : Int32) (y80_0_14 : Int32) (y80_0_15 : Int32) (y80_0_26 : Int32) (y80_0_27 : Int32) (y80_0_29 : Int32) (y80_0_30 : Int32) (y80_0_31 : Int32) (y80_0_32 : Int32) (y80_0_33 : Int32) (y80_0_36 : Int32), Bd x80_3 (0) (4) → Bd y80_0_6 (0) (1200) → Bd y80_0_7 (0) (1200) → Bd y80_0_8 (0) (4) → Bd y80_0_12 (0) (3) → Bd y80_0_26 (0) (11) → Bd y80_0_27 (-1) (400) → Bd y80_0_29 (0) (2) → Bd y80_0_30 (0) (11) → Bd y80_0_31 (-1) (468) → 0 ≤ y80_0_6.toInt + (-1) * y80_0_7.toInt → 0 ≤ v2.toInt + (-1) * y80_0_6.toInt → 0 ≤ y80_0_6.toInt + (-1) * v2.toInt → 0 ≤ 4 * v2.toInt + (-4) * v4.toInt + v6.toInt + (-4) * y80_0_6.toInt + 4 * y80_0_7.toInt + (-1) * y80_0_8.toInt → 32 * y80_0_6.toInt + (-32) * y80_0_7.toInt + 8 * y80_0_8.toInt + x80_3.toInt < ((n : Nat) : Int) → InvM g ad S_80 → (∀ j, j ∉ ([0] : List Nat) → S_80 j = S527 j) → S_80 0 = .inr (12, [.int y80_0_0, .ref (ad 1), .ref (ad 2), .ref (ad 3), .ref (ad 4), .ref (ad 5), .int y80_0_6, .int y80_0_7, .int y80_0_8, .int y80_0_9, .int y80_0_10, .long wy80_0_11, .int y80_0_12, .int y80_0_13, .int y80_0_14, .int y80_0_15, .ref (ad 6), .ref (ad 7), .ref (ad 8), .ref (ad 9), .ref (ad 10), .ref (ad 11), .ref (ad 12), .ref (ad 13), .ref (ad 14), .ref (ad 15), .int y80_0_26, .int y80_0_27, .ref (ad 16), .int y80_0_29, .int y80_0_30, .int y80_0_31, .int y80_0_32, .int y80_0_33, .ref (ad 17), .ref (ad 18), .int y80_0_36, .ref (ad 19)]) → Hp g ad 20 S_80 (FA ad 20) s.heap H locs → lv_has ls 4 [(3, .int x80_3), (2, .int x80_2), (1, .int z64), (0, .ref (ad 0))] → W p l e (Rm 4) s m [.ref (ad 0)].toArray below meth c H locs 0 0 (MQ below (va_Qv (fun S' => InvM g ad S' ∧ (∀ j, j ∉ ([0, 7, 10] : List Nat) → S' j = S j) ∧ (0 ≤ fld (S' 0) 6 + (-1) * fld (S' 0) 7) ∧ (0 ≤ fld (S 0) 6 + (-1) * fld (S' 0) 6 ∧ 0 ≤ fld (S' 0) 6 + (-1) * fld (S 0) 6) ∧ (0 ≤ 4 * fld (S 0) 6 + (-4) * fld (S 0) 7 + fld (S 0) 8 + (-4) * fld (S' 0) 6 + 4 * fld (S' 0) 7 + (-1) * fld (S' 0) 8) ∧ (0 ≤ elm (S 7) 40 + (-1) * elm (S' 7) 40 ∧ 0 ≤ elm (S' 7) 40 + (-1) * elm (S 7) 40) ∧ (0 ≤ elm (S 7) 41 + (-1) * elm (S' 7) 41 ∧ 0 ≤ elm (S' 7) 41 + (-1) * elm (S 7) 41) ∧ (0 ≤ elm (S 7) 43 + (-1) * elm (S' 7) 43 ∧ 0 ≤ elm (S' 7) 43 + (-1) * elm (S 7) 43) ∧ (0 ≤ elm (S 7) 46 + (-1) * elm (S' 7) 46 ∧ 0 ≤ elm (S' 7) 46 + (-1) * elm (S 7) 46) ∧ (0 ≤ elm (S 7) 48 + (-1) * elm (S' 7) 48 ∧ 0 ≤ elm (S' 7) 48 + (-1) * elm (S 7) 48) ∧ (0 ≤ elm (S 7) 49 + (-1) * elm (S' 7) 49 ∧ 0 ≤ elm (S' 7) 49 + (-1) * elm (S 7) 49) ∧ EFp (S' 7) (S 7) 0 40) (QB g ad 20) (FA ad 20)) [.ref (ad 0)].toArray s 0 0 (FA ad 20)) (F0 m 80 ls []) := by
      intro n
      induction n with
      | zero => intro S_80 H locs ls x80_2 x80_3 y80_0_0 y80_0_6 y80_0_7 y80_0_8 y80_0_9 y80_0_10 wy80_0_11 y80_0_12 y80_0_13 y80_0_14 y80_0_15 y80_0_26 y80_0_27 y80_0_29 y80_0_30 y80_0_31 y80_0_32 y80_0_33 y80_0_36 Bx80_3 By80_0_6 By80_0_7 By80_0_8 By80_0_12 By80_0_26 By80_0_27 By80_0_29 By80_0_30 By80_0_31 C80_0 C80_1 C80_2 C80_3 hn80_ hI hf80 cl80_0 hQ hl; exfalso; omega
      | succ n80_ ih80 =>
        intro S_80 H locs ls x80_2 x80_3 y80_0_0 y80_0_6 y80_0_7 y80_0_8 y80_0_9 y80_0_10 wy80_0_11 y80_0_12 y80_0_13 y80_0_14 y80_0_15 y80_0_26 y80_0_27 y80_0_29 y80_0_30 y80_0_31 y80_0_32 y80_0_33 y80_0_36 Bx80_3 By80_0_6 By80_0_7 By80_0_8 By80_0_12 By80_0_26 By80_0_27 By80_0_29 By80_0_30 By80_0_31 C80_0 C80_1 C80_2 C80_3 hn80_ hI hf80 cl80_0 hQ hl
        refine lv_iload_n hx hb dX12_ruleLine_80 rfl (lv_at hl 0 rfl) ?_
        refine lv_if_eq (tgt := 96) hx hb dX12_ruleLine_81 (by decide) (fun k560 => ?_) (fun k560 => ?_)
        · have h561 := ib_eq k560
          have b562 : Bd x80_3 (0) (0) := ⟨(Bx80_3).1, ((rf_eq Bx80_3 (by decide : Bd 0 (0) (0)) h561).1).2⟩
          refine lv_aload_n hx hb dX12_ruleLine_96 rfl (lv_at hl 3 rfl) ?_
          refine xget E hQ 0 (by decide) cl80_0 rfl 20 (by decide) q1488 rfl dX12_ruleLine_97 ?_
          refine lv_iload_n hx hb dX12_ruleLine_100 rfl (lv_at hl 2 rfl) ?_
          refine lv_iconst (v := 2) hx hb dX12_ruleLine_101 (by decide) ?_
          refine lv_iadd hx hb dX12_ruleLine_102 ?_
          refine lv_topi (fun z563 e564 => ?_)
          have t565 := ib_add e564 b67 (by decide : Bd 2 (2) (2)) (by decide) (by decide)
          have b566 : Bd z563 (98) (118) := ib_addb t565 b67 (by decide : Bd 2 (2) (2))
          have t565 : z563.toInt = z64.toInt + 2 := fold_add t565 rfl (by decide)
          refine lv_iload_n hx hb dX12_ruleLine_103 rfl (lv_at hl 1 rfl) ?_
          have c567 : S_80 10 = .inl (g.2 0, 120, .inl (upd (upd f102 (z64 : Int32).toNatClampNeg r68) (z144 : Int32).toNatClampNeg r158)) := ((hf80 10 (by decide)).trans ((o527 10 (by decide)).trans ((o492 10 (by decide)).trans ((o231 10 (by decide)).trans ((o197 10 (by decide)).trans c193)))))
          refine xiast E hs hQ 10 (by decide) c567 (ib_in b566 (by decide) (by decide)) dX12_ruleLine_104 (fun H locs S568 eS568 hQ => ?_)
          have hI := invM_up_10 hI eS568 ⟨_, rfl⟩
          have c569 : S568 10 = .inl (g.2 0, 120, .inl (upd (upd (upd f102 (z64 : Int32).toNatClampNeg r68) (z144 : Int32).toNatClampNeg r158) (z563 : Int32).toNatClampNeg x80_2)) := up_at eS568 rfl
          refine lv_aload_n hx hb dX12_ruleLine_105 rfl (lv_at hl 3 rfl) ?_
          refine lv_ldc2 (v := 555) hx hb E.2.2.1 (E.2.2.2.1 _ q1724) dX12_ruleLine_106 ?_
          have c570 : S568 0 = .inr (12, [.int y80_0_0, .ref (ad 1), .ref (ad 2), .ref (ad 3), .ref (ad 4), .ref (ad 5), .int y80_0_6, .int y80_0_7, .int y80_0_8, .int y80_0_9, .int y80_0_10, .long wy80_0_11, .int y80_0_12, .int y80_0_13, .int y80_0_14, .int y80_0_15, .ref (ad 6), .ref (ad 7), .ref (ad 8), .ref (ad 9), .ref (ad 10), .ref (ad 11), .ref (ad 12), .ref (ad 13), .ref (ad 14), .ref (ad 15), .int y80_0_26, .int y80_0_27, .ref (ad 16), .int y80_0_29, .int y80_0_30, .int y80_0_31, .int y80_0_32, .int y80_0_33, .ref (ad 17), .ref (ad 18), .int y80_0_36, .ref (ad 19)]) := (up_ne eS568 (by decide) cl80_0)
          have q571 : fld (S568 0) 6 = y80_0_6.toInt := fld_of c570 rfl
          have q572 : fld (S568 0) 7 = y80_0_7.toInt := fld_of c570 rfl
          refine xcVv E hs hQ hml hl.1 0 (gX12_asks_0 l g ad hD S568 hI 555 (by omega)) mX12_asks q1655 (by decide) c570 rfl rfl ⟨(Nat.le_of_ble_eq_true rfl), (Nat.le_of_ble_eq_true rfl)⟩ ⟨(Nat.le_of_ble_eq_true rfl), (Nat.le_of_ble_eq_true rfl)⟩ (Nat.le_of_ble_eq_true rfl) rfl dX12_ruleLine_109 (fun S573 H locs hp573 hQ _ => ?_)
          obtain ⟨hI, o573, g573_0, g573_1, g573_2⟩ := hp573
          obtain ⟨v574, v575, v577, v579, v581, v582, w583, v584, v586, v587, v588, v589, v591, v593, v595, v597, v599, v600, v601, c602, b576, b578, b580, b585, b590, b592, b594, b596, b598⟩ := invM_0 hI
          have c602 : S573 0 = .inr (12, [.int v574, .ref (ad 1), .ref (ad 2), .ref (ad 3), .ref (ad 4), .ref (ad 5), .int v575, .int v577, .int v579, .int v581, .int v582, .long w583, .int v584, .int v586, .int v587, .int v588, .ref (ad 6), .ref (ad 7), .ref (ad 8), .ref (ad 9), .ref (ad 10), .ref (ad 11), .ref (ad 12), .ref (ad 13), .ref (ad 14), .ref (ad 15), .int v589, .int v591, .ref (ad 16), .int v593, .int v595, .int v597, .int v599, .int v600, .ref (ad 17), .ref (ad 18), .int v601, .ref (ad 19)]) := c602
          have q603 : fld (S573 0) 6 = v575.toInt := fld_of c602 rfl
          have q604 : fld (S573 0) 7 = v577.toInt := fld_of c602 rfl
          have q605 : fld (S568 0) 8 = y80_0_8.toInt := fld_of c570 rfl
          have q606 : fld (S573 0) 8 = v579.toInt := fld_of c602 rfl
          refine lv_aload_n hx hb dX12_ruleLine_112 rfl (lv_at hl 3 rfl) ?_
          refine xget E hQ 0 (by decide) c602 rfl 20 (by decide) q1488 rfl dX12_ruleLine_113 ?_
          refine lv_iload_n hx hb dX12_ruleLine_116 rfl (lv_at hl 2 rfl) ?_
          refine lv_iconst (v := 3) hx hb dX12_ruleLine_117 (by decide) ?_
          refine lv_iadd hx hb dX12_ruleLine_118 ?_
          refine lv_topi (fun z607 e608 => ?_)
          have t609 := ib_add e608 b67 (by decide : Bd 3 (3) (3)) (by decide) (by decide)
          have b610 : Bd z607 (99) (119) := ib_addb t609 b67 (by decide : Bd 3 (3) (3))
          have t609 : z607.toInt = z64.toInt + 3 := fold_add t609 rfl (by decide)
          refine lv_aload_n hx hb dX12_ruleLine_119 rfl (lv_at hl 3 rfl) ?_
          refine lv_iconst (v := 0) hx hb dX12_ruleLine_120 (by decide) ?_
          refine lv_iconst (v := 5) hx hb dX12_ruleLine_121 (by decide) ?_
          refine xcVi E hs hQ hml hl.1 0 (gX12_number_7 l g ad hD S573 hI 0 5 (by decide : Bd 0 (0) (0)) (by decide : Bd 5 (5) (5)) (by omega)) mX12_number q1676 (by decide) c602 rfl rfl ⟨(Nat.le_of_ble_eq_true rfl), (Nat.le_of_ble_eq_true rfl)⟩ ⟨(Nat.le_of_ble_eq_true rfl), (Nat.le_of_ble_eq_true rfl)⟩ (Nat.le_of_ble_eq_true rfl) rfl dX12_ruleLine_122 (fun r611 S611 H locs hp611 hQ _ => ?_)
          obtain ⟨hI, o611, b611, g611_0, g611_1, g611_2⟩ := hp611
          obtain ⟨v612, v613, v615, v617, v619, v620, w621, v622, v624, v625, v626, v627, v629, v631, v633, v635, v637, v638, v639, c640, b614, b616, b618, b623, b628, b630, b632, b634, b636⟩ := invM_0 hI
          have c640 : S611 0 = .inr (12, [.int v612, .ref (ad 1), .ref (ad 2), .ref (ad 3), .ref (ad 4), .ref (ad 5), .int v613, .int v615, .int v617, .int v619, .int v620, .long w621, .int v622, .int v624, .int v625, .int v626, .ref (ad 6), .ref (ad 7), .ref (ad 8), .ref (ad 9), .ref (ad 10), .ref (ad 11), .ref (ad 12), .ref (ad 13), .ref (ad 14), .ref (ad 15), .int v627, .int v629, .ref (ad 16), .int v631, .int v633, .int v635, .int v637, .int v638, .ref (ad 17), .ref (ad 18), .int v639, .ref (ad 19)]) := c640
          have q641 : fld (S611 0) 6 = v613.toInt := fld_of c640 rfl
          have q642 : fld (S611 0) 7 = v615.toInt := fld_of c640 rfl
          have q643 : fld (S611 0) 8 = v617.toInt := fld_of c640 rfl
          have c644 : S611 10 = .inl (g.2 0, 120, .inl (upd (upd (upd f102 (z64 : Int32).toNatClampNeg r68) (z144 : Int32).toNatClampNeg r158) (z563 : Int32).toNatClampNeg x80_2)) := ((o611 10 (by decide)).trans ((o573 10 (by decide)).trans c569))
          refine xiast E hs hQ 10 (by decide) c644 (ib_in b610 (by decide) (by decide)) dX12_ruleLine_125 (fun H locs S645 eS645 hQ => ?_)
          have hI := invM_up_10 hI eS645 ⟨_, rfl⟩
          have c646 : S645 10 = .inl (g.2 0, 120, .inl (upd (upd (upd (upd f102 (z64 : Int32).toNatClampNeg r68) (z144 : Int32).toNatClampNeg r158) (z563 : Int32).toNatClampNeg x80_2) (z607 : Int32).toNatClampNeg r611)) := up_at eS645 rfl
          obtain ⟨f647, ef648⟩ : ∃ f : Nat → Int32, f = upd (upd (upd (upd f102 (z64 : Int32).toNatClampNeg r68) (z144 : Int32).toNatClampNeg r158) (z563 : Int32).toNatClampNeg x80_2) (z607 : Int32).toNatClampNeg r611 := ⟨_, rfl⟩
          have c649 : S645 10 = .inl (g.2 0, 120, .inl f647) := by rw [ef648]; exact c646
          refine lv_aload_n hx hb dX12_ruleLine_126 rfl (lv_at hl 3 rfl) ?_
          refine lv_bipush (v := 7) hx hb dX12_ruleLine_127 (by decide) ?_
          refine lv_aload_n hx hb dX12_ruleLine_129 rfl (lv_at hl 3 rfl) ?_
          refine lv_bipush (v := 7) hx hb dX12_ruleLine_130 (by decide) ?_
          have c650 : S645 7 = .inl (g.2 0, 50, .inl f30) := (up_ne eS645 (by decide) ((o611 7 (by decide)).trans ((o573 7 (by decide)).trans (up_ne eS568 (by decide) ((hf80 7 (by decide)).trans ((o527 7 (by decide)).trans ((o492 7 (by decide)).trans ((o231 7 (by decide)).trans ((o197 7 (by decide)).trans (up_ne eS192 (by decide) ((o158 7 (by decide)).trans c151)))))))))))
          have c652 : S645 0 = .inr (12, [.int v612, .ref (ad 1), .ref (ad 2), .ref (ad 3), .ref (ad 4), .ref (ad 5), .int v613, .int v615, .int v617, .int v619, .int v620, .long w621, .int v622, .int v624, .int v625, .int v626, .ref (ad 6), .ref (ad 7), .ref (ad 8), .ref (ad 9), .ref (ad 10), .ref (ad 11), .ref (ad 12), .ref (ad 13), .ref (ad 14), .ref (ad 15), .int v627, .int v629, .ref (ad 16), .int v631, .int v633, .int v635, .int v637, .int v638, .ref (ad 17), .ref (ad 18), .int v639, .ref (ad 19)]) := (up_ne eS645 (by decide) c640)
          refine xcVi E hs hQ hml hl.1 0 (gX12_hasRead_7 l g ad hD S645 hI ) mX12_hasRead q1697 (by decide) c652 rfl rfl ⟨(Nat.le_of_ble_eq_true rfl), (Nat.le_of_ble_eq_true rfl)⟩ ⟨(Nat.le_of_ble_eq_true rfl), (Nat.le_of_ble_eq_true rfl)⟩ (Nat.le_of_ble_eq_true rfl) rfl dX12_ruleLine_132 (fun r651 S651 H locs hp651 hQ _ => ?_)
          obtain ⟨rfl, b651, g651_0⟩ := hp651
          have q653 : elm (S645 7) 47 = v33.toInt := (elm_of c650 47).trans (congrArg Int32.toInt (ee34))
          have b654 : Bd r651 (0) (5) := ⟨(b651).1, by omega⟩
          refine lv_iconst (v := 1) hx hb dX12_ruleLine_135 (by decide) ?_
          refine lv_iadd hx hb dX12_ruleLine_136 ?_
          refine lv_topi (fun z655 e656 => ?_)
          have t657 := ib_add e656 b654 (by decide : Bd 1 (1) (1)) (by decide) (by decide)
          have b658 : Bd z655 (1) (6) := ib_addb t657 b654 (by decide : Bd 1 (1) (1))
          have t657 : z655.toInt = r651.toInt + 1 := fold_add t657 rfl (by decide)
          refine xcVv E hs hQ hml hl.1 0 (gX12_tells_7 l g ad hD S645 hI z655 (ib_wk b658 (by decide) (by decide))) mX12_tells q1629 (by decide) c652 rfl rfl ⟨(Nat.le_of_ble_eq_true rfl), (Nat.le_of_ble_eq_true rfl)⟩ ⟨(Nat.le_of_ble_eq_true rfl), (Nat.le_of_ble_eq_true rfl)⟩ (Nat.le_of_ble_eq_true rfl) rfl dX12_ruleLine_137 (fun S659 H locs hp659 hQ _ => ?_)
          obtain ⟨hI, o659, g659_0, g659_1, g659_2, g659_3, g659_4, g659_5, g659_6, ef659_7⟩ := hp659
          have ef660 : EFp (S659 7) (S 7) 0 40 := ef_tt ef659_7 (ef_tr ef7_0 ((up_eq (j := 7) eS645 (by decide)).trans ((o611 7 (by decide)).trans ((o573 7 (by decide)).trans ((up_eq (j := 7) eS568 (by decide)).trans ((hf80 7 (by decide)).trans ((o527 7 (by decide)).trans ((o492 7 (by decide)).trans ((o231 7 (by decide)).trans ((o197 7 (by decide)).trans ((up_eq (j := 7) eS192 (by decide)).trans ((o158 7 (by decide)).trans ((o110 7 (by decide)).trans ((up_eq (j := 7) eS105 (by decide)).trans (o68 7 (by decide))))))))))))))))
          obtain ⟨f661, c662, b663⟩ := invM_7 hI
          obtain ⟨v664, ee665⟩ : ∃ z : Int32, f661 47 = z := ⟨_, rfl⟩
          have b666 : Bd v664 (0) (6) := (by rw [← ee665]; exact b663.2.2.2.2.2.1 47 (by decide))
          have q667 : elm (S659 7) 47 = v664.toInt := (elm_of c662 47).trans (congrArg Int32.toInt (ee665))
          have b668 : Bd v664 (1) (6) := ⟨by omega, (b666).2⟩
          have q669 : elm (S645 7) 40 = v36.toInt := (elm_of c650 40).trans (congrArg Int32.toInt (ee37))
          obtain ⟨v670, ee671⟩ : ∃ z : Int32, f661 40 = z := ⟨_, rfl⟩
          have b672 : Bd v670 (0) (12) := (by rw [← ee671]; exact b663.1 40 (by decide))
          have q673 : elm (S659 7) 40 = v670.toInt := (elm_of c662 40).trans (congrArg Int32.toInt (ee671))
          have q674 : elm (S645 7) 41 = v39.toInt := (elm_of c650 41).trans (congrArg Int32.toInt (ee40))
          obtain ⟨v675, ee676⟩ : ∃ z : Int32, f661 41 = z := ⟨_, rfl⟩
          have b677 : Bd v675 (0) (12) := (by rw [← ee676]; exact b663.2.1 41 (by decide))
          have q678 : elm (S659 7) 41 = v675.toInt := (elm_of c662 41).trans (congrArg Int32.toInt (ee676))
          have q679 : elm (S645 7) 43 = v42.toInt := (elm_of c650 43).trans (congrArg Int32.toInt (ee43))
          obtain ⟨v680, ee681⟩ : ∃ z : Int32, f661 43 = z := ⟨_, rfl⟩
          have b682 : Bd v680 (0) (12) := (by rw [← ee681]; exact b663.2.2.2.1 43 (by decide))
          have q683 : elm (S659 7) 43 = v680.toInt := (elm_of c662 43).trans (congrArg Int32.toInt (ee681))
          have q684 : elm (S645 7) 46 = v45.toInt := (elm_of c650 46).trans (congrArg Int32.toInt (ee46))
          obtain ⟨v685, ee686⟩ : ∃ z : Int32, f661 46 = z := ⟨_, rfl⟩
          have b687 : Bd v685 (0) (8) := (by rw [← ee686]; exact b663.2.2.2.2.1 46 (by decide))
          have q688 : elm (S659 7) 46 = v685.toInt := (elm_of c662 46).trans (congrArg Int32.toInt (ee686))
          have q689 : elm (S645 7) 48 = v48.toInt := (elm_of c650 48).trans (congrArg Int32.toInt (ee49))
          obtain ⟨v690, ee691⟩ : ∃ z : Int32, f661 48 = z := ⟨_, rfl⟩
          have b692 : Bd v690 (0) (3) := (by rw [← ee691]; exact b663.2.2.2.2.2.2.1 48 (by decide))
          have q693 : elm (S659 7) 48 = v690.toInt := (elm_of c662 48).trans (congrArg Int32.toInt (ee691))
          have q694 : elm (S645 7) 49 = v51.toInt := (elm_of c650 49).trans (congrArg Int32.toInt (ee52))
          obtain ⟨v695, ee696⟩ : ∃ z : Int32, f661 49 = z := ⟨_, rfl⟩
          have b697 : Bd v695 (0) (40) := (by rw [← ee696]; exact b663.2.2.2.2.2.2.2 49 (by decide))
          have q698 : elm (S659 7) 49 = v695.toInt := (elm_of c662 49).trans (congrArg Int32.toInt (ee696))
          have c699 : S659 0 = .inr (12, [.int v612, .ref (ad 1), .ref (ad 2), .ref (ad 3), .ref (ad 4), .ref (ad 5), .int v613, .int v615, .int v617, .int v619, .int v620, .long w621, .int v622, .int v624, .int v625, .int v626, .ref (ad 6), .ref (ad 7), .ref (ad 8), .ref (ad 9), .ref (ad 10), .ref (ad 11), .ref (ad 12), .ref (ad 13), .ref (ad 14), .ref (ad 15), .int v627, .int v629, .ref (ad 16), .int v631, .int v633, .int v635, .int v637, .int v638, .ref (ad 17), .ref (ad 18), .int v639, .ref (ad 19)]) := ((o659 0 (by decide)).trans c652)
          have q700 : fld (S659 0) 6 = v613.toInt := fld_of c699 rfl
          have q701 : fld (S659 0) 7 = v615.toInt := fld_of c699 rfl
          have q702 : fld (S659 0) 8 = v617.toInt := fld_of c699 rfl
          have q703 : elm (S 7) 40 = v36.toInt := (elm_of c31 40).trans (congrArg Int32.toInt (ee37))
          have q704 : elm (S 7) 41 = v39.toInt := (elm_of c31 41).trans (congrArg Int32.toInt (ee40))
          have q705 : elm (S 7) 43 = v42.toInt := (elm_of c31 43).trans (congrArg Int32.toInt (ee43))
          have q706 : elm (S 7) 46 = v45.toInt := (elm_of c31 46).trans (congrArg Int32.toInt (ee46))
          have q707 : elm (S 7) 48 = v48.toInt := (elm_of c31 48).trans (congrArg Int32.toInt (ee49))
          have q708 : elm (S 7) 49 = v51.toInt := (elm_of c31 49).trans (congrArg Int32.toInt (ee52))
          exact xrv E hr hlk hQ (⟨hI, (o_trans (up_o (o_trans (o_trans (up_o (o_trans (o_trans (o_trans (o_trans (o_trans (up_o (o_trans (o_trans (up_o (o_trans o_refl o68 (by decide)) eS105 (by decide)) o110 (by decide)) o158 (by decide)) eS192 (by decide)) o197 (by decide)) o231 (by decide)) o492 (by decide)) o527 (by decide)) hf80 (by decide)) eS568 (by decide)) o573 (by decide)) o611 (by decide)) eS645 (by decide)) o659 (by decide)), (by omega), ⟨by omega, by omega⟩, (by omega), ⟨by omega, by omega⟩, ⟨by omega, by omega⟩, ⟨by omega, by omega⟩, ⟨by omega, by omega⟩, ⟨by omega, by omega⟩, ⟨by omega, by omega⟩, ef660⟩) dX12_ruleLine_140
        · have h709 := ib_ne k560
          have b710 : Bd x80_3 (1) (4) := rf_nlo Bx80_3 (by decide : Bd 0 (0) (0)) h709
          refine lv_iload_n hx hb dX12_ruleLine_84 rfl (lv_at hl 1 rfl) ?_
          refine lv_iload_n hx hb dX12_ruleLine_85 rfl (lv_at hl 0 rfl) ?_
          refine lv_ior hx hb dX12_ruleLine_86 ?_
          refine lv_topi (fun z711 e712 => ?_)
          refine lv_istore_n (lv' := [(2, .int z711), (3, .int x80_3), (1, .int z64), (0, .ref (ad 0))]) hx hb dX12_ruleLine_87 rfl hl (by decide) rfl (fun ls hl => ?_)
          refine lv_aload_n hx hb dX12_ruleLine_88 rfl (lv_at hl 3 rfl) ?_
          have q713 : fld (S_80 0) 6 = y80_0_6.toInt := fld_of cl80_0 rfl
          have q714 : fld (S_80 0) 7 = y80_0_7.toInt := fld_of cl80_0 rfl
          refine xcVi E hs hQ hml hl.1 0 (gX12_phaseHere_0 l g ad hD S_80 hI (by omega)) mX12_phaseHere q1726 (by decide) cl80_0 rfl rfl ⟨(Nat.le_of_ble_eq_true rfl), (Nat.le_of_ble_eq_true rfl)⟩ ⟨(Nat.le_of_ble_eq_true rfl), (Nat.le_of_ble_eq_true rfl)⟩ (Nat.le_of_ble_eq_true rfl) rfl dX12_ruleLine_89 (fun r715 S715 H locs hp715 hQ _ => ?_)
          obtain ⟨hI, o715, b715, g715_0, g715_1, g715_2, g715_3⟩ := hp715
          obtain ⟨v716, v717, v719, v721, v723, v724, w725, v726, v728, v729, v730, v731, v733, v735, v737, v739, v741, v742, v743, c744, b718, b720, b722, b727, b732, b734, b736, b738, b740⟩ := invM_0 hI
          have c744 : S715 0 = .inr (12, [.int v716, .ref (ad 1), .ref (ad 2), .ref (ad 3), .ref (ad 4), .ref (ad 5), .int v717, .int v719, .int v721, .int v723, .int v724, .long w725, .int v726, .int v728, .int v729, .int v730, .ref (ad 6), .ref (ad 7), .ref (ad 8), .ref (ad 9), .ref (ad 10), .ref (ad 11), .ref (ad 12), .ref (ad 13), .ref (ad 14), .ref (ad 15), .int v731, .int v733, .ref (ad 16), .int v735, .int v737, .int v739, .int v741, .int v742, .ref (ad 17), .ref (ad 18), .int v743, .ref (ad 19)]) := c744
          have q745 : fld (S715 0) 6 = v717.toInt := fld_of c744 rfl
          have q746 : fld (S715 0) 7 = v719.toInt := fld_of c744 rfl
          have q747 : fld (S_80 0) 8 = y80_0_8.toInt := fld_of cl80_0 rfl
          have q748 : fld (S715 0) 8 = v721.toInt := fld_of c744 rfl
          refine lv_istore_n (lv' := [(3, .int r715), (2, .int z711), (1, .int z64), (0, .ref (ad 0))]) hx hb dX12_ruleLine_92 rfl hl (by decide) rfl (fun ls hl => ?_)
          refine lv_goto (tgt := 80) hx hb dX12_ruleLine_93 (by decide) ?_
          exact ih80 _ _ _ _ z711 r715 v716 v717 v719 v721 v723 v724 w725 v726 v728 v729 v730 v731 v733 v735 v737 v739 v741 v742 v743 b715 b718 b720 b722 b727 b732 b734 b736 b738 b740 (by omega) (by omega) (by omega) (by omega) (by omega) hI (o_trans hf80 o715 (by decide)) c744 hQ (lv_sub hl [0, 1, 2, 3] rfl)
    obtain ⟨n80, hn80⟩ := fu_n (32 * v529.toInt + (-32) * v531.toInt + 8 * v533.toInt + r527.toInt)
    exact loop80 n80 _ _ _ _ r231 r527 v528 v529 v531 v533 v535 v536 w537 v538 v540 v541 v542 v543 v545 v547 v549 v551 v553 v554 v555 b527 b530 b532 b534 b539 b544 b546 b548 b550 b552 (by omega) (by omega) (by omega) (by omega) (by omega) hI o_refl c556 hQ (lv_sub hl [0, 1, 2, 3] rfl)
set_option maxHeartbeats 4000000 in
set_option maxRecDepth 100000 in
theorem gX12_isRoom_6 (l : Launch) (g : GG) (ad : Nat → Nat) (hD : Dj ad 20) (S : SS) (hI : InvM g ad S) (a1 : Int32) (ba1 : Bd a1 (0) (1)) (hq1 : 0 ≤ fld (S 0) 6 + (-1) * fld (S 0) 7) : Met l yX12_isRoom (wG (.code yX12_isRoom cX12_isRoom 4 (some .boolean))) (Rm 2) (XPre g ad 20 S [.ref (ad 0), .int a1, .int 6, .int 8]) (va_Qi (fun r S' => InvM g ad S' ∧ (∀ j, j ∉ ([0] : List Nat) → S' j = S j) ∧ Bd r (0) (1) ∧ (0 ≤ fld (S' 0) 6 + (-1) * fld (S' 0) 7) ∧ (0 ≤ fld (S 0) 6 + (-1) * fld (S' 0) 6 ∧ 0 ≤ fld (S' 0) 6 + (-1) * fld (S 0) 6) ∧ (0 ≤ 4 * fld (S 0) 6 + (-4) * fld (S 0) 7 + fld (S 0) 8 + (-4) * fld (S' 0) 6 + 4 * fld (S' 0) 7 + (-1) * fld (S' 0) 8) ∧ ((r.toInt + (-1) < 0 ∨ (0 ≤ (-1) * elm (S' 7) 46 + 7)))) (QB g ad 20) (FA ad 20)) 0 0 (FA ad 20) := by
  refine xmet cX12_isRoom "EbbWreckModel" (by decide) rfl (Nat.le_of_ble_eq_true rfl) (fun p e s m below meth c E hr hlk hml hQ ls hl => ?_)
  have hx := E.1
  have hb := E.2.1
  have hs : Sp ad 20 (FA ad 20) := Sp.fa hD
  have hl : lv_has ls 4 [(0, .ref (ad 0)), (1, .int a1), (2, .int 6), (3, .int 8)] := hl
  obtain ⟨v1, v2, v4, v6, v8, v9, w10, v11, v13, v14, v15, v16, v18, v20, v22, v24, v26, v27, v28, c29, b3, b5, b7, b12, b17, b19, b21, b23, b25⟩ := invM_0 hI
  have c29 : S 0 = .inr (12, [.int v1, .ref (ad 1), .ref (ad 2), .ref (ad 3), .ref (ad 4), .ref (ad 5), .int v2, .int v4, .int v6, .int v8, .int v9, .long w10, .int v11, .int v13, .int v14, .int v15, .ref (ad 6), .ref (ad 7), .ref (ad 8), .ref (ad 9), .ref (ad 10), .ref (ad 11), .ref (ad 12), .ref (ad 13), .ref (ad 14), .ref (ad 15), .int v16, .int v18, .ref (ad 16), .int v20, .int v22, .int v24, .int v26, .int v27, .ref (ad 17), .ref (ad 18), .int v28, .ref (ad 19)]) := c29
  obtain ⟨f30, c31, b32⟩ := invM_7 hI
  obtain ⟨v33, ee34⟩ : ∃ z : Int32, f30 46 = z := ⟨_, rfl⟩
  have b35 : Bd v33 (0) (8) := (by rw [← ee34]; exact b32.2.2.2.2.1 46 (by decide))
  have q36 : fld (S 0) 6 = v2.toInt := fld_of c29 rfl
  have q37 : fld (S 0) 7 = v4.toInt := fld_of c29 rfl
  refine lv_iload_n hx hb dX12_isRoom_0 rfl (lv_at hl 1 rfl) ?_
  refine lv_if_eq (tgt := 18) hx hb dX12_isRoom_1 (by decide) (fun k38 => ?_) (fun k38 => ?_)
  · have h39 := ib_eq k38
    have b40 : Bd a1 (0) (0) := ⟨(ba1).1, ((rf_eq ba1 (by decide : Bd 0 (0) (0)) h39).1).2⟩
    refine lv_iload_n hx hb dX12_isRoom_18 rfl (lv_at hl 1 rfl) ?_
    refine lv_if_eq (tgt := 33) hx hb dX12_isRoom_19 (by decide) (fun k41 => ?_) (fun k41 => ?_)
    · have h42 := ib_eq k41
      refine lv_iload_n hx hb dX12_isRoom_33 rfl (lv_at hl 1 rfl) ?_
      refine lv_if_eq (tgt := 48) hx hb dX12_isRoom_34 (by decide) (fun k43 => ?_) (fun k43 => ?_)
      · have h44 := ib_eq k43
        refine lv_iconst (v := 0) hx hb dX12_isRoom_48 (by decide) ?_
        have q45 : fld (S 0) 8 = v6.toInt := fld_of c29 rfl
        have q46 : elm (S 7) 46 = v33.toInt := (elm_of c31 46).trans (congrArg Int32.toInt (ee34))
        have q47 : (0 : Int32).toInt = 0 := by decide
        exact xrz E hr hlk hQ rfl (⟨hI, o_refl, (ib_wk (by decide : Bd 0 (0) (0)) (by decide) (by decide)), (by omega), ⟨by omega, by omega⟩, (by omega), Or.inl (by omega)⟩) dX12_isRoom_49
      · have h48 := ib_ne k43
        exact absurd (Int.le_antisymm (Int.le_trans (b40).2 ((by decide : Bd 0 (0) (0))).1) (Int.le_trans ((by decide : Bd 0 (0) (0))).2 (b40).1)) h48
    · have h49 := ib_ne k41
      exact absurd (Int.le_antisymm (Int.le_trans (b40).2 ((by decide : Bd 0 (0) (0))).1) (Int.le_trans ((by decide : Bd 0 (0) (0))).2 (b40).1)) h49
  · have h50 := ib_ne k38
    have b51 : Bd a1 (1) (1) := rf_nlo ba1 (by decide : Bd 0 (0) (0)) h50
    refine lv_aload_n hx hb dX12_isRoom_4 rfl (lv_at hl 0 rfl) ?_
    refine lv_iload_n hx hb dX12_isRoom_5 rfl (lv_at hl 2 rfl) ?_
    refine xcVi E hs hQ hml hl.1 0 (gX12_hasRead_6 l g ad hD S hI ) mX12_hasRead q1697 (by decide) c29 rfl rfl ⟨(Nat.le_of_ble_eq_true rfl), (Nat.le_of_ble_eq_true rfl)⟩ ⟨(Nat.le_of_ble_eq_true rfl), (Nat.le_of_ble_eq_true rfl)⟩ (Nat.le_of_ble_eq_true rfl) rfl dX12_isRoom_6 (fun r52 S52 H locs hp52 hQ _ => ?_)
    obtain ⟨rfl, b52, g52_0⟩ := hp52
    have q53 : elm (S 7) 46 = v33.toInt := (elm_of c31 46).trans (congrArg Int32.toInt (ee34))
    refine lv_iload_n hx hb dX12_isRoom_9 rfl (lv_at hl 3 rfl) ?_
    refine lv_icmp_ne (tgt := 18) hx hb dX12_isRoom_10 (by decide) (fun k54 => ?_) (fun k54 => ?_)
    · have h55 := ib_ne k54
      have b56 : Bd r52 (0) (7) := rf_nhi b52 (by decide : Bd 8 (8) (8)) h55
      refine lv_iload_n hx hb dX12_isRoom_18 rfl (lv_at hl 1 rfl) ?_
      refine lv_if_eq (tgt := 33) hx hb dX12_isRoom_19 (by decide) (fun k57 => ?_) (fun k57 => ?_)
      · have h58 := ib_eq k57
        have b59 : Bd a1 (1) (0) := ⟨(b51).1, ((rf_eq b51 (by decide : Bd 0 (0) (0)) h58).1).2⟩
        exact absurd (Int.le_trans b59.1 b59.2) (by decide)
      · have h60 := ib_ne k57
        refine lv_aload_n hx hb dX12_isRoom_22 rfl (lv_at hl 0 rfl) ?_
        refine xget E hQ 0 (by decide) c29 rfl 12 (by decide) q1480 rfl dX12_isRoom_23 ?_
        refine lv_if_ne (tgt := 33) hx hb dX12_isRoom_26 (by decide) (fun k61 => ?_) (fun k61 => ?_)
        · have h62 := ib_ne k61
          have b63 : Bd v11 (1) (3) := rf_nlo b12 (by decide : Bd 0 (0) (0)) h62
          refine lv_iload_n hx hb dX12_isRoom_33 rfl (lv_at hl 1 rfl) ?_
          refine lv_if_eq (tgt := 48) hx hb dX12_isRoom_34 (by decide) (fun k64 => ?_) (fun k64 => ?_)
          · have h65 := ib_eq k64
            have b66 : Bd a1 (1) (0) := ⟨(b51).1, ((rf_eq b51 (by decide : Bd 0 (0) (0)) h65).1).2⟩
            exact absurd (Int.le_trans b66.1 b66.2) (by decide)
          · have h67 := ib_ne k64
            refine lv_aload_n hx hb dX12_isRoom_37 rfl (lv_at hl 0 rfl) ?_
            refine xget E hQ 0 (by decide) c29 rfl 12 (by decide) q1480 rfl dX12_isRoom_38 ?_
            refine lv_if_ne (tgt := 48) hx hb dX12_isRoom_41 (by decide) (fun k68 => ?_) (fun k68 => ?_)
            · have h69 := ib_ne k68
              refine lv_iconst (v := 0) hx hb dX12_isRoom_48 (by decide) ?_
              have q70 : fld (S 0) 8 = v6.toInt := fld_of c29 rfl
              have q71 : (0 : Int32).toInt = 0 := by decide
              exact xrz E hr hlk hQ rfl (⟨hI, o_refl, (ib_wk (by decide : Bd 0 (0) (0)) (by decide) (by decide)), (by omega), ⟨by omega, by omega⟩, (by omega), Or.inl (by omega)⟩) dX12_isRoom_49
            · have h72 := ib_eq k68
              have b73 : Bd v11 (1) (0) := ⟨(b63).1, ((rf_eq b63 (by decide : Bd 0 (0) (0)) h72).1).2⟩
              exact absurd (Int.le_trans b73.1 b73.2) (by decide)
        · have h74 := ib_eq k61
          have b75 : Bd v11 (0) (0) := ⟨(b12).1, ((rf_eq b12 (by decide : Bd 0 (0) (0)) h74).1).2⟩
          refine lv_aload_n hx hb dX12_isRoom_29 rfl (lv_at hl 0 rfl) ?_
          refine xcVv E hs hQ hml hl.1 0 (gX12_next_0 l g ad hD S hI (by omega)) mX12_next q1637 (by decide) c29 rfl rfl ⟨(Nat.le_of_ble_eq_true rfl), (Nat.le_of_ble_eq_true rfl)⟩ ⟨(Nat.le_of_ble_eq_true rfl), (Nat.le_of_ble_eq_true rfl)⟩ (Nat.le_of_ble_eq_true rfl) rfl dX12_isRoom_30 (fun S76 H locs hp76 hQ _ => ?_)
          obtain ⟨hI, o76, g76_0, g76_1, g76_2, g76_3, g76_4⟩ := hp76
          obtain ⟨v77, v78, v80, v82, v84, v85, w86, v87, v89, v90, v91, v92, v94, v96, v98, v100, v102, v103, v104, c105, b79, b81, b83, b88, b93, b95, b97, b99, b101⟩ := invM_0 hI
          have c105 : S76 0 = .inr (12, [.int v77, .ref (ad 1), .ref (ad 2), .ref (ad 3), .ref (ad 4), .ref (ad 5), .int v78, .int v80, .int v82, .int v84, .int v85, .long w86, .int v87, .int v89, .int v90, .int v91, .ref (ad 6), .ref (ad 7), .ref (ad 8), .ref (ad 9), .ref (ad 10), .ref (ad 11), .ref (ad 12), .ref (ad 13), .ref (ad 14), .ref (ad 15), .int v92, .int v94, .ref (ad 16), .int v96, .int v98, .int v100, .int v102, .int v103, .ref (ad 17), .ref (ad 18), .int v104, .ref (ad 19)]) := c105
          have q106 : fld (S76 0) 6 = v78.toInt := fld_of c105 rfl
          have q107 : fld (S76 0) 7 = v80.toInt := fld_of c105 rfl
          have q108 : fld (S 0) 12 = v11.toInt := fld_of c29 rfl
          have q109 : fld (S76 0) 12 = v87.toInt := fld_of c105 rfl
          have b110 : Bd v87 (0) (0) := ⟨(b88).1, by omega⟩
          have q111 : fld (S76 0) 8 = v82.toInt := fld_of c105 rfl
          refine lv_iload_n hx hb dX12_isRoom_33 rfl (lv_at hl 1 rfl) ?_
          refine lv_if_eq (tgt := 48) hx hb dX12_isRoom_34 (by decide) (fun k112 => ?_) (fun k112 => ?_)
          · have h113 := ib_eq k112
            have b114 : Bd a1 (1) (0) := ⟨(b51).1, ((rf_eq b51 (by decide : Bd 0 (0) (0)) h113).1).2⟩
            exact absurd (Int.le_trans b114.1 b114.2) (by decide)
          · have h115 := ib_ne k112
            refine lv_aload_n hx hb dX12_isRoom_37 rfl (lv_at hl 0 rfl) ?_
            refine xget E hQ 0 (by decide) c105 rfl 12 (by decide) q1480 rfl dX12_isRoom_38 ?_
            refine lv_if_ne (tgt := 48) hx hb dX12_isRoom_41 (by decide) (fun k116 => ?_) (fun k116 => ?_)
            · have h117 := ib_ne k116
              exact absurd (Int.le_antisymm (Int.le_trans (b110).2 ((by decide : Bd 0 (0) (0))).1) (Int.le_trans ((by decide : Bd 0 (0) (0))).2 (b110).1)) h117
            · have h118 := ib_eq k116
              refine lv_iconst (v := 1) hx hb dX12_isRoom_44 (by decide) ?_
              refine lv_goto (tgt := 49) hx hb dX12_isRoom_45 (by decide) ?_
              have q119 : fld (S 0) 8 = v6.toInt := fld_of c29 rfl
              have c120 : S76 7 = .inl (g.2 0, 50, .inl f30) := ((o76 7 (by decide)).trans c31)
              have q121 : elm (S76 7) 46 = v33.toInt := (elm_of c120 46).trans (congrArg Int32.toInt (ee34))
              have q122 : (1 : Int32).toInt = 1 := by decide
              exact xrz E hr hlk hQ rfl (⟨hI, (o_trans o_refl o76 (by decide)), (ib_wk (by decide : Bd 1 (1) (1)) (by decide) (by decide)), (by omega), ⟨by omega, by omega⟩, (by omega), Or.inr (by omega)⟩) dX12_isRoom_49
    · have h123 := ib_eq k54
      have b124 : Bd r52 (8) (8) := ⟨((rf_eq b52 (by decide : Bd 8 (8) (8)) h123).1).1, (b52).2⟩
      refine lv_aload_n hx hb dX12_isRoom_13 rfl (lv_at hl 0 rfl) ?_
      refine lv_iconst (v := 3) hx hb dX12_isRoom_14 (by decide) ?_
      refine xcVv E hs hQ hml hl.1 0 (gX12_fails_0 l g ad hD S hI 3 (ib_wk (by decide : Bd 3 (3) (3)) (by decide) (by decide))) mX12_fails q1667 (by decide) c29 rfl rfl ⟨(Nat.le_of_ble_eq_true rfl), (Nat.le_of_ble_eq_true rfl)⟩ ⟨(Nat.le_of_ble_eq_true rfl), (Nat.le_of_ble_eq_true rfl)⟩ (Nat.le_of_ble_eq_true rfl) rfl dX12_isRoom_15 (fun S125 H locs hp125 hQ _ => ?_)
      obtain ⟨hI, o125, g125_0, g125_1, g125_2, g125_3⟩ := hp125
      obtain ⟨v126, v127, v129, v131, v133, v134, w135, v136, v138, v139, v140, v141, v143, v145, v147, v149, v151, v152, v153, c154, b128, b130, b132, b137, b142, b144, b146, b148, b150⟩ := invM_0 hI
      have c154 : S125 0 = .inr (12, [.int v126, .ref (ad 1), .ref (ad 2), .ref (ad 3), .ref (ad 4), .ref (ad 5), .int v127, .int v129, .int v131, .int v133, .int v134, .long w135, .int v136, .int v138, .int v139, .int v140, .ref (ad 6), .ref (ad 7), .ref (ad 8), .ref (ad 9), .ref (ad 10), .ref (ad 11), .ref (ad 12), .ref (ad 13), .ref (ad 14), .ref (ad 15), .int v141, .int v143, .ref (ad 16), .int v145, .int v147, .int v149, .int v151, .int v152, .ref (ad 17), .ref (ad 18), .int v153, .ref (ad 19)]) := c154
      have q155 : fld (S125 0) 12 = v136.toInt := fld_of c154 rfl
      have b156 : Bd v136 (1) (3) := ⟨by omega, (b137).2⟩
      have q157 : fld (S125 0) 6 = v127.toInt := fld_of c154 rfl
      have q158 : fld (S125 0) 7 = v129.toInt := fld_of c154 rfl
      have q159 : fld (S 0) 8 = v6.toInt := fld_of c29 rfl
      have q160 : fld (S125 0) 8 = v131.toInt := fld_of c154 rfl
      refine lv_iload_n hx hb dX12_isRoom_18 rfl (lv_at hl 1 rfl) ?_
      refine lv_if_eq (tgt := 33) hx hb dX12_isRoom_19 (by decide) (fun k161 => ?_) (fun k161 => ?_)
      · have h162 := ib_eq k161
        have b163 : Bd a1 (1) (0) := ⟨(b51).1, ((rf_eq b51 (by decide : Bd 0 (0) (0)) h162).1).2⟩
        exact absurd (Int.le_trans b163.1 b163.2) (by decide)
      · have h164 := ib_ne k161
        refine lv_aload_n hx hb dX12_isRoom_22 rfl (lv_at hl 0 rfl) ?_
        refine xget E hQ 0 (by decide) c154 rfl 12 (by decide) q1480 rfl dX12_isRoom_23 ?_
        refine lv_if_ne (tgt := 33) hx hb dX12_isRoom_26 (by decide) (fun k165 => ?_) (fun k165 => ?_)
        · have h166 := ib_ne k165
          refine lv_iload_n hx hb dX12_isRoom_33 rfl (lv_at hl 1 rfl) ?_
          refine lv_if_eq (tgt := 48) hx hb dX12_isRoom_34 (by decide) (fun k167 => ?_) (fun k167 => ?_)
          · have h168 := ib_eq k167
            have b169 : Bd a1 (1) (0) := ⟨(b51).1, ((rf_eq b51 (by decide : Bd 0 (0) (0)) h168).1).2⟩
            exact absurd (Int.le_trans b169.1 b169.2) (by decide)
          · have h170 := ib_ne k167
            refine lv_aload_n hx hb dX12_isRoom_37 rfl (lv_at hl 0 rfl) ?_
            refine xget E hQ 0 (by decide) c154 rfl 12 (by decide) q1480 rfl dX12_isRoom_38 ?_
            refine lv_if_ne (tgt := 48) hx hb dX12_isRoom_41 (by decide) (fun k171 => ?_) (fun k171 => ?_)
            · have h172 := ib_ne k171
              refine lv_iconst (v := 0) hx hb dX12_isRoom_48 (by decide) ?_
              have c173 : S125 7 = .inl (g.2 0, 50, .inl f30) := ((o125 7 (by decide)).trans c31)
              have q174 : elm (S125 7) 46 = v33.toInt := (elm_of c173 46).trans (congrArg Int32.toInt (ee34))
              have q175 : (0 : Int32).toInt = 0 := by decide
              exact xrz E hr hlk hQ rfl (⟨hI, (o_trans o_refl o125 (by decide)), (ib_wk (by decide : Bd 0 (0) (0)) (by decide) (by decide)), (by omega), ⟨by omega, by omega⟩, (by omega), Or.inl (by omega)⟩) dX12_isRoom_49
            · have h176 := ib_eq k171
              have b177 : Bd v136 (1) (0) := ⟨(b156).1, ((rf_eq b156 (by decide : Bd 0 (0) (0)) h176).1).2⟩
              exact absurd (Int.le_trans b177.1 b177.2) (by decide)
        · have h178 := ib_eq k165
          have b179 : Bd v136 (1) (0) := ⟨(b156).1, ((rf_eq b156 (by decide : Bd 0 (0) (0)) h178).1).2⟩
          exact absurd (Int.le_trans b179.1 b179.2) (by decide)
set_option maxHeartbeats 4000000 in
set_option maxRecDepth 100000 in
theorem gX12_isRoom_7 (l : Launch) (g : GG) (ad : Nat → Nat) (hD : Dj ad 20) (S : SS) (hI : InvM g ad S) (a1 : Int32) (ba1 : Bd a1 (0) (1)) (hq1 : 0 ≤ fld (S 0) 6 + (-1) * fld (S 0) 7) : Met l yX12_isRoom (wG (.code yX12_isRoom cX12_isRoom 4 (some .boolean))) (Rm 2) (XPre g ad 20 S [.ref (ad 0), .int a1, .int 7, .int 6]) (va_Qi (fun r S' => InvM g ad S' ∧ (∀ j, j ∉ ([0] : List Nat) → S' j = S j) ∧ Bd r (0) (1) ∧ (0 ≤ fld (S' 0) 6 + (-1) * fld (S' 0) 7) ∧ (0 ≤ fld (S 0) 6 + (-1) * fld (S' 0) 6 ∧ 0 ≤ fld (S' 0) 6 + (-1) * fld (S 0) 6) ∧ (0 ≤ 4 * fld (S 0) 6 + (-4) * fld (S 0) 7 + fld (S 0) 8 + (-4) * fld (S' 0) 6 + 4 * fld (S' 0) 7 + (-1) * fld (S' 0) 8) ∧ ((r.toInt + (-1) < 0 ∨ (0 ≤ (-1) * elm (S' 7) 47 + 5)))) (QB g ad 20) (FA ad 20)) 0 0 (FA ad 20) := by
  refine xmet cX12_isRoom "EbbWreckModel" (by decide) rfl (Nat.le_of_ble_eq_true rfl) (fun p e s m below meth c E hr hlk hml hQ ls hl => ?_)
  have hx := E.1
  have hb := E.2.1
  have hs : Sp ad 20 (FA ad 20) := Sp.fa hD
  have hl : lv_has ls 4 [(0, .ref (ad 0)), (1, .int a1), (2, .int 7), (3, .int 6)] := hl
  obtain ⟨v1, v2, v4, v6, v8, v9, w10, v11, v13, v14, v15, v16, v18, v20, v22, v24, v26, v27, v28, c29, b3, b5, b7, b12, b17, b19, b21, b23, b25⟩ := invM_0 hI
  have c29 : S 0 = .inr (12, [.int v1, .ref (ad 1), .ref (ad 2), .ref (ad 3), .ref (ad 4), .ref (ad 5), .int v2, .int v4, .int v6, .int v8, .int v9, .long w10, .int v11, .int v13, .int v14, .int v15, .ref (ad 6), .ref (ad 7), .ref (ad 8), .ref (ad 9), .ref (ad 10), .ref (ad 11), .ref (ad 12), .ref (ad 13), .ref (ad 14), .ref (ad 15), .int v16, .int v18, .ref (ad 16), .int v20, .int v22, .int v24, .int v26, .int v27, .ref (ad 17), .ref (ad 18), .int v28, .ref (ad 19)]) := c29
  obtain ⟨f30, c31, b32⟩ := invM_7 hI
  obtain ⟨v33, ee34⟩ : ∃ z : Int32, f30 47 = z := ⟨_, rfl⟩
  have b35 : Bd v33 (0) (6) := (by rw [← ee34]; exact b32.2.2.2.2.2.1 47 (by decide))
  have q36 : fld (S 0) 6 = v2.toInt := fld_of c29 rfl
  have q37 : fld (S 0) 7 = v4.toInt := fld_of c29 rfl
  refine lv_iload_n hx hb dX12_isRoom_0 rfl (lv_at hl 1 rfl) ?_
  refine lv_if_eq (tgt := 18) hx hb dX12_isRoom_1 (by decide) (fun k38 => ?_) (fun k38 => ?_)
  · have h39 := ib_eq k38
    have b40 : Bd a1 (0) (0) := ⟨(ba1).1, ((rf_eq ba1 (by decide : Bd 0 (0) (0)) h39).1).2⟩
    refine lv_iload_n hx hb dX12_isRoom_18 rfl (lv_at hl 1 rfl) ?_
    refine lv_if_eq (tgt := 33) hx hb dX12_isRoom_19 (by decide) (fun k41 => ?_) (fun k41 => ?_)
    · have h42 := ib_eq k41
      refine lv_iload_n hx hb dX12_isRoom_33 rfl (lv_at hl 1 rfl) ?_
      refine lv_if_eq (tgt := 48) hx hb dX12_isRoom_34 (by decide) (fun k43 => ?_) (fun k43 => ?_)
      · have h44 := ib_eq k43
        refine lv_iconst (v := 0) hx hb dX12_isRoom_48 (by decide) ?_
        have q45 : fld (S 0) 8 = v6.toInt := fld_of c29 rfl
        have q46 : elm (S 7) 47 = v33.toInt := (elm_of c31 47).trans (congrArg Int32.toInt (ee34))
        have q47 : (0 : Int32).toInt = 0 := by decide
        exact xrz E hr hlk hQ rfl (⟨hI, o_refl, (ib_wk (by decide : Bd 0 (0) (0)) (by decide) (by decide)), (by omega), ⟨by omega, by omega⟩, (by omega), Or.inl (by omega)⟩) dX12_isRoom_49
      · have h48 := ib_ne k43
        exact absurd (Int.le_antisymm (Int.le_trans (b40).2 ((by decide : Bd 0 (0) (0))).1) (Int.le_trans ((by decide : Bd 0 (0) (0))).2 (b40).1)) h48
    · have h49 := ib_ne k41
      exact absurd (Int.le_antisymm (Int.le_trans (b40).2 ((by decide : Bd 0 (0) (0))).1) (Int.le_trans ((by decide : Bd 0 (0) (0))).2 (b40).1)) h49
  · have h50 := ib_ne k38
    have b51 : Bd a1 (1) (1) := rf_nlo ba1 (by decide : Bd 0 (0) (0)) h50
    refine lv_aload_n hx hb dX12_isRoom_4 rfl (lv_at hl 0 rfl) ?_
    refine lv_iload_n hx hb dX12_isRoom_5 rfl (lv_at hl 2 rfl) ?_
    refine xcVi E hs hQ hml hl.1 0 (gX12_hasRead_7 l g ad hD S hI ) mX12_hasRead q1697 (by decide) c29 rfl rfl ⟨(Nat.le_of_ble_eq_true rfl), (Nat.le_of_ble_eq_true rfl)⟩ ⟨(Nat.le_of_ble_eq_true rfl), (Nat.le_of_ble_eq_true rfl)⟩ (Nat.le_of_ble_eq_true rfl) rfl dX12_isRoom_6 (fun r52 S52 H locs hp52 hQ _ => ?_)
    obtain ⟨rfl, b52, g52_0⟩ := hp52
    have q53 : elm (S 7) 47 = v33.toInt := (elm_of c31 47).trans (congrArg Int32.toInt (ee34))
    refine lv_iload_n hx hb dX12_isRoom_9 rfl (lv_at hl 3 rfl) ?_
    refine lv_icmp_ne (tgt := 18) hx hb dX12_isRoom_10 (by decide) (fun k54 => ?_) (fun k54 => ?_)
    · have h55 := ib_ne k54
      have b56 : Bd r52 (0) (5) := rf_nhi b52 (by decide : Bd 6 (6) (6)) h55
      refine lv_iload_n hx hb dX12_isRoom_18 rfl (lv_at hl 1 rfl) ?_
      refine lv_if_eq (tgt := 33) hx hb dX12_isRoom_19 (by decide) (fun k57 => ?_) (fun k57 => ?_)
      · have h58 := ib_eq k57
        have b59 : Bd a1 (1) (0) := ⟨(b51).1, ((rf_eq b51 (by decide : Bd 0 (0) (0)) h58).1).2⟩
        exact absurd (Int.le_trans b59.1 b59.2) (by decide)
      · have h60 := ib_ne k57
        refine lv_aload_n hx hb dX12_isRoom_22 rfl (lv_at hl 0 rfl) ?_
        refine xget E hQ 0 (by decide) c29 rfl 12 (by decide) q1480 rfl dX12_isRoom_23 ?_
        refine lv_if_ne (tgt := 33) hx hb dX12_isRoom_26 (by decide) (fun k61 => ?_) (fun k61 => ?_)
        · have h62 := ib_ne k61
          have b63 : Bd v11 (1) (3) := rf_nlo b12 (by decide : Bd 0 (0) (0)) h62
          refine lv_iload_n hx hb dX12_isRoom_33 rfl (lv_at hl 1 rfl) ?_
          refine lv_if_eq (tgt := 48) hx hb dX12_isRoom_34 (by decide) (fun k64 => ?_) (fun k64 => ?_)
          · have h65 := ib_eq k64
            have b66 : Bd a1 (1) (0) := ⟨(b51).1, ((rf_eq b51 (by decide : Bd 0 (0) (0)) h65).1).2⟩
            exact absurd (Int.le_trans b66.1 b66.2) (by decide)
          · have h67 := ib_ne k64
            refine lv_aload_n hx hb dX12_isRoom_37 rfl (lv_at hl 0 rfl) ?_
            refine xget E hQ 0 (by decide) c29 rfl 12 (by decide) q1480 rfl dX12_isRoom_38 ?_
            refine lv_if_ne (tgt := 48) hx hb dX12_isRoom_41 (by decide) (fun k68 => ?_) (fun k68 => ?_)
            · have h69 := ib_ne k68
              refine lv_iconst (v := 0) hx hb dX12_isRoom_48 (by decide) ?_
              have q70 : fld (S 0) 8 = v6.toInt := fld_of c29 rfl
              have q71 : (0 : Int32).toInt = 0 := by decide
              exact xrz E hr hlk hQ rfl (⟨hI, o_refl, (ib_wk (by decide : Bd 0 (0) (0)) (by decide) (by decide)), (by omega), ⟨by omega, by omega⟩, (by omega), Or.inl (by omega)⟩) dX12_isRoom_49
            · have h72 := ib_eq k68
              have b73 : Bd v11 (1) (0) := ⟨(b63).1, ((rf_eq b63 (by decide : Bd 0 (0) (0)) h72).1).2⟩
              exact absurd (Int.le_trans b73.1 b73.2) (by decide)
        · have h74 := ib_eq k61
          have b75 : Bd v11 (0) (0) := ⟨(b12).1, ((rf_eq b12 (by decide : Bd 0 (0) (0)) h74).1).2⟩
          refine lv_aload_n hx hb dX12_isRoom_29 rfl (lv_at hl 0 rfl) ?_
          refine xcVv E hs hQ hml hl.1 0 (gX12_next_0 l g ad hD S hI (by omega)) mX12_next q1637 (by decide) c29 rfl rfl ⟨(Nat.le_of_ble_eq_true rfl), (Nat.le_of_ble_eq_true rfl)⟩ ⟨(Nat.le_of_ble_eq_true rfl), (Nat.le_of_ble_eq_true rfl)⟩ (Nat.le_of_ble_eq_true rfl) rfl dX12_isRoom_30 (fun S76 H locs hp76 hQ _ => ?_)
          obtain ⟨hI, o76, g76_0, g76_1, g76_2, g76_3, g76_4⟩ := hp76
          obtain ⟨v77, v78, v80, v82, v84, v85, w86, v87, v89, v90, v91, v92, v94, v96, v98, v100, v102, v103, v104, c105, b79, b81, b83, b88, b93, b95, b97, b99, b101⟩ := invM_0 hI
          have c105 : S76 0 = .inr (12, [.int v77, .ref (ad 1), .ref (ad 2), .ref (ad 3), .ref (ad 4), .ref (ad 5), .int v78, .int v80, .int v82, .int v84, .int v85, .long w86, .int v87, .int v89, .int v90, .int v91, .ref (ad 6), .ref (ad 7), .ref (ad 8), .ref (ad 9), .ref (ad 10), .ref (ad 11), .ref (ad 12), .ref (ad 13), .ref (ad 14), .ref (ad 15), .int v92, .int v94, .ref (ad 16), .int v96, .int v98, .int v100, .int v102, .int v103, .ref (ad 17), .ref (ad 18), .int v104, .ref (ad 19)]) := c105
          have q106 : fld (S76 0) 6 = v78.toInt := fld_of c105 rfl
          have q107 : fld (S76 0) 7 = v80.toInt := fld_of c105 rfl
          have q108 : fld (S 0) 12 = v11.toInt := fld_of c29 rfl
          have q109 : fld (S76 0) 12 = v87.toInt := fld_of c105 rfl
          have b110 : Bd v87 (0) (0) := ⟨(b88).1, by omega⟩
          have q111 : fld (S76 0) 8 = v82.toInt := fld_of c105 rfl
          refine lv_iload_n hx hb dX12_isRoom_33 rfl (lv_at hl 1 rfl) ?_
          refine lv_if_eq (tgt := 48) hx hb dX12_isRoom_34 (by decide) (fun k112 => ?_) (fun k112 => ?_)
          · have h113 := ib_eq k112
            have b114 : Bd a1 (1) (0) := ⟨(b51).1, ((rf_eq b51 (by decide : Bd 0 (0) (0)) h113).1).2⟩
            exact absurd (Int.le_trans b114.1 b114.2) (by decide)
          · have h115 := ib_ne k112
            refine lv_aload_n hx hb dX12_isRoom_37 rfl (lv_at hl 0 rfl) ?_
            refine xget E hQ 0 (by decide) c105 rfl 12 (by decide) q1480 rfl dX12_isRoom_38 ?_
            refine lv_if_ne (tgt := 48) hx hb dX12_isRoom_41 (by decide) (fun k116 => ?_) (fun k116 => ?_)
            · have h117 := ib_ne k116
              exact absurd (Int.le_antisymm (Int.le_trans (b110).2 ((by decide : Bd 0 (0) (0))).1) (Int.le_trans ((by decide : Bd 0 (0) (0))).2 (b110).1)) h117
            · have h118 := ib_eq k116
              refine lv_iconst (v := 1) hx hb dX12_isRoom_44 (by decide) ?_
              refine lv_goto (tgt := 49) hx hb dX12_isRoom_45 (by decide) ?_
              have q119 : fld (S 0) 8 = v6.toInt := fld_of c29 rfl
              have c120 : S76 7 = .inl (g.2 0, 50, .inl f30) := ((o76 7 (by decide)).trans c31)
              have q121 : elm (S76 7) 47 = v33.toInt := (elm_of c120 47).trans (congrArg Int32.toInt (ee34))
              have q122 : (1 : Int32).toInt = 1 := by decide
              exact xrz E hr hlk hQ rfl (⟨hI, (o_trans o_refl o76 (by decide)), (ib_wk (by decide : Bd 1 (1) (1)) (by decide) (by decide)), (by omega), ⟨by omega, by omega⟩, (by omega), Or.inr (by omega)⟩) dX12_isRoom_49
    · have h123 := ib_eq k54
      have b124 : Bd r52 (6) (6) := ⟨((rf_eq b52 (by decide : Bd 6 (6) (6)) h123).1).1, (b52).2⟩
      refine lv_aload_n hx hb dX12_isRoom_13 rfl (lv_at hl 0 rfl) ?_
      refine lv_iconst (v := 3) hx hb dX12_isRoom_14 (by decide) ?_
      refine xcVv E hs hQ hml hl.1 0 (gX12_fails_0 l g ad hD S hI 3 (ib_wk (by decide : Bd 3 (3) (3)) (by decide) (by decide))) mX12_fails q1667 (by decide) c29 rfl rfl ⟨(Nat.le_of_ble_eq_true rfl), (Nat.le_of_ble_eq_true rfl)⟩ ⟨(Nat.le_of_ble_eq_true rfl), (Nat.le_of_ble_eq_true rfl)⟩ (Nat.le_of_ble_eq_true rfl) rfl dX12_isRoom_15 (fun S125 H locs hp125 hQ _ => ?_)
      obtain ⟨hI, o125, g125_0, g125_1, g125_2, g125_3⟩ := hp125
      obtain ⟨v126, v127, v129, v131, v133, v134, w135, v136, v138, v139, v140, v141, v143, v145, v147, v149, v151, v152, v153, c154, b128, b130, b132, b137, b142, b144, b146, b148, b150⟩ := invM_0 hI
      have c154 : S125 0 = .inr (12, [.int v126, .ref (ad 1), .ref (ad 2), .ref (ad 3), .ref (ad 4), .ref (ad 5), .int v127, .int v129, .int v131, .int v133, .int v134, .long w135, .int v136, .int v138, .int v139, .int v140, .ref (ad 6), .ref (ad 7), .ref (ad 8), .ref (ad 9), .ref (ad 10), .ref (ad 11), .ref (ad 12), .ref (ad 13), .ref (ad 14), .ref (ad 15), .int v141, .int v143, .ref (ad 16), .int v145, .int v147, .int v149, .int v151, .int v152, .ref (ad 17), .ref (ad 18), .int v153, .ref (ad 19)]) := c154
      have q155 : fld (S125 0) 12 = v136.toInt := fld_of c154 rfl
      have b156 : Bd v136 (1) (3) := ⟨by omega, (b137).2⟩
      have q157 : fld (S125 0) 6 = v127.toInt := fld_of c154 rfl
      have q158 : fld (S125 0) 7 = v129.toInt := fld_of c154 rfl
      have q159 : fld (S 0) 8 = v6.toInt := fld_of c29 rfl
      have q160 : fld (S125 0) 8 = v131.toInt := fld_of c154 rfl
      refine lv_iload_n hx hb dX12_isRoom_18 rfl (lv_at hl 1 rfl) ?_
      refine lv_if_eq (tgt := 33) hx hb dX12_isRoom_19 (by decide) (fun k161 => ?_) (fun k161 => ?_)
      · have h162 := ib_eq k161
        have b163 : Bd a1 (1) (0) := ⟨(b51).1, ((rf_eq b51 (by decide : Bd 0 (0) (0)) h162).1).2⟩
        exact absurd (Int.le_trans b163.1 b163.2) (by decide)
      · have h164 := ib_ne k161
        refine lv_aload_n hx hb dX12_isRoom_22 rfl (lv_at hl 0 rfl) ?_
        refine xget E hQ 0 (by decide) c154 rfl 12 (by decide) q1480 rfl dX12_isRoom_23 ?_
        refine lv_if_ne (tgt := 33) hx hb dX12_isRoom_26 (by decide) (fun k165 => ?_) (fun k165 => ?_)
        · have h166 := ib_ne k165
          refine lv_iload_n hx hb dX12_isRoom_33 rfl (lv_at hl 1 rfl) ?_
          refine lv_if_eq (tgt := 48) hx hb dX12_isRoom_34 (by decide) (fun k167 => ?_) (fun k167 => ?_)
          · have h168 := ib_eq k167
            have b169 : Bd a1 (1) (0) := ⟨(b51).1, ((rf_eq b51 (by decide : Bd 0 (0) (0)) h168).1).2⟩
            exact absurd (Int.le_trans b169.1 b169.2) (by decide)
          · have h170 := ib_ne k167
            refine lv_aload_n hx hb dX12_isRoom_37 rfl (lv_at hl 0 rfl) ?_
            refine xget E hQ 0 (by decide) c154 rfl 12 (by decide) q1480 rfl dX12_isRoom_38 ?_
            refine lv_if_ne (tgt := 48) hx hb dX12_isRoom_41 (by decide) (fun k171 => ?_) (fun k171 => ?_)
            · have h172 := ib_ne k171
              refine lv_iconst (v := 0) hx hb dX12_isRoom_48 (by decide) ?_
              have c173 : S125 7 = .inl (g.2 0, 50, .inl f30) := ((o125 7 (by decide)).trans c31)
              have q174 : elm (S125 7) 47 = v33.toInt := (elm_of c173 47).trans (congrArg Int32.toInt (ee34))
              have q175 : (0 : Int32).toInt = 0 := by decide
              exact xrz E hr hlk hQ rfl (⟨hI, (o_trans o_refl o125 (by decide)), (ib_wk (by decide : Bd 0 (0) (0)) (by decide) (by decide)), (by omega), ⟨by omega, by omega⟩, (by omega), Or.inl (by omega)⟩) dX12_isRoom_49
            · have h176 := ib_eq k171
              have b177 : Bd v136 (1) (0) := ⟨(b156).1, ((rf_eq b156 (by decide : Bd 0 (0) (0)) h176).1).2⟩
              exact absurd (Int.le_trans b177.1 b177.2) (by decide)
        · have h178 := ib_eq k165
          have b179 : Bd v136 (1) (0) := ⟨(b156).1, ((rf_eq b156 (by decide : Bd 0 (0) (0)) h178).1).2⟩
          exact absurd (Int.le_trans b179.1 b179.2) (by decide)
set_option maxHeartbeats 4000000 in
set_option maxRecDepth 100000 in
theorem gX12_isRoom_8 (l : Launch) (g : GG) (ad : Nat → Nat) (hD : Dj ad 20) (S : SS) (hI : InvM g ad S) (a1 : Int32) (ba1 : Bd a1 (0) (1)) (hq1 : 0 ≤ fld (S 0) 6 + (-1) * fld (S 0) 7) : Met l yX12_isRoom (wG (.code yX12_isRoom cX12_isRoom 4 (some .boolean))) (Rm 2) (XPre g ad 20 S [.ref (ad 0), .int a1, .int 8, .int 3]) (va_Qi (fun r S' => InvM g ad S' ∧ (∀ j, j ∉ ([0] : List Nat) → S' j = S j) ∧ Bd r (0) (1) ∧ (0 ≤ fld (S' 0) 6 + (-1) * fld (S' 0) 7) ∧ (0 ≤ fld (S 0) 6 + (-1) * fld (S' 0) 6 ∧ 0 ≤ fld (S' 0) 6 + (-1) * fld (S 0) 6) ∧ (0 ≤ 4 * fld (S 0) 6 + (-4) * fld (S 0) 7 + fld (S 0) 8 + (-4) * fld (S' 0) 6 + 4 * fld (S' 0) 7 + (-1) * fld (S' 0) 8) ∧ ((r.toInt + (-1) < 0 ∨ (0 ≤ (-1) * elm (S' 7) 48 + 2)))) (QB g ad 20) (FA ad 20)) 0 0 (FA ad 20) := by
  refine xmet cX12_isRoom "EbbWreckModel" (by decide) rfl (Nat.le_of_ble_eq_true rfl) (fun p e s m below meth c E hr hlk hml hQ ls hl => ?_)
  have hx := E.1
  have hb := E.2.1
  have hs : Sp ad 20 (FA ad 20) := Sp.fa hD
  have hl : lv_has ls 4 [(0, .ref (ad 0)), (1, .int a1), (2, .int 8), (3, .int 3)] := hl
  obtain ⟨v1, v2, v4, v6, v8, v9, w10, v11, v13, v14, v15, v16, v18, v20, v22, v24, v26, v27, v28, c29, b3, b5, b7, b12, b17, b19, b21, b23, b25⟩ := invM_0 hI
  have c29 : S 0 = .inr (12, [.int v1, .ref (ad 1), .ref (ad 2), .ref (ad 3), .ref (ad 4), .ref (ad 5), .int v2, .int v4, .int v6, .int v8, .int v9, .long w10, .int v11, .int v13, .int v14, .int v15, .ref (ad 6), .ref (ad 7), .ref (ad 8), .ref (ad 9), .ref (ad 10), .ref (ad 11), .ref (ad 12), .ref (ad 13), .ref (ad 14), .ref (ad 15), .int v16, .int v18, .ref (ad 16), .int v20, .int v22, .int v24, .int v26, .int v27, .ref (ad 17), .ref (ad 18), .int v28, .ref (ad 19)]) := c29
  obtain ⟨f30, c31, b32⟩ := invM_7 hI
  obtain ⟨v33, ee34⟩ : ∃ z : Int32, f30 48 = z := ⟨_, rfl⟩
  have b35 : Bd v33 (0) (3) := (by rw [← ee34]; exact b32.2.2.2.2.2.2.1 48 (by decide))
  have q36 : fld (S 0) 6 = v2.toInt := fld_of c29 rfl
  have q37 : fld (S 0) 7 = v4.toInt := fld_of c29 rfl
  refine lv_iload_n hx hb dX12_isRoom_0 rfl (lv_at hl 1 rfl) ?_
  refine lv_if_eq (tgt := 18) hx hb dX12_isRoom_1 (by decide) (fun k38 => ?_) (fun k38 => ?_)
  · have h39 := ib_eq k38
    have b40 : Bd a1 (0) (0) := ⟨(ba1).1, ((rf_eq ba1 (by decide : Bd 0 (0) (0)) h39).1).2⟩
    refine lv_iload_n hx hb dX12_isRoom_18 rfl (lv_at hl 1 rfl) ?_
    refine lv_if_eq (tgt := 33) hx hb dX12_isRoom_19 (by decide) (fun k41 => ?_) (fun k41 => ?_)
    · have h42 := ib_eq k41
      refine lv_iload_n hx hb dX12_isRoom_33 rfl (lv_at hl 1 rfl) ?_
      refine lv_if_eq (tgt := 48) hx hb dX12_isRoom_34 (by decide) (fun k43 => ?_) (fun k43 => ?_)
      · have h44 := ib_eq k43
        refine lv_iconst (v := 0) hx hb dX12_isRoom_48 (by decide) ?_
        have q45 : fld (S 0) 8 = v6.toInt := fld_of c29 rfl
        have q46 : elm (S 7) 48 = v33.toInt := (elm_of c31 48).trans (congrArg Int32.toInt (ee34))
        have q47 : (0 : Int32).toInt = 0 := by decide
        exact xrz E hr hlk hQ rfl (⟨hI, o_refl, (ib_wk (by decide : Bd 0 (0) (0)) (by decide) (by decide)), (by omega), ⟨by omega, by omega⟩, (by omega), Or.inl (by omega)⟩) dX12_isRoom_49
      · have h48 := ib_ne k43
        exact absurd (Int.le_antisymm (Int.le_trans (b40).2 ((by decide : Bd 0 (0) (0))).1) (Int.le_trans ((by decide : Bd 0 (0) (0))).2 (b40).1)) h48
    · have h49 := ib_ne k41
      exact absurd (Int.le_antisymm (Int.le_trans (b40).2 ((by decide : Bd 0 (0) (0))).1) (Int.le_trans ((by decide : Bd 0 (0) (0))).2 (b40).1)) h49
  · have h50 := ib_ne k38
    have b51 : Bd a1 (1) (1) := rf_nlo ba1 (by decide : Bd 0 (0) (0)) h50
    refine lv_aload_n hx hb dX12_isRoom_4 rfl (lv_at hl 0 rfl) ?_
    refine lv_iload_n hx hb dX12_isRoom_5 rfl (lv_at hl 2 rfl) ?_
    refine xcVi E hs hQ hml hl.1 0 (gX12_hasRead_8 l g ad hD S hI ) mX12_hasRead q1697 (by decide) c29 rfl rfl ⟨(Nat.le_of_ble_eq_true rfl), (Nat.le_of_ble_eq_true rfl)⟩ ⟨(Nat.le_of_ble_eq_true rfl), (Nat.le_of_ble_eq_true rfl)⟩ (Nat.le_of_ble_eq_true rfl) rfl dX12_isRoom_6 (fun r52 S52 H locs hp52 hQ _ => ?_)
    obtain ⟨rfl, b52, g52_0⟩ := hp52
    have q53 : elm (S 7) 48 = v33.toInt := (elm_of c31 48).trans (congrArg Int32.toInt (ee34))
    refine lv_iload_n hx hb dX12_isRoom_9 rfl (lv_at hl 3 rfl) ?_
    refine lv_icmp_ne (tgt := 18) hx hb dX12_isRoom_10 (by decide) (fun k54 => ?_) (fun k54 => ?_)
    · have h55 := ib_ne k54
      have b56 : Bd r52 (0) (2) := rf_nhi b52 (by decide : Bd 3 (3) (3)) h55
      refine lv_iload_n hx hb dX12_isRoom_18 rfl (lv_at hl 1 rfl) ?_
      refine lv_if_eq (tgt := 33) hx hb dX12_isRoom_19 (by decide) (fun k57 => ?_) (fun k57 => ?_)
      · have h58 := ib_eq k57
        have b59 : Bd a1 (1) (0) := ⟨(b51).1, ((rf_eq b51 (by decide : Bd 0 (0) (0)) h58).1).2⟩
        exact absurd (Int.le_trans b59.1 b59.2) (by decide)
      · have h60 := ib_ne k57
        refine lv_aload_n hx hb dX12_isRoom_22 rfl (lv_at hl 0 rfl) ?_
        refine xget E hQ 0 (by decide) c29 rfl 12 (by decide) q1480 rfl dX12_isRoom_23 ?_
        refine lv_if_ne (tgt := 33) hx hb dX12_isRoom_26 (by decide) (fun k61 => ?_) (fun k61 => ?_)
        · have h62 := ib_ne k61
          have b63 : Bd v11 (1) (3) := rf_nlo b12 (by decide : Bd 0 (0) (0)) h62
          refine lv_iload_n hx hb dX12_isRoom_33 rfl (lv_at hl 1 rfl) ?_
          refine lv_if_eq (tgt := 48) hx hb dX12_isRoom_34 (by decide) (fun k64 => ?_) (fun k64 => ?_)
          · have h65 := ib_eq k64
            have b66 : Bd a1 (1) (0) := ⟨(b51).1, ((rf_eq b51 (by decide : Bd 0 (0) (0)) h65).1).2⟩
            exact absurd (Int.le_trans b66.1 b66.2) (by decide)
          · have h67 := ib_ne k64
            refine lv_aload_n hx hb dX12_isRoom_37 rfl (lv_at hl 0 rfl) ?_
            refine xget E hQ 0 (by decide) c29 rfl 12 (by decide) q1480 rfl dX12_isRoom_38 ?_
            refine lv_if_ne (tgt := 48) hx hb dX12_isRoom_41 (by decide) (fun k68 => ?_) (fun k68 => ?_)
            · have h69 := ib_ne k68
              refine lv_iconst (v := 0) hx hb dX12_isRoom_48 (by decide) ?_
              have q70 : fld (S 0) 8 = v6.toInt := fld_of c29 rfl
              have q71 : (0 : Int32).toInt = 0 := by decide
              exact xrz E hr hlk hQ rfl (⟨hI, o_refl, (ib_wk (by decide : Bd 0 (0) (0)) (by decide) (by decide)), (by omega), ⟨by omega, by omega⟩, (by omega), Or.inl (by omega)⟩) dX12_isRoom_49
            · have h72 := ib_eq k68
              have b73 : Bd v11 (1) (0) := ⟨(b63).1, ((rf_eq b63 (by decide : Bd 0 (0) (0)) h72).1).2⟩
              exact absurd (Int.le_trans b73.1 b73.2) (by decide)
        · have h74 := ib_eq k61
          have b75 : Bd v11 (0) (0) := ⟨(b12).1, ((rf_eq b12 (by decide : Bd 0 (0) (0)) h74).1).2⟩
          refine lv_aload_n hx hb dX12_isRoom_29 rfl (lv_at hl 0 rfl) ?_
          refine xcVv E hs hQ hml hl.1 0 (gX12_next_0 l g ad hD S hI (by omega)) mX12_next q1637 (by decide) c29 rfl rfl ⟨(Nat.le_of_ble_eq_true rfl), (Nat.le_of_ble_eq_true rfl)⟩ ⟨(Nat.le_of_ble_eq_true rfl), (Nat.le_of_ble_eq_true rfl)⟩ (Nat.le_of_ble_eq_true rfl) rfl dX12_isRoom_30 (fun S76 H locs hp76 hQ _ => ?_)
          obtain ⟨hI, o76, g76_0, g76_1, g76_2, g76_3, g76_4⟩ := hp76
          obtain ⟨v77, v78, v80, v82, v84, v85, w86, v87, v89, v90, v91, v92, v94, v96, v98, v100, v102, v103, v104, c105, b79, b81, b83, b88, b93, b95, b97, b99, b101⟩ := invM_0 hI
          have c105 : S76 0 = .inr (12, [.int v77, .ref (ad 1), .ref (ad 2), .ref (ad 3), .ref (ad 4), .ref (ad 5), .int v78, .int v80, .int v82, .int v84, .int v85, .long w86, .int v87, .int v89, .int v90, .int v91, .ref (ad 6), .ref (ad 7), .ref (ad 8), .ref (ad 9), .ref (ad 10), .ref (ad 11), .ref (ad 12), .ref (ad 13), .ref (ad 14), .ref (ad 15), .int v92, .int v94, .ref (ad 16), .int v96, .int v98, .int v100, .int v102, .int v103, .ref (ad 17), .ref (ad 18), .int v104, .ref (ad 19)]) := c105
          have q106 : fld (S76 0) 6 = v78.toInt := fld_of c105 rfl
          have q107 : fld (S76 0) 7 = v80.toInt := fld_of c105 rfl
          have q108 : fld (S 0) 12 = v11.toInt := fld_of c29 rfl
          have q109 : fld (S76 0) 12 = v87.toInt := fld_of c105 rfl
          have b110 : Bd v87 (0) (0) := ⟨(b88).1, by omega⟩
          have q111 : fld (S76 0) 8 = v82.toInt := fld_of c105 rfl
          refine lv_iload_n hx hb dX12_isRoom_33 rfl (lv_at hl 1 rfl) ?_
          refine lv_if_eq (tgt := 48) hx hb dX12_isRoom_34 (by decide) (fun k112 => ?_) (fun k112 => ?_)
          · have h113 := ib_eq k112
            have b114 : Bd a1 (1) (0) := ⟨(b51).1, ((rf_eq b51 (by decide : Bd 0 (0) (0)) h113).1).2⟩
            exact absurd (Int.le_trans b114.1 b114.2) (by decide)
          · have h115 := ib_ne k112
            refine lv_aload_n hx hb dX12_isRoom_37 rfl (lv_at hl 0 rfl) ?_
            refine xget E hQ 0 (by decide) c105 rfl 12 (by decide) q1480 rfl dX12_isRoom_38 ?_
            refine lv_if_ne (tgt := 48) hx hb dX12_isRoom_41 (by decide) (fun k116 => ?_) (fun k116 => ?_)
            · have h117 := ib_ne k116
              exact absurd (Int.le_antisymm (Int.le_trans (b110).2 ((by decide : Bd 0 (0) (0))).1) (Int.le_trans ((by decide : Bd 0 (0) (0))).2 (b110).1)) h117
            · have h118 := ib_eq k116
              refine lv_iconst (v := 1) hx hb dX12_isRoom_44 (by decide) ?_
              refine lv_goto (tgt := 49) hx hb dX12_isRoom_45 (by decide) ?_
              have q119 : fld (S 0) 8 = v6.toInt := fld_of c29 rfl
              have c120 : S76 7 = .inl (g.2 0, 50, .inl f30) := ((o76 7 (by decide)).trans c31)
              have q121 : elm (S76 7) 48 = v33.toInt := (elm_of c120 48).trans (congrArg Int32.toInt (ee34))
              have q122 : (1 : Int32).toInt = 1 := by decide
              exact xrz E hr hlk hQ rfl (⟨hI, (o_trans o_refl o76 (by decide)), (ib_wk (by decide : Bd 1 (1) (1)) (by decide) (by decide)), (by omega), ⟨by omega, by omega⟩, (by omega), Or.inr (by omega)⟩) dX12_isRoom_49
    · have h123 := ib_eq k54
      have b124 : Bd r52 (3) (3) := ⟨((rf_eq b52 (by decide : Bd 3 (3) (3)) h123).1).1, (b52).2⟩
      refine lv_aload_n hx hb dX12_isRoom_13 rfl (lv_at hl 0 rfl) ?_
      refine lv_iconst (v := 3) hx hb dX12_isRoom_14 (by decide) ?_
      refine xcVv E hs hQ hml hl.1 0 (gX12_fails_0 l g ad hD S hI 3 (ib_wk (by decide : Bd 3 (3) (3)) (by decide) (by decide))) mX12_fails q1667 (by decide) c29 rfl rfl ⟨(Nat.le_of_ble_eq_true rfl), (Nat.le_of_ble_eq_true rfl)⟩ ⟨(Nat.le_of_ble_eq_true rfl), (Nat.le_of_ble_eq_true rfl)⟩ (Nat.le_of_ble_eq_true rfl) rfl dX12_isRoom_15 (fun S125 H locs hp125 hQ _ => ?_)
      obtain ⟨hI, o125, g125_0, g125_1, g125_2, g125_3⟩ := hp125
      obtain ⟨v126, v127, v129, v131, v133, v134, w135, v136, v138, v139, v140, v141, v143, v145, v147, v149, v151, v152, v153, c154, b128, b130, b132, b137, b142, b144, b146, b148, b150⟩ := invM_0 hI
      have c154 : S125 0 = .inr (12, [.int v126, .ref (ad 1), .ref (ad 2), .ref (ad 3), .ref (ad 4), .ref (ad 5), .int v127, .int v129, .int v131, .int v133, .int v134, .long w135, .int v136, .int v138, .int v139, .int v140, .ref (ad 6), .ref (ad 7), .ref (ad 8), .ref (ad 9), .ref (ad 10), .ref (ad 11), .ref (ad 12), .ref (ad 13), .ref (ad 14), .ref (ad 15), .int v141, .int v143, .ref (ad 16), .int v145, .int v147, .int v149, .int v151, .int v152, .ref (ad 17), .ref (ad 18), .int v153, .ref (ad 19)]) := c154
      have q155 : fld (S125 0) 12 = v136.toInt := fld_of c154 rfl
      have b156 : Bd v136 (1) (3) := ⟨by omega, (b137).2⟩
      have q157 : fld (S125 0) 6 = v127.toInt := fld_of c154 rfl
      have q158 : fld (S125 0) 7 = v129.toInt := fld_of c154 rfl
      have q159 : fld (S 0) 8 = v6.toInt := fld_of c29 rfl
      have q160 : fld (S125 0) 8 = v131.toInt := fld_of c154 rfl
      refine lv_iload_n hx hb dX12_isRoom_18 rfl (lv_at hl 1 rfl) ?_
      refine lv_if_eq (tgt := 33) hx hb dX12_isRoom_19 (by decide) (fun k161 => ?_) (fun k161 => ?_)
      · have h162 := ib_eq k161
        have b163 : Bd a1 (1) (0) := ⟨(b51).1, ((rf_eq b51 (by decide : Bd 0 (0) (0)) h162).1).2⟩
        exact absurd (Int.le_trans b163.1 b163.2) (by decide)
      · have h164 := ib_ne k161
        refine lv_aload_n hx hb dX12_isRoom_22 rfl (lv_at hl 0 rfl) ?_
        refine xget E hQ 0 (by decide) c154 rfl 12 (by decide) q1480 rfl dX12_isRoom_23 ?_
        refine lv_if_ne (tgt := 33) hx hb dX12_isRoom_26 (by decide) (fun k165 => ?_) (fun k165 => ?_)
        · have h166 := ib_ne k165
          refine lv_iload_n hx hb dX12_isRoom_33 rfl (lv_at hl 1 rfl) ?_
          refine lv_if_eq (tgt := 48) hx hb dX12_isRoom_34 (by decide) (fun k167 => ?_) (fun k167 => ?_)
          · have h168 := ib_eq k167
            have b169 : Bd a1 (1) (0) := ⟨(b51).1, ((rf_eq b51 (by decide : Bd 0 (0) (0)) h168).1).2⟩
            exact absurd (Int.le_trans b169.1 b169.2) (by decide)
          · have h170 := ib_ne k167
            refine lv_aload_n hx hb dX12_isRoom_37 rfl (lv_at hl 0 rfl) ?_
            refine xget E hQ 0 (by decide) c154 rfl 12 (by decide) q1480 rfl dX12_isRoom_38 ?_
            refine lv_if_ne (tgt := 48) hx hb dX12_isRoom_41 (by decide) (fun k171 => ?_) (fun k171 => ?_)
            · have h172 := ib_ne k171
              refine lv_iconst (v := 0) hx hb dX12_isRoom_48 (by decide) ?_
              have c173 : S125 7 = .inl (g.2 0, 50, .inl f30) := ((o125 7 (by decide)).trans c31)
              have q174 : elm (S125 7) 48 = v33.toInt := (elm_of c173 48).trans (congrArg Int32.toInt (ee34))
              have q175 : (0 : Int32).toInt = 0 := by decide
              exact xrz E hr hlk hQ rfl (⟨hI, (o_trans o_refl o125 (by decide)), (ib_wk (by decide : Bd 0 (0) (0)) (by decide) (by decide)), (by omega), ⟨by omega, by omega⟩, (by omega), Or.inl (by omega)⟩) dX12_isRoom_49
            · have h176 := ib_eq k171
              have b177 : Bd v136 (1) (0) := ⟨(b156).1, ((rf_eq b156 (by decide : Bd 0 (0) (0)) h176).1).2⟩
              exact absurd (Int.le_trans b177.1 b177.2) (by decide)
        · have h178 := ib_eq k165
          have b179 : Bd v136 (1) (0) := ⟨(b156).1, ((rf_eq b156 (by decide : Bd 0 (0) (0)) h178).1).2⟩
          exact absurd (Int.le_trans b179.1 b179.2) (by decide)
set_option maxHeartbeats 4000000 in
set_option maxRecDepth 100000 in
theorem gX12_line_0 (l : Launch) (g : GG) (ad : Nat → Nat) (hD : Dj ad 20) (S : SS) (hI : InvM g ad S) (hq1 : 0 ≤ fld (S 0) 6 + (-1) * fld (S 0) 7) (hq2 : 0 ≤ elm (S 7) 40 + (-1)) : Met l yX12_line (wG (.code yX12_line cX12_line 2 none)) (Rm 6) (XPre g ad 20 S [.ref (ad 0)]) (va_Qv (fun S' => InvM g ad S' ∧ (∀ j, j ∉ ([0, 7, 8, 9, 10, 11] : List Nat) → S' j = S j) ∧ (0 ≤ fld (S' 0) 6 + (-1) * fld (S' 0) 7) ∧ (0 ≤ fld (S 0) 6 + (-1) * fld (S' 0) 6 ∧ 0 ≤ fld (S' 0) 6 + (-1) * fld (S 0) 6) ∧ (0 ≤ 4 * fld (S 0) 6 + (-4) * fld (S 0) 7 + fld (S 0) 8 + (-4) * fld (S' 0) 6 + 4 * fld (S' 0) 7 + (-1) * fld (S' 0) 8) ∧ (0 ≤ elm (S 7) 40 + (-1) * elm (S' 7) 40 ∧ 0 ≤ elm (S' 7) 40 + (-1) * elm (S 7) 40) ∧ (0 ≤ elm (S 7) 41 + (-1) * elm (S' 7) 41 ∧ 0 ≤ elm (S' 7) 41 + (-1) * elm (S 7) 41) ∧ (0 ≤ elm (S 7) 43 + (-1) * elm (S' 7) 43 ∧ 0 ≤ elm (S' 7) 43 + (-1) * elm (S 7) 43) ∧ (0 ≤ elm (S 7) 49 + (-1) * elm (S' 7) 49 ∧ 0 ≤ elm (S' 7) 49 + (-1) * elm (S 7) 49) ∧ EFp (S' 7) (S 7) 0 40) (QB g ad 20) (FA ad 20)) 0 0 (FA ad 20) := by
  refine xmet cX12_line "EbbWreckModel" (by decide) rfl (Nat.le_of_ble_eq_true rfl) (fun p e s m below meth c E hr hlk hml hQ ls hl => ?_)
  have hx := E.1
  have hb := E.2.1
  have hs : Sp ad 20 (FA ad 20) := Sp.fa hD
  have hl : lv_has ls 2 [(0, .ref (ad 0))] := hl
  obtain ⟨v1, v2, v4, v6, v8, v9, w10, v11, v13, v14, v15, v16, v18, v20, v22, v24, v26, v27, v28, c29, b3, b5, b7, b12, b17, b19, b21, b23, b25⟩ := invM_0 hI
  have c29 : S 0 = .inr (12, [.int v1, .ref (ad 1), .ref (ad 2), .ref (ad 3), .ref (ad 4), .ref (ad 5), .int v2, .int v4, .int v6, .int v8, .int v9, .long w10, .int v11, .int v13, .int v14, .int v15, .ref (ad 6), .ref (ad 7), .ref (ad 8), .ref (ad 9), .ref (ad 10), .ref (ad 11), .ref (ad 12), .ref (ad 13), .ref (ad 14), .ref (ad 15), .int v16, .int v18, .ref (ad 16), .int v20, .int v22, .int v24, .int v26, .int v27, .ref (ad 17), .ref (ad 18), .int v28, .ref (ad 19)]) := c29
  obtain ⟨f30, c31, b32⟩ := invM_7 hI
  obtain ⟨v33, ee34⟩ : ∃ z : Int32, f30 40 = z := ⟨_, rfl⟩
  have b35 : Bd v33 (0) (12) := (by rw [← ee34]; exact b32.1 40 (by decide))
  obtain ⟨v36, ee37⟩ : ∃ z : Int32, f30 41 = z := ⟨_, rfl⟩
  have b38 : Bd v36 (0) (12) := (by rw [← ee37]; exact b32.2.1 41 (by decide))
  obtain ⟨v39, ee40⟩ : ∃ z : Int32, f30 43 = z := ⟨_, rfl⟩
  have b41 : Bd v39 (0) (12) := (by rw [← ee40]; exact b32.2.2.2.1 43 (by decide))
  obtain ⟨v42, ee43⟩ : ∃ z : Int32, f30 49 = z := ⟨_, rfl⟩
  have b44 : Bd v42 (0) (40) := (by rw [← ee43]; exact b32.2.2.2.2.2.2.2 49 (by decide))
  have q45 : fld (S 0) 6 = v2.toInt := fld_of c29 rfl
  have q46 : fld (S 0) 7 = v4.toInt := fld_of c29 rfl
  have q47 : elm (S 7) 40 = v33.toInt := (elm_of c31 40).trans (congrArg Int32.toInt (ee34))
  have b48 : Bd v33 (1) (12) := ⟨by omega, (b35).2⟩
  have ef7_0 : EFp (S 7) (S 7) 0 40 := fun _ _ _ => rfl
  refine lv_aload_n hx hb dX12_line_0 rfl (lv_at hl 0 rfl) ?_
  refine lv_ldc2 (v := 1473512789) hx hb E.2.2.1 (E.2.2.2.1 _ q1688) dX12_line_1 ?_
  refine xcVi E hs hQ hml hl.1 0 (gX12_takes_0 l g ad hD S hI 1473512789 (by omega)) mX12_takes q1659 (by decide) c29 rfl rfl ⟨(Nat.le_of_ble_eq_true rfl), (Nat.le_of_ble_eq_true rfl)⟩ ⟨(Nat.le_of_ble_eq_true rfl), (Nat.le_of_ble_eq_true rfl)⟩ (Nat.le_of_ble_eq_true rfl) rfl dX12_line_4 (fun r49 S49 H locs hp49 hQ _ => ?_)
  obtain ⟨hI, o49, b49, g49_0, g49_1, g49_2, g49_3, g49_4⟩ := hp49
  obtain ⟨v50, v51, v53, v55, v57, v58, w59, v60, v62, v63, v64, v65, v67, v69, v71, v73, v75, v76, v77, c78, b52, b54, b56, b61, b66, b68, b70, b72, b74⟩ := invM_0 hI
  have c78 : S49 0 = .inr (12, [.int v50, .ref (ad 1), .ref (ad 2), .ref (ad 3), .ref (ad 4), .ref (ad 5), .int v51, .int v53, .int v55, .int v57, .int v58, .long w59, .int v60, .int v62, .int v63, .int v64, .ref (ad 6), .ref (ad 7), .ref (ad 8), .ref (ad 9), .ref (ad 10), .ref (ad 11), .ref (ad 12), .ref (ad 13), .ref (ad 14), .ref (ad 15), .int v65, .int v67, .ref (ad 16), .int v69, .int v71, .int v73, .int v75, .int v76, .ref (ad 17), .ref (ad 18), .int v77, .ref (ad 19)]) := c78
  have q79 : fld (S49 0) 6 = v51.toInt := fld_of c78 rfl
  have q80 : fld (S49 0) 7 = v53.toInt := fld_of c78 rfl
  have q81 : fld (S 0) 8 = v6.toInt := fld_of c29 rfl
  have q82 : fld (S49 0) 8 = v55.toInt := fld_of c78 rfl
  have q83 : fld (S 0) 12 = v11.toInt := fld_of c29 rfl
  have q84 : fld (S49 0) 12 = v60.toInt := fld_of c78 rfl
  refine lv_if_eq (tgt := 17) hx hb dX12_line_7 (by decide) (fun k85 => ?_) (fun k85 => ?_)
  · have h86 := ib_eq k85
    have b87 : Bd r49 (0) (0) := ⟨(b49).1, ((rf_eq b49 (by decide : Bd 0 (0) (0)) h86).1).2⟩
    clear g49_4
    refine lv_aload_n hx hb dX12_line_17 rfl (lv_at hl 0 rfl) ?_
    refine lv_ldc2 (v := 1162115) hx hb E.2.2.1 (E.2.2.2.1 _ q1706) dX12_line_18 ?_
    refine xcVi E hs hQ hml hl.1 0 (gX12_takes_0 l g ad hD S49 hI 1162115 (by omega)) mX12_takes q1659 (by decide) c78 rfl rfl ⟨(Nat.le_of_ble_eq_true rfl), (Nat.le_of_ble_eq_true rfl)⟩ ⟨(Nat.le_of_ble_eq_true rfl), (Nat.le_of_ble_eq_true rfl)⟩ (Nat.le_of_ble_eq_true rfl) rfl dX12_line_21 (fun r88 S88 H locs hp88 hQ _ => ?_)
    obtain ⟨hI, o88, b88, g88_0, g88_1, g88_2, g88_3, g88_4⟩ := hp88
    obtain ⟨v89, v90, v92, v94, v96, v97, w98, v99, v101, v102, v103, v104, v106, v108, v110, v112, v114, v115, v116, c117, b91, b93, b95, b100, b105, b107, b109, b111, b113⟩ := invM_0 hI
    have c117 : S88 0 = .inr (12, [.int v89, .ref (ad 1), .ref (ad 2), .ref (ad 3), .ref (ad 4), .ref (ad 5), .int v90, .int v92, .int v94, .int v96, .int v97, .long w98, .int v99, .int v101, .int v102, .int v103, .ref (ad 6), .ref (ad 7), .ref (ad 8), .ref (ad 9), .ref (ad 10), .ref (ad 11), .ref (ad 12), .ref (ad 13), .ref (ad 14), .ref (ad 15), .int v104, .int v106, .ref (ad 16), .int v108, .int v110, .int v112, .int v114, .int v115, .ref (ad 17), .ref (ad 18), .int v116, .ref (ad 19)]) := c117
    have q118 : fld (S88 0) 6 = v90.toInt := fld_of c117 rfl
    have q119 : fld (S88 0) 7 = v92.toInt := fld_of c117 rfl
    have q120 : fld (S88 0) 8 = v94.toInt := fld_of c117 rfl
    have q121 : fld (S88 0) 12 = v99.toInt := fld_of c117 rfl
    refine lv_if_eq (tgt := 56) hx hb dX12_line_24 (by decide) (fun k122 => ?_) (fun k122 => ?_)
    · have h123 := ib_eq k122
      have b124 : Bd r88 (0) (0) := ⟨(b88).1, ((rf_eq b88 (by decide : Bd 0 (0) (0)) h123).1).2⟩
      clear g88_4
      refine lv_aload_n hx hb dX12_line_56 rfl (lv_at hl 0 rfl) ?_
      refine lv_aload_n hx hb dX12_line_57 rfl (lv_at hl 0 rfl) ?_
      refine lv_ldc2 (v := 10793230) hx hb E.2.2.1 (E.2.2.2.1 _ q1707) dX12_line_58 ?_
      refine xcVi E hs hQ hml hl.1 0 (gX12_is_0 l g ad hD S88 hI 10793230) mX12_is q1663 (by decide) c117 rfl rfl ⟨(Nat.le_of_ble_eq_true rfl), (Nat.le_of_ble_eq_true rfl)⟩ ⟨(Nat.le_of_ble_eq_true rfl), (Nat.le_of_ble_eq_true rfl)⟩ (Nat.le_of_ble_eq_true rfl) rfl dX12_line_61 (fun r125 S125 H locs hp125 hQ _ => ?_)
      obtain ⟨rfl, b125, g125_0⟩ := hp125
      refine lv_bipush (v := 6) hx hb dX12_line_64 (by decide) ?_
      refine lv_bipush (v := 8) hx hb dX12_line_66 (by decide) ?_
      refine xcVi E hs hQ hml hl.1 0 (gX12_isRoom_6 l g ad hD S88 hI r125 b125 (by omega)) mX12_isRoom q1708 (by decide) c117 rfl rfl ⟨(Nat.le_of_ble_eq_true rfl), (Nat.le_of_ble_eq_true rfl)⟩ ⟨(Nat.le_of_ble_eq_true rfl), (Nat.le_of_ble_eq_true rfl)⟩ (Nat.le_of_ble_eq_true rfl) rfl dX12_line_68 (fun r126 S126 H locs hp126 hQ _ => ?_)
      obtain ⟨hI, o126, b126, g126_0, g126_1, g126_2, g126_3⟩ := hp126
      obtain ⟨v127, v128, v130, v132, v134, v135, w136, v137, v139, v140, v141, v142, v144, v146, v148, v150, v152, v153, v154, c155, b129, b131, b133, b138, b143, b145, b147, b149, b151⟩ := invM_0 hI
      have c155 : S126 0 = .inr (12, [.int v127, .ref (ad 1), .ref (ad 2), .ref (ad 3), .ref (ad 4), .ref (ad 5), .int v128, .int v130, .int v132, .int v134, .int v135, .long w136, .int v137, .int v139, .int v140, .int v141, .ref (ad 6), .ref (ad 7), .ref (ad 8), .ref (ad 9), .ref (ad 10), .ref (ad 11), .ref (ad 12), .ref (ad 13), .ref (ad 14), .ref (ad 15), .int v142, .int v144, .ref (ad 16), .int v146, .int v148, .int v150, .int v152, .int v153, .ref (ad 17), .ref (ad 18), .int v154, .ref (ad 19)]) := c155
      have q156 : fld (S126 0) 6 = v128.toInt := fld_of c155 rfl
      have q157 : fld (S126 0) 7 = v130.toInt := fld_of c155 rfl
      have q158 : fld (S126 0) 8 = v132.toInt := fld_of c155 rfl
      have c159 : S126 7 = .inl (g.2 0, 50, .inl f30) := ((o126 7 (by decide)).trans ((o88 7 (by decide)).trans ((o49 7 (by decide)).trans c31)))
      obtain ⟨v160, ee161⟩ : ∃ z : Int32, f30 46 = z := ⟨_, rfl⟩
      have b162 : Bd v160 (0) (8) := (by rw [← ee161]; exact b32.2.2.2.2.1 46 (by decide))
      have q163 : elm (S126 7) 46 = v160.toInt := (elm_of c159 46).trans (congrArg Int32.toInt (ee161))
      refine lv_if_eq (tgt := 81) hx hb dX12_line_71 (by decide) (fun k164 => ?_) (fun k164 => ?_)
      · have h165 := ib_eq k164
        have b166 : Bd r126 (0) (0) := ⟨(b126).1, ((rf_eq b126 (by decide : Bd 0 (0) (0)) h165).1).2⟩
        clear g126_3
        refine lv_aload_n hx hb dX12_line_81 rfl (lv_at hl 0 rfl) ?_
        refine xget E hQ 0 (by decide) c155 rfl 12 (by decide) q1480 rfl dX12_line_82 ?_
        refine lv_if_ne (tgt := 113) hx hb dX12_line_85 (by decide) (fun k167 => ?_) (fun k167 => ?_)
        · have h168 := ib_ne k167
          have b169 : Bd v137 (1) (3) := rf_nlo b138 (by decide : Bd 0 (0) (0)) h168
          refine lv_aload_n hx hb dX12_line_113 rfl (lv_at hl 0 rfl) ?_
          refine xget E hQ 0 (by decide) c155 rfl 12 (by decide) q1480 rfl dX12_line_114 ?_
          refine lv_if_ne (tgt := 179) hx hb dX12_line_117 (by decide) (fun k170 => ?_) (fun k170 => ?_)
          · have h171 := ib_ne k170
            refine lv_aload_n hx hb dX12_line_179 rfl (lv_at hl 0 rfl) ?_
            refine xget E hQ 0 (by decide) c155 rfl 12 (by decide) q1480 rfl dX12_line_180 ?_
            refine lv_if_ne (tgt := 191) hx hb dX12_line_183 (by decide) (fun k172 => ?_) (fun k172 => ?_)
            · have h173 := ib_ne k172
              have q174 : elm (S126 7) 40 = v33.toInt := (elm_of c159 40).trans (congrArg Int32.toInt (ee34))
              have q175 : elm (S 7) 41 = v36.toInt := (elm_of c31 41).trans (congrArg Int32.toInt (ee37))
              have q176 : elm (S126 7) 41 = v36.toInt := (elm_of c159 41).trans (congrArg Int32.toInt (ee37))
              have q177 : elm (S 7) 43 = v39.toInt := (elm_of c31 43).trans (congrArg Int32.toInt (ee40))
              have q178 : elm (S126 7) 43 = v39.toInt := (elm_of c159 43).trans (congrArg Int32.toInt (ee40))
              have q179 : elm (S 7) 49 = v42.toInt := (elm_of c31 49).trans (congrArg Int32.toInt (ee43))
              have q180 : elm (S126 7) 49 = v42.toInt := (elm_of c159 49).trans (congrArg Int32.toInt (ee43))
              exact xrv E hr hlk hQ (⟨hI, (o_trans (o_trans (o_trans o_refl o49 (by decide)) o88 (by decide)) o126 (by decide)), (by omega), ⟨by omega, by omega⟩, (by omega), ⟨by omega, by omega⟩, ⟨by omega, by omega⟩, ⟨by omega, by omega⟩, ⟨by omega, by omega⟩, (ef_tr ef7_0 ((o126 7 (by decide)).trans ((o88 7 (by decide)).trans (o49 7 (by decide)))))⟩) dX12_line_191
            · have h181 := ib_eq k172
              have b182 : Bd v137 (1) (0) := ⟨(b169).1, ((rf_eq b169 (by decide : Bd 0 (0) (0)) h181).1).2⟩
              exact absurd (Int.le_trans b182.1 b182.2) (by decide)
          · have h183 := ib_eq k170
            have b184 : Bd v137 (1) (0) := ⟨(b169).1, ((rf_eq b169 (by decide : Bd 0 (0) (0)) h183).1).2⟩
            exact absurd (Int.le_trans b184.1 b184.2) (by decide)
        · have h185 := ib_eq k167
          have b186 : Bd v137 (0) (0) := ⟨(b138).1, ((rf_eq b138 (by decide : Bd 0 (0) (0)) h185).1).2⟩
          refine lv_aload_n hx hb dX12_line_88 rfl (lv_at hl 0 rfl) ?_
          refine lv_aload_n hx hb dX12_line_89 rfl (lv_at hl 0 rfl) ?_
          refine lv_ldc2 (v := 369932) hx hb E.2.2.1 (E.2.2.2.1 _ q1719) dX12_line_90 ?_
          refine xcVi E hs hQ hml hl.1 0 (gX12_is_0 l g ad hD S126 hI 369932) mX12_is q1663 (by decide) c155 rfl rfl ⟨(Nat.le_of_ble_eq_true rfl), (Nat.le_of_ble_eq_true rfl)⟩ ⟨(Nat.le_of_ble_eq_true rfl), (Nat.le_of_ble_eq_true rfl)⟩ (Nat.le_of_ble_eq_true rfl) rfl dX12_line_93 (fun r187 S187 H locs hp187 hQ _ => ?_)
          obtain ⟨rfl, b187, g187_0⟩ := hp187
          have q188 : fld (S126 0) 12 = v137.toInt := fld_of c155 rfl
          refine lv_bipush (v := 7) hx hb dX12_line_96 (by decide) ?_
          refine lv_bipush (v := 6) hx hb dX12_line_98 (by decide) ?_
          refine xcVi E hs hQ hml hl.1 0 (gX12_isRoom_7 l g ad hD S126 hI r187 b187 (by omega)) mX12_isRoom q1708 (by decide) c155 rfl rfl ⟨(Nat.le_of_ble_eq_true rfl), (Nat.le_of_ble_eq_true rfl)⟩ ⟨(Nat.le_of_ble_eq_true rfl), (Nat.le_of_ble_eq_true rfl)⟩ (Nat.le_of_ble_eq_true rfl) rfl dX12_line_100 (fun r189 S189 H locs hp189 hQ _ => ?_)
          obtain ⟨hI, o189, b189, g189_0, g189_1, g189_2, g189_3⟩ := hp189
          obtain ⟨v190, v191, v193, v195, v197, v198, w199, v200, v202, v203, v204, v205, v207, v209, v211, v213, v215, v216, v217, c218, b192, b194, b196, b201, b206, b208, b210, b212, b214⟩ := invM_0 hI
          have c218 : S189 0 = .inr (12, [.int v190, .ref (ad 1), .ref (ad 2), .ref (ad 3), .ref (ad 4), .ref (ad 5), .int v191, .int v193, .int v195, .int v197, .int v198, .long w199, .int v200, .int v202, .int v203, .int v204, .ref (ad 6), .ref (ad 7), .ref (ad 8), .ref (ad 9), .ref (ad 10), .ref (ad 11), .ref (ad 12), .ref (ad 13), .ref (ad 14), .ref (ad 15), .int v205, .int v207, .ref (ad 16), .int v209, .int v211, .int v213, .int v215, .int v216, .ref (ad 17), .ref (ad 18), .int v217, .ref (ad 19)]) := c218
          have q219 : fld (S189 0) 6 = v191.toInt := fld_of c218 rfl
          have q220 : fld (S189 0) 7 = v193.toInt := fld_of c218 rfl
          have q221 : fld (S189 0) 8 = v195.toInt := fld_of c218 rfl
          have c222 : S189 7 = .inl (g.2 0, 50, .inl f30) := ((o189 7 (by decide)).trans c159)
          obtain ⟨v223, ee224⟩ : ∃ z : Int32, f30 47 = z := ⟨_, rfl⟩
          have b225 : Bd v223 (0) (6) := (by rw [← ee224]; exact b32.2.2.2.2.2.1 47 (by decide))
          have q226 : elm (S189 7) 47 = v223.toInt := (elm_of c222 47).trans (congrArg Int32.toInt (ee224))
          refine lv_if_eq (tgt := 113) hx hb dX12_line_103 (by decide) (fun k227 => ?_) (fun k227 => ?_)
          · have h228 := ib_eq k227
            have b229 : Bd r189 (0) (0) := ⟨(b189).1, ((rf_eq b189 (by decide : Bd 0 (0) (0)) h228).1).2⟩
            clear g189_3
            refine lv_aload_n hx hb dX12_line_113 rfl (lv_at hl 0 rfl) ?_
            refine xget E hQ 0 (by decide) c218 rfl 12 (by decide) q1480 rfl dX12_line_114 ?_
            refine lv_if_ne (tgt := 179) hx hb dX12_line_117 (by decide) (fun k230 => ?_) (fun k230 => ?_)
            · have h231 := ib_ne k230
              have b232 : Bd v200 (1) (3) := rf_nlo b201 (by decide : Bd 0 (0) (0)) h231
              refine lv_aload_n hx hb dX12_line_179 rfl (lv_at hl 0 rfl) ?_
              refine xget E hQ 0 (by decide) c218 rfl 12 (by decide) q1480 rfl dX12_line_180 ?_
              refine lv_if_ne (tgt := 191) hx hb dX12_line_183 (by decide) (fun k233 => ?_) (fun k233 => ?_)
              · have h234 := ib_ne k233
                have q235 : elm (S189 7) 40 = v33.toInt := (elm_of c222 40).trans (congrArg Int32.toInt (ee34))
                have q236 : elm (S 7) 41 = v36.toInt := (elm_of c31 41).trans (congrArg Int32.toInt (ee37))
                have q237 : elm (S189 7) 41 = v36.toInt := (elm_of c222 41).trans (congrArg Int32.toInt (ee37))
                have q238 : elm (S 7) 43 = v39.toInt := (elm_of c31 43).trans (congrArg Int32.toInt (ee40))
                have q239 : elm (S189 7) 43 = v39.toInt := (elm_of c222 43).trans (congrArg Int32.toInt (ee40))
                have q240 : elm (S 7) 49 = v42.toInt := (elm_of c31 49).trans (congrArg Int32.toInt (ee43))
                have q241 : elm (S189 7) 49 = v42.toInt := (elm_of c222 49).trans (congrArg Int32.toInt (ee43))
                exact xrv E hr hlk hQ (⟨hI, (o_trans (o_trans (o_trans (o_trans o_refl o49 (by decide)) o88 (by decide)) o126 (by decide)) o189 (by decide)), (by omega), ⟨by omega, by omega⟩, (by omega), ⟨by omega, by omega⟩, ⟨by omega, by omega⟩, ⟨by omega, by omega⟩, ⟨by omega, by omega⟩, (ef_tr ef7_0 ((o189 7 (by decide)).trans ((o126 7 (by decide)).trans ((o88 7 (by decide)).trans (o49 7 (by decide))))))⟩) dX12_line_191
              · have h242 := ib_eq k233
                have b243 : Bd v200 (1) (0) := ⟨(b232).1, ((rf_eq b232 (by decide : Bd 0 (0) (0)) h242).1).2⟩
                exact absurd (Int.le_trans b243.1 b243.2) (by decide)
            · have h244 := ib_eq k230
              have b245 : Bd v200 (0) (0) := ⟨(b201).1, ((rf_eq b201 (by decide : Bd 0 (0) (0)) h244).1).2⟩
              refine lv_aload_n hx hb dX12_line_120 rfl (lv_at hl 0 rfl) ?_
              refine lv_aload_n hx hb dX12_line_121 rfl (lv_at hl 0 rfl) ?_
              refine lv_ldc2 (v := 277820595) hx hb E.2.2.1 (E.2.2.2.1 _ q1730) dX12_line_122 ?_
              refine xcVi E hs hQ hml hl.1 0 (gX12_is_0 l g ad hD S189 hI 277820595) mX12_is q1663 (by decide) c218 rfl rfl ⟨(Nat.le_of_ble_eq_true rfl), (Nat.le_of_ble_eq_true rfl)⟩ ⟨(Nat.le_of_ble_eq_true rfl), (Nat.le_of_ble_eq_true rfl)⟩ (Nat.le_of_ble_eq_true rfl) rfl dX12_line_125 (fun r246 S246 H locs hp246 hQ _ => ?_)
              obtain ⟨rfl, b246, g246_0⟩ := hp246
              have q247 : fld (S189 0) 12 = v200.toInt := fld_of c218 rfl
              refine lv_bipush (v := 8) hx hb dX12_line_128 (by decide) ?_
              refine lv_iconst (v := 3) hx hb dX12_line_130 (by decide) ?_
              refine xcVi E hs hQ hml hl.1 0 (gX12_isRoom_8 l g ad hD S189 hI r246 b246 (by omega)) mX12_isRoom q1708 (by decide) c218 rfl rfl ⟨(Nat.le_of_ble_eq_true rfl), (Nat.le_of_ble_eq_true rfl)⟩ ⟨(Nat.le_of_ble_eq_true rfl), (Nat.le_of_ble_eq_true rfl)⟩ (Nat.le_of_ble_eq_true rfl) rfl dX12_line_131 (fun r248 S248 H locs hp248 hQ _ => ?_)
              obtain ⟨hI, o248, b248, g248_0, g248_1, g248_2, g248_3⟩ := hp248
              obtain ⟨v249, v250, v252, v254, v256, v257, w258, v259, v261, v262, v263, v264, v266, v268, v270, v272, v274, v275, v276, c277, b251, b253, b255, b260, b265, b267, b269, b271, b273⟩ := invM_0 hI
              have c277 : S248 0 = .inr (12, [.int v249, .ref (ad 1), .ref (ad 2), .ref (ad 3), .ref (ad 4), .ref (ad 5), .int v250, .int v252, .int v254, .int v256, .int v257, .long w258, .int v259, .int v261, .int v262, .int v263, .ref (ad 6), .ref (ad 7), .ref (ad 8), .ref (ad 9), .ref (ad 10), .ref (ad 11), .ref (ad 12), .ref (ad 13), .ref (ad 14), .ref (ad 15), .int v264, .int v266, .ref (ad 16), .int v268, .int v270, .int v272, .int v274, .int v275, .ref (ad 17), .ref (ad 18), .int v276, .ref (ad 19)]) := c277
              have q278 : fld (S248 0) 6 = v250.toInt := fld_of c277 rfl
              have q279 : fld (S248 0) 7 = v252.toInt := fld_of c277 rfl
              have q280 : fld (S248 0) 8 = v254.toInt := fld_of c277 rfl
              have c281 : S248 7 = .inl (g.2 0, 50, .inl f30) := ((o248 7 (by decide)).trans c222)
              obtain ⟨v282, ee283⟩ : ∃ z : Int32, f30 48 = z := ⟨_, rfl⟩
              have b284 : Bd v282 (0) (3) := (by rw [← ee283]; exact b32.2.2.2.2.2.2.1 48 (by decide))
              have q285 : elm (S248 7) 48 = v282.toInt := (elm_of c281 48).trans (congrArg Int32.toInt (ee283))
              refine lv_if_eq (tgt := 179) hx hb dX12_line_134 (by decide) (fun k286 => ?_) (fun k286 => ?_)
              · have h287 := ib_eq k286
                have b288 : Bd r248 (0) (0) := ⟨(b248).1, ((rf_eq b248 (by decide : Bd 0 (0) (0)) h287).1).2⟩
                clear g248_3
                refine lv_aload_n hx hb dX12_line_179 rfl (lv_at hl 0 rfl) ?_
                refine xget E hQ 0 (by decide) c277 rfl 12 (by decide) q1480 rfl dX12_line_180 ?_
                refine lv_if_ne (tgt := 191) hx hb dX12_line_183 (by decide) (fun k289 => ?_) (fun k289 => ?_)
                · have h290 := ib_ne k289
                  have b291 : Bd v259 (1) (3) := rf_nlo b260 (by decide : Bd 0 (0) (0)) h290
                  have q292 : elm (S248 7) 40 = v33.toInt := (elm_of c281 40).trans (congrArg Int32.toInt (ee34))
                  have q293 : elm (S 7) 41 = v36.toInt := (elm_of c31 41).trans (congrArg Int32.toInt (ee37))
                  have q294 : elm (S248 7) 41 = v36.toInt := (elm_of c281 41).trans (congrArg Int32.toInt (ee37))
                  have q295 : elm (S 7) 43 = v39.toInt := (elm_of c31 43).trans (congrArg Int32.toInt (ee40))
                  have q296 : elm (S248 7) 43 = v39.toInt := (elm_of c281 43).trans (congrArg Int32.toInt (ee40))
                  have q297 : elm (S 7) 49 = v42.toInt := (elm_of c31 49).trans (congrArg Int32.toInt (ee43))
                  have q298 : elm (S248 7) 49 = v42.toInt := (elm_of c281 49).trans (congrArg Int32.toInt (ee43))
                  exact xrv E hr hlk hQ (⟨hI, (o_trans (o_trans (o_trans (o_trans (o_trans o_refl o49 (by decide)) o88 (by decide)) o126 (by decide)) o189 (by decide)) o248 (by decide)), (by omega), ⟨by omega, by omega⟩, (by omega), ⟨by omega, by omega⟩, ⟨by omega, by omega⟩, ⟨by omega, by omega⟩, ⟨by omega, by omega⟩, (ef_tr ef7_0 ((o248 7 (by decide)).trans ((o189 7 (by decide)).trans ((o126 7 (by decide)).trans ((o88 7 (by decide)).trans (o49 7 (by decide)))))))⟩) dX12_line_191
                · have h299 := ib_eq k289
                  have b300 : Bd v259 (0) (0) := ⟨(b260).1, ((rf_eq b260 (by decide : Bd 0 (0) (0)) h299).1).2⟩
                  refine lv_aload_n hx hb dX12_line_186 rfl (lv_at hl 0 rfl) ?_
                  refine lv_iconst (v := 1) hx hb dX12_line_187 (by decide) ?_
                  refine xcVv E hs hQ hml hl.1 0 (gX12_fails_0 l g ad hD S248 hI 1 (ib_wk (by decide : Bd 1 (1) (1)) (by decide) (by decide))) mX12_fails q1667 (by decide) c277 rfl rfl ⟨(Nat.le_of_ble_eq_true rfl), (Nat.le_of_ble_eq_true rfl)⟩ ⟨(Nat.le_of_ble_eq_true rfl), (Nat.le_of_ble_eq_true rfl)⟩ (Nat.le_of_ble_eq_true rfl) rfl dX12_line_188 (fun S301 H locs hp301 hQ _ => ?_)
                  obtain ⟨hI, o301, g301_0, g301_1, g301_2, g301_3⟩ := hp301
                  obtain ⟨v302, v303, v305, v307, v309, v310, w311, v312, v314, v315, v316, v317, v319, v321, v323, v325, v327, v328, v329, c330, b304, b306, b308, b313, b318, b320, b322, b324, b326⟩ := invM_0 hI
                  have c330 : S301 0 = .inr (12, [.int v302, .ref (ad 1), .ref (ad 2), .ref (ad 3), .ref (ad 4), .ref (ad 5), .int v303, .int v305, .int v307, .int v309, .int v310, .long w311, .int v312, .int v314, .int v315, .int v316, .ref (ad 6), .ref (ad 7), .ref (ad 8), .ref (ad 9), .ref (ad 10), .ref (ad 11), .ref (ad 12), .ref (ad 13), .ref (ad 14), .ref (ad 15), .int v317, .int v319, .ref (ad 16), .int v321, .int v323, .int v325, .int v327, .int v328, .ref (ad 17), .ref (ad 18), .int v329, .ref (ad 19)]) := c330
                  have q331 : fld (S301 0) 12 = v312.toInt := fld_of c330 rfl
                  have b332 : Bd v312 (1) (3) := ⟨by omega, (b313).2⟩
                  have q333 : fld (S301 0) 6 = v303.toInt := fld_of c330 rfl
                  have q334 : fld (S301 0) 7 = v305.toInt := fld_of c330 rfl
                  have q335 : fld (S301 0) 8 = v307.toInt := fld_of c330 rfl
                  have c336 : S301 7 = .inl (g.2 0, 50, .inl f30) := ((o301 7 (by decide)).trans c281)
                  have q337 : elm (S301 7) 40 = v33.toInt := (elm_of c336 40).trans (congrArg Int32.toInt (ee34))
                  have q338 : elm (S 7) 41 = v36.toInt := (elm_of c31 41).trans (congrArg Int32.toInt (ee37))
                  have q339 : elm (S301 7) 41 = v36.toInt := (elm_of c336 41).trans (congrArg Int32.toInt (ee37))
                  have q340 : elm (S 7) 43 = v39.toInt := (elm_of c31 43).trans (congrArg Int32.toInt (ee40))
                  have q341 : elm (S301 7) 43 = v39.toInt := (elm_of c336 43).trans (congrArg Int32.toInt (ee40))
                  have q342 : elm (S 7) 49 = v42.toInt := (elm_of c31 49).trans (congrArg Int32.toInt (ee43))
                  have q343 : elm (S301 7) 49 = v42.toInt := (elm_of c336 49).trans (congrArg Int32.toInt (ee43))
                  exact xrv E hr hlk hQ (⟨hI, (o_trans (o_trans (o_trans (o_trans (o_trans (o_trans o_refl o49 (by decide)) o88 (by decide)) o126 (by decide)) o189 (by decide)) o248 (by decide)) o301 (by decide)), (by omega), ⟨by omega, by omega⟩, (by omega), ⟨by omega, by omega⟩, ⟨by omega, by omega⟩, ⟨by omega, by omega⟩, ⟨by omega, by omega⟩, (ef_tr ef7_0 ((o301 7 (by decide)).trans ((o248 7 (by decide)).trans ((o189 7 (by decide)).trans ((o126 7 (by decide)).trans ((o88 7 (by decide)).trans (o49 7 (by decide))))))))⟩) dX12_line_191
              · have h344 := ib_ne k286
                have b345 : Bd r248 (1) (1) := rf_nlo b248 (by decide : Bd 0 (0) (0)) h344
                have g346 := g248_3.resolve_left (by omega)
                clear g248_3
                have b347 : Bd v282 (0) (2) := ⟨(b284).1, by omega⟩
                refine lv_aload_n hx hb dX12_line_137 rfl (lv_at hl 0 rfl) ?_
                refine lv_ldc2 (v := 47) hx hb E.2.2.1 (E.2.2.2.1 _ q1717) dX12_line_138 ?_
                refine xcVv E hs hQ hml hl.1 0 (gX12_asks_0 l g ad hD S248 hI 47 (by omega)) mX12_asks q1655 (by decide) c277 rfl rfl ⟨(Nat.le_of_ble_eq_true rfl), (Nat.le_of_ble_eq_true rfl)⟩ ⟨(Nat.le_of_ble_eq_true rfl), (Nat.le_of_ble_eq_true rfl)⟩ (Nat.le_of_ble_eq_true rfl) rfl dX12_line_141 (fun S348 H locs hp348 hQ _ => ?_)
                obtain ⟨hI, o348, g348_0, g348_1, g348_2⟩ := hp348
                obtain ⟨v349, v350, v352, v354, v356, v357, w358, v359, v361, v362, v363, v364, v366, v368, v370, v372, v374, v375, v376, c377, b351, b353, b355, b360, b365, b367, b369, b371, b373⟩ := invM_0 hI
                have c377 : S348 0 = .inr (12, [.int v349, .ref (ad 1), .ref (ad 2), .ref (ad 3), .ref (ad 4), .ref (ad 5), .int v350, .int v352, .int v354, .int v356, .int v357, .long w358, .int v359, .int v361, .int v362, .int v363, .ref (ad 6), .ref (ad 7), .ref (ad 8), .ref (ad 9), .ref (ad 10), .ref (ad 11), .ref (ad 12), .ref (ad 13), .ref (ad 14), .ref (ad 15), .int v364, .int v366, .ref (ad 16), .int v368, .int v370, .int v372, .int v374, .int v375, .ref (ad 17), .ref (ad 18), .int v376, .ref (ad 19)]) := c377
                have q378 : fld (S348 0) 6 = v350.toInt := fld_of c377 rfl
                have q379 : fld (S348 0) 7 = v352.toInt := fld_of c377 rfl
                have q380 : fld (S348 0) 8 = v354.toInt := fld_of c377 rfl
                refine lv_aload_n hx hb dX12_line_144 rfl (lv_at hl 0 rfl) ?_
                refine xget E hQ 0 (by decide) c377 rfl 21 (by decide) q1489 rfl dX12_line_145 ?_
                refine lv_bipush (v := 12) hx hb dX12_line_148 (by decide) ?_
                refine lv_aload_n hx hb dX12_line_150 rfl (lv_at hl 0 rfl) ?_
                refine lv_bipush (v := 8) hx hb dX12_line_151 (by decide) ?_
                have c381 : S348 7 = .inl (g.2 0, 50, .inl f30) := ((o348 7 (by decide)).trans c281)
                refine xcVi E hs hQ hml hl.1 0 (gX12_hasRead_8 l g ad hD S348 hI ) mX12_hasRead q1697 (by decide) c377 rfl rfl ⟨(Nat.le_of_ble_eq_true rfl), (Nat.le_of_ble_eq_true rfl)⟩ ⟨(Nat.le_of_ble_eq_true rfl), (Nat.le_of_ble_eq_true rfl)⟩ (Nat.le_of_ble_eq_true rfl) rfl dX12_line_153 (fun r382 S382 H locs hp382 hQ _ => ?_)
                obtain ⟨rfl, b382, g382_0⟩ := hp382
                have q383 : elm (S348 7) 48 = v282.toInt := (elm_of c381 48).trans (congrArg Int32.toInt (ee283))
                have b384 : Bd r382 (0) (2) := ⟨(b382).1, by omega⟩
                refine lv_iadd hx hb dX12_line_156 ?_
                refine lv_topi (fun z385 e386 => ?_)
                have t387 := ib_add e386 (by decide : Bd 12 (12) (12)) b384 (by decide) (by decide)
                have b388 : Bd z385 (12) (14) := ib_addb t387 (by decide : Bd 12 (12) (12)) b384
                have t387 : z385.toInt = 12 + r382.toInt := fold_add t387 (by decide) rfl
                refine lv_aload_n hx hb dX12_line_157 rfl (lv_at hl 0 rfl) ?_
                refine xcVi E hs hQ hml hl.1 0 (gX12_cellHere_0 l g ad hD S348 hI (by omega)) mX12_cellHere q1693 (by decide) c377 rfl rfl ⟨(Nat.le_of_ble_eq_true rfl), (Nat.le_of_ble_eq_true rfl)⟩ ⟨(Nat.le_of_ble_eq_true rfl), (Nat.le_of_ble_eq_true rfl)⟩ (Nat.le_of_ble_eq_true rfl) rfl dX12_line_158 (fun r389 S389 H locs hp389 hQ _ => ?_)
                obtain ⟨hI, o389, b389, g389_0, g389_1, g389_2⟩ := hp389
                obtain ⟨v390, v391, v393, v395, v397, v398, w399, v400, v402, v403, v404, v405, v407, v409, v411, v413, v415, v416, v417, c418, b392, b394, b396, b401, b406, b408, b410, b412, b414⟩ := invM_0 hI
                have c418 : S389 0 = .inr (12, [.int v390, .ref (ad 1), .ref (ad 2), .ref (ad 3), .ref (ad 4), .ref (ad 5), .int v391, .int v393, .int v395, .int v397, .int v398, .long w399, .int v400, .int v402, .int v403, .int v404, .ref (ad 6), .ref (ad 7), .ref (ad 8), .ref (ad 9), .ref (ad 10), .ref (ad 11), .ref (ad 12), .ref (ad 13), .ref (ad 14), .ref (ad 15), .int v405, .int v407, .ref (ad 16), .int v409, .int v411, .int v413, .int v415, .int v416, .ref (ad 17), .ref (ad 18), .int v417, .ref (ad 19)]) := c418
                have q419 : fld (S389 0) 6 = v391.toInt := fld_of c418 rfl
                have q420 : fld (S389 0) 7 = v393.toInt := fld_of c418 rfl
                have q421 : fld (S389 0) 8 = v395.toInt := fld_of c418 rfl
                obtain ⟨f422, c423, b424⟩ := invM_11 hI
                refine xiast E hs hQ 11 (by decide) c423 (ib_in b388 (by decide) (by decide)) dX12_line_161 (fun H locs S425 eS425 hQ => ?_)
                have hI := invM_up_11 hI eS425 ⟨_, rfl, upd_b b424 b389⟩
                have b427 : ∀ j, Bd ((upd f422 (z385 : Int32).toNatClampNeg r389) j) (0) (11) := upd_b b424 b389
                have c426 : S425 11 = .inl (g.2 0, 15, .inl (upd f422 (z385 : Int32).toNatClampNeg r389)) := up_at eS425 rfl
                refine lv_aload_n hx hb dX12_line_162 rfl (lv_at hl 0 rfl) ?_
                refine lv_bipush (v := 8) hx hb dX12_line_163 (by decide) ?_
                refine lv_aload_n hx hb dX12_line_165 rfl (lv_at hl 0 rfl) ?_
                refine lv_bipush (v := 8) hx hb dX12_line_166 (by decide) ?_
                have c428 : S425 7 = .inl (g.2 0, 50, .inl f30) := (up_ne eS425 (by decide) ((o389 7 (by decide)).trans c381))
                have c430 : S425 0 = .inr (12, [.int v390, .ref (ad 1), .ref (ad 2), .ref (ad 3), .ref (ad 4), .ref (ad 5), .int v391, .int v393, .int v395, .int v397, .int v398, .long w399, .int v400, .int v402, .int v403, .int v404, .ref (ad 6), .ref (ad 7), .ref (ad 8), .ref (ad 9), .ref (ad 10), .ref (ad 11), .ref (ad 12), .ref (ad 13), .ref (ad 14), .ref (ad 15), .int v405, .int v407, .ref (ad 16), .int v409, .int v411, .int v413, .int v415, .int v416, .ref (ad 17), .ref (ad 18), .int v417, .ref (ad 19)]) := (up_ne eS425 (by decide) c418)
                refine xcVi E hs hQ hml hl.1 0 (gX12_hasRead_8 l g ad hD S425 hI ) mX12_hasRead q1697 (by decide) c430 rfl rfl ⟨(Nat.le_of_ble_eq_true rfl), (Nat.le_of_ble_eq_true rfl)⟩ ⟨(Nat.le_of_ble_eq_true rfl), (Nat.le_of_ble_eq_true rfl)⟩ (Nat.le_of_ble_eq_true rfl) rfl dX12_line_168 (fun r429 S429 H locs hp429 hQ _ => ?_)
                obtain ⟨rfl, b429, g429_0⟩ := hp429
                have q431 : elm (S425 7) 48 = v282.toInt := (elm_of c428 48).trans (congrArg Int32.toInt (ee283))
                have b432 : Bd r429 (0) (2) := ⟨(b429).1, by omega⟩
                refine lv_iconst (v := 1) hx hb dX12_line_171 (by decide) ?_
                refine lv_iadd hx hb dX12_line_172 ?_
                refine lv_topi (fun z433 e434 => ?_)
                have t435 := ib_add e434 b432 (by decide : Bd 1 (1) (1)) (by decide) (by decide)
                have b436 : Bd z433 (1) (3) := ib_addb t435 b432 (by decide : Bd 1 (1) (1))
                have t435 : z433.toInt = r429.toInt + 1 := fold_add t435 rfl (by decide)
                refine xcVv E hs hQ hml hl.1 0 (gX12_tells_8 l g ad hD S425 hI z433 (ib_wk b436 (by decide) (by decide))) mX12_tells q1629 (by decide) c430 rfl rfl ⟨(Nat.le_of_ble_eq_true rfl), (Nat.le_of_ble_eq_true rfl)⟩ ⟨(Nat.le_of_ble_eq_true rfl), (Nat.le_of_ble_eq_true rfl)⟩ (Nat.le_of_ble_eq_true rfl) rfl dX12_line_173 (fun S437 H locs hp437 hQ _ => ?_)
                obtain ⟨hI, o437, g437_0, g437_1, g437_2, g437_3, g437_4, g437_5, g437_6, ef437_7⟩ := hp437
                have ef438 : EFp (S437 7) (S 7) 0 40 := ef_tt ef437_7 (ef_tr ef7_0 ((up_eq (j := 7) eS425 (by decide)).trans ((o389 7 (by decide)).trans ((o348 7 (by decide)).trans ((o248 7 (by decide)).trans ((o189 7 (by decide)).trans ((o126 7 (by decide)).trans ((o88 7 (by decide)).trans (o49 7 (by decide))))))))))
                obtain ⟨f439, c440, b441⟩ := invM_7 hI
                obtain ⟨v442, ee443⟩ : ∃ z : Int32, f439 48 = z := ⟨_, rfl⟩
                have b444 : Bd v442 (0) (3) := (by rw [← ee443]; exact b441.2.2.2.2.2.2.1 48 (by decide))
                have q445 : elm (S437 7) 48 = v442.toInt := (elm_of c440 48).trans (congrArg Int32.toInt (ee443))
                have b446 : Bd v442 (1) (3) := ⟨by omega, (b444).2⟩
                have q447 : elm (S425 7) 40 = v33.toInt := (elm_of c428 40).trans (congrArg Int32.toInt (ee34))
                obtain ⟨v448, ee449⟩ : ∃ z : Int32, f439 40 = z := ⟨_, rfl⟩
                have b450 : Bd v448 (0) (12) := (by rw [← ee449]; exact b441.1 40 (by decide))
                have q451 : elm (S437 7) 40 = v448.toInt := (elm_of c440 40).trans (congrArg Int32.toInt (ee449))
                have b452 : Bd v448 (1) (12) := ⟨by omega, (b450).2⟩
                have q453 : elm (S425 7) 41 = v36.toInt := (elm_of c428 41).trans (congrArg Int32.toInt (ee37))
                obtain ⟨v454, ee455⟩ : ∃ z : Int32, f439 41 = z := ⟨_, rfl⟩
                have b456 : Bd v454 (0) (12) := (by rw [← ee455]; exact b441.2.1 41 (by decide))
                have q457 : elm (S437 7) 41 = v454.toInt := (elm_of c440 41).trans (congrArg Int32.toInt (ee455))
                have q458 : elm (S425 7) 43 = v39.toInt := (elm_of c428 43).trans (congrArg Int32.toInt (ee40))
                obtain ⟨v459, ee460⟩ : ∃ z : Int32, f439 43 = z := ⟨_, rfl⟩
                have b461 : Bd v459 (0) (12) := (by rw [← ee460]; exact b441.2.2.2.1 43 (by decide))
                have q462 : elm (S437 7) 43 = v459.toInt := (elm_of c440 43).trans (congrArg Int32.toInt (ee460))
                have q463 : elm (S425 7) 46 = v160.toInt := (elm_of c428 46).trans (congrArg Int32.toInt (ee161))
                obtain ⟨v464, ee465⟩ : ∃ z : Int32, f439 46 = z := ⟨_, rfl⟩
                have b466 : Bd v464 (0) (8) := (by rw [← ee465]; exact b441.2.2.2.2.1 46 (by decide))
                have q467 : elm (S437 7) 46 = v464.toInt := (elm_of c440 46).trans (congrArg Int32.toInt (ee465))
                have q468 : elm (S425 7) 47 = v223.toInt := (elm_of c428 47).trans (congrArg Int32.toInt (ee224))
                obtain ⟨v469, ee470⟩ : ∃ z : Int32, f439 47 = z := ⟨_, rfl⟩
                have b471 : Bd v469 (0) (6) := (by rw [← ee470]; exact b441.2.2.2.2.2.1 47 (by decide))
                have q472 : elm (S437 7) 47 = v469.toInt := (elm_of c440 47).trans (congrArg Int32.toInt (ee470))
                have q473 : elm (S425 7) 49 = v42.toInt := (elm_of c428 49).trans (congrArg Int32.toInt (ee43))
                obtain ⟨v474, ee475⟩ : ∃ z : Int32, f439 49 = z := ⟨_, rfl⟩
                have b476 : Bd v474 (0) (40) := (by rw [← ee475]; exact b441.2.2.2.2.2.2.2 49 (by decide))
                have q477 : elm (S437 7) 49 = v474.toInt := (elm_of c440 49).trans (congrArg Int32.toInt (ee475))
                refine lv_goto (tgt := 191) hx hb dX12_line_176 (by decide) ?_
                have c478 : S437 0 = .inr (12, [.int v390, .ref (ad 1), .ref (ad 2), .ref (ad 3), .ref (ad 4), .ref (ad 5), .int v391, .int v393, .int v395, .int v397, .int v398, .long w399, .int v400, .int v402, .int v403, .int v404, .ref (ad 6), .ref (ad 7), .ref (ad 8), .ref (ad 9), .ref (ad 10), .ref (ad 11), .ref (ad 12), .ref (ad 13), .ref (ad 14), .ref (ad 15), .int v405, .int v407, .ref (ad 16), .int v409, .int v411, .int v413, .int v415, .int v416, .ref (ad 17), .ref (ad 18), .int v417, .ref (ad 19)]) := ((o437 0 (by decide)).trans c430)
                have q479 : fld (S437 0) 6 = v391.toInt := fld_of c478 rfl
                have q480 : fld (S437 0) 7 = v393.toInt := fld_of c478 rfl
                have q481 : fld (S437 0) 8 = v395.toInt := fld_of c478 rfl
                have q482 : elm (S 7) 41 = v36.toInt := (elm_of c31 41).trans (congrArg Int32.toInt (ee37))
                have q483 : elm (S 7) 43 = v39.toInt := (elm_of c31 43).trans (congrArg Int32.toInt (ee40))
                have q484 : elm (S 7) 49 = v42.toInt := (elm_of c31 49).trans (congrArg Int32.toInt (ee43))
                exact xrv E hr hlk hQ (⟨hI, (o_trans (up_o (o_trans (o_trans (o_trans (o_trans (o_trans (o_trans (o_trans o_refl o49 (by decide)) o88 (by decide)) o126 (by decide)) o189 (by decide)) o248 (by decide)) o348 (by decide)) o389 (by decide)) eS425 (by decide)) o437 (by decide)), (by omega), ⟨by omega, by omega⟩, (by omega), ⟨by omega, by omega⟩, ⟨by omega, by omega⟩, ⟨by omega, by omega⟩, ⟨by omega, by omega⟩, ef438⟩) dX12_line_191
          · have h485 := ib_ne k227
            have b486 : Bd r189 (1) (1) := rf_nlo b189 (by decide : Bd 0 (0) (0)) h485
            have g487 := g189_3.resolve_left (by omega)
            clear g189_3
            have b488 : Bd v223 (0) (5) := ⟨(b225).1, by omega⟩
            refine lv_aload_n hx hb dX12_line_106 rfl (lv_at hl 0 rfl) ?_
            obtain ⟨v489, ee490⟩ : ∃ z : Int32, f30 48 = z := ⟨_, rfl⟩
            have b491 : Bd v489 (0) (3) := (by rw [← ee490]; exact b32.2.2.2.2.2.2.1 48 (by decide))
            refine xcVv E hs hQ hml hl.1 0 (gX12_ruleLine_0 l g ad hD S189 hI (by omega) (by omega)) mX12_ruleLine q1720 (by decide) c218 rfl rfl ⟨(Nat.le_of_ble_eq_true rfl), (Nat.le_of_ble_eq_true rfl)⟩ ⟨(Nat.le_of_ble_eq_true rfl), (Nat.le_of_ble_eq_true rfl)⟩ (Nat.le_of_ble_eq_true rfl) rfl dX12_line_107 (fun S492 H locs hp492 hQ _ => ?_)
            obtain ⟨hI, o492, g492_0, g492_1, g492_2, g492_3, g492_4, g492_5, g492_6, g492_7, g492_8, ef492_7⟩ := hp492
            have ef493 : EFp (S492 7) (S 7) 0 40 := ef_tt ef492_7 (ef_tr ef7_0 ((o189 7 (by decide)).trans ((o126 7 (by decide)).trans ((o88 7 (by decide)).trans (o49 7 (by decide))))))
            obtain ⟨v494, v495, v497, v499, v501, v502, w503, v504, v506, v507, v508, v509, v511, v513, v515, v517, v519, v520, v521, c522, b496, b498, b500, b505, b510, b512, b514, b516, b518⟩ := invM_0 hI
            have c522 : S492 0 = .inr (12, [.int v494, .ref (ad 1), .ref (ad 2), .ref (ad 3), .ref (ad 4), .ref (ad 5), .int v495, .int v497, .int v499, .int v501, .int v502, .long w503, .int v504, .int v506, .int v507, .int v508, .ref (ad 6), .ref (ad 7), .ref (ad 8), .ref (ad 9), .ref (ad 10), .ref (ad 11), .ref (ad 12), .ref (ad 13), .ref (ad 14), .ref (ad 15), .int v509, .int v511, .ref (ad 16), .int v513, .int v515, .int v517, .int v519, .int v520, .ref (ad 17), .ref (ad 18), .int v521, .ref (ad 19)]) := c522
            have q523 : fld (S492 0) 6 = v495.toInt := fld_of c522 rfl
            have q524 : fld (S492 0) 7 = v497.toInt := fld_of c522 rfl
            have q525 : fld (S492 0) 8 = v499.toInt := fld_of c522 rfl
            have q526 : elm (S189 7) 40 = v33.toInt := (elm_of c222 40).trans (congrArg Int32.toInt (ee34))
            obtain ⟨f527, c528, b529⟩ := invM_7 hI
            obtain ⟨v530, ee531⟩ : ∃ z : Int32, f527 40 = z := ⟨_, rfl⟩
            have b532 : Bd v530 (0) (12) := (by rw [← ee531]; exact b529.1 40 (by decide))
            have q533 : elm (S492 7) 40 = v530.toInt := (elm_of c528 40).trans (congrArg Int32.toInt (ee531))
            have b534 : Bd v530 (1) (12) := ⟨by omega, (b532).2⟩
            have q535 : elm (S189 7) 41 = v36.toInt := (elm_of c222 41).trans (congrArg Int32.toInt (ee37))
            obtain ⟨v536, ee537⟩ : ∃ z : Int32, f527 41 = z := ⟨_, rfl⟩
            have b538 : Bd v536 (0) (12) := (by rw [← ee537]; exact b529.2.1 41 (by decide))
            have q539 : elm (S492 7) 41 = v536.toInt := (elm_of c528 41).trans (congrArg Int32.toInt (ee537))
            have q540 : elm (S189 7) 43 = v39.toInt := (elm_of c222 43).trans (congrArg Int32.toInt (ee40))
            obtain ⟨v541, ee542⟩ : ∃ z : Int32, f527 43 = z := ⟨_, rfl⟩
            have b543 : Bd v541 (0) (12) := (by rw [← ee542]; exact b529.2.2.2.1 43 (by decide))
            have q544 : elm (S492 7) 43 = v541.toInt := (elm_of c528 43).trans (congrArg Int32.toInt (ee542))
            have q545 : elm (S189 7) 46 = v160.toInt := (elm_of c222 46).trans (congrArg Int32.toInt (ee161))
            obtain ⟨v546, ee547⟩ : ∃ z : Int32, f527 46 = z := ⟨_, rfl⟩
            have b548 : Bd v546 (0) (8) := (by rw [← ee547]; exact b529.2.2.2.2.1 46 (by decide))
            have q549 : elm (S492 7) 46 = v546.toInt := (elm_of c528 46).trans (congrArg Int32.toInt (ee547))
            have q550 : elm (S189 7) 48 = v489.toInt := (elm_of c222 48).trans (congrArg Int32.toInt (ee490))
            obtain ⟨v551, ee552⟩ : ∃ z : Int32, f527 48 = z := ⟨_, rfl⟩
            have b553 : Bd v551 (0) (3) := (by rw [← ee552]; exact b529.2.2.2.2.2.2.1 48 (by decide))
            have q554 : elm (S492 7) 48 = v551.toInt := (elm_of c528 48).trans (congrArg Int32.toInt (ee552))
            have q555 : elm (S189 7) 49 = v42.toInt := (elm_of c222 49).trans (congrArg Int32.toInt (ee43))
            obtain ⟨v556, ee557⟩ : ∃ z : Int32, f527 49 = z := ⟨_, rfl⟩
            have b558 : Bd v556 (0) (40) := (by rw [← ee557]; exact b529.2.2.2.2.2.2.2 49 (by decide))
            have q559 : elm (S492 7) 49 = v556.toInt := (elm_of c528 49).trans (congrArg Int32.toInt (ee557))
            refine lv_goto (tgt := 191) hx hb dX12_line_110 (by decide) ?_
            have q560 : elm (S 7) 41 = v36.toInt := (elm_of c31 41).trans (congrArg Int32.toInt (ee37))
            have q561 : elm (S 7) 43 = v39.toInt := (elm_of c31 43).trans (congrArg Int32.toInt (ee40))
            have q562 : elm (S 7) 49 = v42.toInt := (elm_of c31 49).trans (congrArg Int32.toInt (ee43))
            exact xrv E hr hlk hQ (⟨hI, (o_trans (o_trans (o_trans (o_trans (o_trans o_refl o49 (by decide)) o88 (by decide)) o126 (by decide)) o189 (by decide)) o492 (by decide)), (by omega), ⟨by omega, by omega⟩, (by omega), ⟨by omega, by omega⟩, ⟨by omega, by omega⟩, ⟨by omega, by omega⟩, ⟨by omega, by omega⟩, ef493⟩) dX12_line_191
      · have h563 := ib_ne k164
        have b564 : Bd r126 (1) (1) := rf_nlo b126 (by decide : Bd 0 (0) (0)) h563
        have g565 := g126_3.resolve_left (by omega)
        clear g126_3
        have b566 : Bd v160 (0) (7) := ⟨(b162).1, by omega⟩
        refine lv_aload_n hx hb dX12_line_74 rfl (lv_at hl 0 rfl) ?_
        obtain ⟨v567, ee568⟩ : ∃ z : Int32, f30 47 = z := ⟨_, rfl⟩
        have b569 : Bd v567 (0) (6) := (by rw [← ee568]; exact b32.2.2.2.2.2.1 47 (by decide))
        obtain ⟨v570, ee571⟩ : ∃ z : Int32, f30 48 = z := ⟨_, rfl⟩
        have b572 : Bd v570 (0) (3) := (by rw [← ee571]; exact b32.2.2.2.2.2.2.1 48 (by decide))
        refine xcVv E hs hQ hml hl.1 0 (gX12_thingLine_0 l g ad hD S126 hI (by omega) (by omega)) mX12_thingLine q1712 (by decide) c155 rfl rfl ⟨(Nat.le_of_ble_eq_true rfl), (Nat.le_of_ble_eq_true rfl)⟩ ⟨(Nat.le_of_ble_eq_true rfl), (Nat.le_of_ble_eq_true rfl)⟩ (Nat.le_of_ble_eq_true rfl) rfl dX12_line_75 (fun S573 H locs hp573 hQ _ => ?_)
        obtain ⟨hI, o573, g573_0, g573_1, g573_2, g573_3, g573_4, g573_5, g573_6, g573_7, g573_8, ef573_7⟩ := hp573
        have ef574 : EFp (S573 7) (S 7) 0 40 := ef_tt ef573_7 (ef_tr ef7_0 ((o126 7 (by decide)).trans ((o88 7 (by decide)).trans (o49 7 (by decide)))))
        obtain ⟨v575, v576, v578, v580, v582, v583, w584, v585, v587, v588, v589, v590, v592, v594, v596, v598, v600, v601, v602, c603, b577, b579, b581, b586, b591, b593, b595, b597, b599⟩ := invM_0 hI
        have c603 : S573 0 = .inr (12, [.int v575, .ref (ad 1), .ref (ad 2), .ref (ad 3), .ref (ad 4), .ref (ad 5), .int v576, .int v578, .int v580, .int v582, .int v583, .long w584, .int v585, .int v587, .int v588, .int v589, .ref (ad 6), .ref (ad 7), .ref (ad 8), .ref (ad 9), .ref (ad 10), .ref (ad 11), .ref (ad 12), .ref (ad 13), .ref (ad 14), .ref (ad 15), .int v590, .int v592, .ref (ad 16), .int v594, .int v596, .int v598, .int v600, .int v601, .ref (ad 17), .ref (ad 18), .int v602, .ref (ad 19)]) := c603
        have q604 : fld (S573 0) 6 = v576.toInt := fld_of c603 rfl
        have q605 : fld (S573 0) 7 = v578.toInt := fld_of c603 rfl
        have q606 : fld (S573 0) 8 = v580.toInt := fld_of c603 rfl
        have q607 : elm (S126 7) 40 = v33.toInt := (elm_of c159 40).trans (congrArg Int32.toInt (ee34))
        obtain ⟨f608, c609, b610⟩ := invM_7 hI
        obtain ⟨v611, ee612⟩ : ∃ z : Int32, f608 40 = z := ⟨_, rfl⟩
        have b613 : Bd v611 (0) (12) := (by rw [← ee612]; exact b610.1 40 (by decide))
        have q614 : elm (S573 7) 40 = v611.toInt := (elm_of c609 40).trans (congrArg Int32.toInt (ee612))
        have b615 : Bd v611 (1) (12) := ⟨by omega, (b613).2⟩
        have q616 : elm (S126 7) 41 = v36.toInt := (elm_of c159 41).trans (congrArg Int32.toInt (ee37))
        obtain ⟨v617, ee618⟩ : ∃ z : Int32, f608 41 = z := ⟨_, rfl⟩
        have b619 : Bd v617 (0) (12) := (by rw [← ee618]; exact b610.2.1 41 (by decide))
        have q620 : elm (S573 7) 41 = v617.toInt := (elm_of c609 41).trans (congrArg Int32.toInt (ee618))
        have q621 : elm (S126 7) 43 = v39.toInt := (elm_of c159 43).trans (congrArg Int32.toInt (ee40))
        obtain ⟨v622, ee623⟩ : ∃ z : Int32, f608 43 = z := ⟨_, rfl⟩
        have b624 : Bd v622 (0) (12) := (by rw [← ee623]; exact b610.2.2.2.1 43 (by decide))
        have q625 : elm (S573 7) 43 = v622.toInt := (elm_of c609 43).trans (congrArg Int32.toInt (ee623))
        have q626 : elm (S126 7) 47 = v567.toInt := (elm_of c159 47).trans (congrArg Int32.toInt (ee568))
        obtain ⟨v627, ee628⟩ : ∃ z : Int32, f608 47 = z := ⟨_, rfl⟩
        have b629 : Bd v627 (0) (6) := (by rw [← ee628]; exact b610.2.2.2.2.2.1 47 (by decide))
        have q630 : elm (S573 7) 47 = v627.toInt := (elm_of c609 47).trans (congrArg Int32.toInt (ee628))
        have q631 : elm (S126 7) 48 = v570.toInt := (elm_of c159 48).trans (congrArg Int32.toInt (ee571))
        obtain ⟨v632, ee633⟩ : ∃ z : Int32, f608 48 = z := ⟨_, rfl⟩
        have b634 : Bd v632 (0) (3) := (by rw [← ee633]; exact b610.2.2.2.2.2.2.1 48 (by decide))
        have q635 : elm (S573 7) 48 = v632.toInt := (elm_of c609 48).trans (congrArg Int32.toInt (ee633))
        have q636 : elm (S126 7) 49 = v42.toInt := (elm_of c159 49).trans (congrArg Int32.toInt (ee43))
        obtain ⟨v637, ee638⟩ : ∃ z : Int32, f608 49 = z := ⟨_, rfl⟩
        have b639 : Bd v637 (0) (40) := (by rw [← ee638]; exact b610.2.2.2.2.2.2.2 49 (by decide))
        have q640 : elm (S573 7) 49 = v637.toInt := (elm_of c609 49).trans (congrArg Int32.toInt (ee638))
        refine lv_goto (tgt := 191) hx hb dX12_line_78 (by decide) ?_
        have q641 : elm (S 7) 41 = v36.toInt := (elm_of c31 41).trans (congrArg Int32.toInt (ee37))
        have q642 : elm (S 7) 43 = v39.toInt := (elm_of c31 43).trans (congrArg Int32.toInt (ee40))
        have q643 : elm (S 7) 49 = v42.toInt := (elm_of c31 49).trans (congrArg Int32.toInt (ee43))
        exact xrv E hr hlk hQ (⟨hI, (o_trans (o_trans (o_trans (o_trans o_refl o49 (by decide)) o88 (by decide)) o126 (by decide)) o573 (by decide)), (by omega), ⟨by omega, by omega⟩, (by omega), ⟨by omega, by omega⟩, ⟨by omega, by omega⟩, ⟨by omega, by omega⟩, ⟨by omega, by omega⟩, ef574⟩) dX12_line_191
    · have h644 := ib_ne k122
      have b645 : Bd r88 (1) (1) := rf_nlo b88 (by decide : Bd 0 (0) (0)) h644
      have g646 := g88_4.resolve_left (by omega)
      clear g88_4
      refine lv_aload_n hx hb dX12_line_27 rfl (lv_at hl 0 rfl) ?_
      refine xcVi E hs hQ hml hl.1 0 (gX12_cellHere_0 l g ad hD S88 hI (by omega)) mX12_cellHere q1693 (by decide) c117 rfl rfl ⟨(Nat.le_of_ble_eq_true rfl), (Nat.le_of_ble_eq_true rfl)⟩ ⟨(Nat.le_of_ble_eq_true rfl), (Nat.le_of_ble_eq_true rfl)⟩ (Nat.le_of_ble_eq_true rfl) rfl dX12_line_28 (fun r647 S647 H locs hp647 hQ _ => ?_)
      obtain ⟨hI, o647, b647, g647_0, g647_1, g647_2⟩ := hp647
      obtain ⟨v648, v649, v651, v653, v655, v656, w657, v658, v660, v661, v662, v663, v665, v667, v669, v671, v673, v674, v675, c676, b650, b652, b654, b659, b664, b666, b668, b670, b672⟩ := invM_0 hI
      have c676 : S647 0 = .inr (12, [.int v648, .ref (ad 1), .ref (ad 2), .ref (ad 3), .ref (ad 4), .ref (ad 5), .int v649, .int v651, .int v653, .int v655, .int v656, .long w657, .int v658, .int v660, .int v661, .int v662, .ref (ad 6), .ref (ad 7), .ref (ad 8), .ref (ad 9), .ref (ad 10), .ref (ad 11), .ref (ad 12), .ref (ad 13), .ref (ad 14), .ref (ad 15), .int v663, .int v665, .ref (ad 16), .int v667, .int v669, .int v671, .int v673, .int v674, .ref (ad 17), .ref (ad 18), .int v675, .ref (ad 19)]) := c676
      have q677 : fld (S647 0) 6 = v649.toInt := fld_of c676 rfl
      have q678 : fld (S647 0) 7 = v651.toInt := fld_of c676 rfl
      have q679 : fld (S647 0) 8 = v653.toInt := fld_of c676 rfl
      refine lv_istore_n (lv' := [(1, .int r647), (0, .ref (ad 0))]) hx hb dX12_line_31 rfl hl (by decide) rfl (fun ls hl => ?_)
      refine lv_aload_n hx hb dX12_line_32 rfl (lv_at hl 1 rfl) ?_
      refine xcVi E hs hQ hml hl.1 0 (gX12_isGood_0 l g ad hD S647 hI ) mX12_isGood q1650 (by decide) c676 rfl rfl ⟨(Nat.le_of_ble_eq_true rfl), (Nat.le_of_ble_eq_true rfl)⟩ ⟨(Nat.le_of_ble_eq_true rfl), (Nat.le_of_ble_eq_true rfl)⟩ (Nat.le_of_ble_eq_true rfl) rfl dX12_line_33 (fun r680 S680 H locs hp680 hQ _ => ?_)
      obtain ⟨rfl, b680, g680_0, g680_1⟩ := hp680
      have q681 : fld (S647 0) 12 = v658.toInt := fld_of c676 rfl
      refine lv_if_eq (tgt := 53) hx hb dX12_line_36 (by decide) (fun k682 => ?_) (fun k682 => ?_)
      · have h683 := ib_eq k682
        have b684 : Bd r680 (0) (0) := ⟨(b680).1, ((rf_eq b680 (by decide : Bd 0 (0) (0)) h683).1).2⟩
        clear g680_0
        have g685 := g680_1.resolve_left (by omega)
        clear g680_1
        have b686 : Bd v658 (1) (3) := ⟨by omega, (b659).2⟩
        refine lv_goto (tgt := 191) hx hb dX12_line_53 (by decide) ?_
        have c687 : S647 7 = .inl (g.2 0, 50, .inl f30) := ((o647 7 (by decide)).trans ((o88 7 (by decide)).trans ((o49 7 (by decide)).trans c31)))
        have q688 : elm (S647 7) 40 = v33.toInt := (elm_of c687 40).trans (congrArg Int32.toInt (ee34))
        have q689 : elm (S 7) 41 = v36.toInt := (elm_of c31 41).trans (congrArg Int32.toInt (ee37))
        have q690 : elm (S647 7) 41 = v36.toInt := (elm_of c687 41).trans (congrArg Int32.toInt (ee37))
        have q691 : elm (S 7) 43 = v39.toInt := (elm_of c31 43).trans (congrArg Int32.toInt (ee40))
        have q692 : elm (S647 7) 43 = v39.toInt := (elm_of c687 43).trans (congrArg Int32.toInt (ee40))
        have q693 : elm (S 7) 49 = v42.toInt := (elm_of c31 49).trans (congrArg Int32.toInt (ee43))
        have q694 : elm (S647 7) 49 = v42.toInt := (elm_of c687 49).trans (congrArg Int32.toInt (ee43))
        exact xrv E hr hlk hQ (⟨hI, (o_trans (o_trans (o_trans o_refl o49 (by decide)) o88 (by decide)) o647 (by decide)), (by omega), ⟨by omega, by omega⟩, (by omega), ⟨by omega, by omega⟩, ⟨by omega, by omega⟩, ⟨by omega, by omega⟩, ⟨by omega, by omega⟩, (ef_tr ef7_0 ((o647 7 (by decide)).trans ((o88 7 (by decide)).trans (o49 7 (by decide)))))⟩) dX12_line_191
      · have h695 := ib_ne k682
        have b696 : Bd r680 (1) (1) := rf_nlo b680 (by decide : Bd 0 (0) (0)) h695
        have g697 := g680_0.resolve_left (by omega)
        clear g680_0
        have b698 : Bd v658 (0) (0) := ⟨(b659).1, by omega⟩
        clear g680_1
        refine lv_aload_n hx hb dX12_line_39 rfl (lv_at hl 1 rfl) ?_
        refine lv_iconst (v := 5) hx hb dX12_line_40 (by decide) ?_
        refine lv_aload_n hx hb dX12_line_41 rfl (lv_at hl 1 rfl) ?_
        refine lv_iconst (v := 5) hx hb dX12_line_42 (by decide) ?_
        refine xcVi E hs hQ hml hl.1 0 (gX12_hasRead_5 l g ad hD S647 hI ) mX12_hasRead q1697 (by decide) c676 rfl rfl ⟨(Nat.le_of_ble_eq_true rfl), (Nat.le_of_ble_eq_true rfl)⟩ ⟨(Nat.le_of_ble_eq_true rfl), (Nat.le_of_ble_eq_true rfl)⟩ (Nat.le_of_ble_eq_true rfl) rfl dX12_line_43 (fun r699 S699 H locs hp699 hQ _ => ?_)
        subst hp699
        refine lv_iconst (v := 1) hx hb dX12_line_46 (by decide) ?_
        refine lv_iload_n hx hb dX12_line_47 rfl (lv_at hl 0 rfl) ?_
        refine lv_ishl hx hb dX12_line_48 ?_
        refine lv_topi (fun z700 e701 => ?_)
        refine lv_ior hx hb dX12_line_49 ?_
        refine lv_topi (fun z702 e703 => ?_)
        have c704 : S647 7 = .inl (g.2 0, 50, .inl f30) := ((o647 7 (by decide)).trans ((o88 7 (by decide)).trans ((o49 7 (by decide)).trans c31)))
        obtain ⟨v705, ee706⟩ : ∃ z : Int32, f30 46 = z := ⟨_, rfl⟩
        have b707 : Bd v705 (0) (8) := (by rw [← ee706]; exact b32.2.2.2.2.1 46 (by decide))
        obtain ⟨v708, ee709⟩ : ∃ z : Int32, f30 47 = z := ⟨_, rfl⟩
        have b710 : Bd v708 (0) (6) := (by rw [← ee709]; exact b32.2.2.2.2.2.1 47 (by decide))
        obtain ⟨v711, ee712⟩ : ∃ z : Int32, f30 48 = z := ⟨_, rfl⟩
        have b713 : Bd v711 (0) (3) := (by rw [← ee712]; exact b32.2.2.2.2.2.2.1 48 (by decide))
        refine xcVv E hs hQ hml hl.1 0 (gX12_tells_5 l g ad hD S647 hI z702) mX12_tells q1629 (by decide) c676 rfl rfl ⟨(Nat.le_of_ble_eq_true rfl), (Nat.le_of_ble_eq_true rfl)⟩ ⟨(Nat.le_of_ble_eq_true rfl), (Nat.le_of_ble_eq_true rfl)⟩ (Nat.le_of_ble_eq_true rfl) rfl dX12_line_50 (fun S714 H locs hp714 hQ _ => ?_)
        obtain ⟨hI, o714, g714_0, g714_1, g714_2, g714_3, g714_4, g714_5, g714_6, ef714_7⟩ := hp714
        have ef715 : EFp (S714 7) (S 7) 0 40 := ef_tt ef714_7 (ef_tr ef7_0 ((o647 7 (by decide)).trans ((o88 7 (by decide)).trans (o49 7 (by decide)))))
        have q716 : elm (S647 7) 40 = v33.toInt := (elm_of c704 40).trans (congrArg Int32.toInt (ee34))
        obtain ⟨f717, c718, b719⟩ := invM_7 hI
        obtain ⟨v720, ee721⟩ : ∃ z : Int32, f717 40 = z := ⟨_, rfl⟩
        have b722 : Bd v720 (0) (12) := (by rw [← ee721]; exact b719.1 40 (by decide))
        have q723 : elm (S714 7) 40 = v720.toInt := (elm_of c718 40).trans (congrArg Int32.toInt (ee721))
        have b724 : Bd v720 (1) (12) := ⟨by omega, (b722).2⟩
        have q725 : elm (S647 7) 41 = v36.toInt := (elm_of c704 41).trans (congrArg Int32.toInt (ee37))
        obtain ⟨v726, ee727⟩ : ∃ z : Int32, f717 41 = z := ⟨_, rfl⟩
        have b728 : Bd v726 (0) (12) := (by rw [← ee727]; exact b719.2.1 41 (by decide))
        have q729 : elm (S714 7) 41 = v726.toInt := (elm_of c718 41).trans (congrArg Int32.toInt (ee727))
        have q730 : elm (S647 7) 43 = v39.toInt := (elm_of c704 43).trans (congrArg Int32.toInt (ee40))
        obtain ⟨v731, ee732⟩ : ∃ z : Int32, f717 43 = z := ⟨_, rfl⟩
        have b733 : Bd v731 (0) (12) := (by rw [← ee732]; exact b719.2.2.2.1 43 (by decide))
        have q734 : elm (S714 7) 43 = v731.toInt := (elm_of c718 43).trans (congrArg Int32.toInt (ee732))
        have q735 : elm (S647 7) 46 = v705.toInt := (elm_of c704 46).trans (congrArg Int32.toInt (ee706))
        obtain ⟨v736, ee737⟩ : ∃ z : Int32, f717 46 = z := ⟨_, rfl⟩
        have b738 : Bd v736 (0) (8) := (by rw [← ee737]; exact b719.2.2.2.2.1 46 (by decide))
        have q739 : elm (S714 7) 46 = v736.toInt := (elm_of c718 46).trans (congrArg Int32.toInt (ee737))
        have q740 : elm (S647 7) 47 = v708.toInt := (elm_of c704 47).trans (congrArg Int32.toInt (ee709))
        obtain ⟨v741, ee742⟩ : ∃ z : Int32, f717 47 = z := ⟨_, rfl⟩
        have b743 : Bd v741 (0) (6) := (by rw [← ee742]; exact b719.2.2.2.2.2.1 47 (by decide))
        have q744 : elm (S714 7) 47 = v741.toInt := (elm_of c718 47).trans (congrArg Int32.toInt (ee742))
        have q745 : elm (S647 7) 48 = v711.toInt := (elm_of c704 48).trans (congrArg Int32.toInt (ee712))
        obtain ⟨v746, ee747⟩ : ∃ z : Int32, f717 48 = z := ⟨_, rfl⟩
        have b748 : Bd v746 (0) (3) := (by rw [← ee747]; exact b719.2.2.2.2.2.2.1 48 (by decide))
        have q749 : elm (S714 7) 48 = v746.toInt := (elm_of c718 48).trans (congrArg Int32.toInt (ee747))
        have q750 : elm (S647 7) 49 = v42.toInt := (elm_of c704 49).trans (congrArg Int32.toInt (ee43))
        obtain ⟨v751, ee752⟩ : ∃ z : Int32, f717 49 = z := ⟨_, rfl⟩
        have b753 : Bd v751 (0) (40) := (by rw [← ee752]; exact b719.2.2.2.2.2.2.2 49 (by decide))
        have q754 : elm (S714 7) 49 = v751.toInt := (elm_of c718 49).trans (congrArg Int32.toInt (ee752))
        refine lv_goto (tgt := 191) hx hb dX12_line_53 (by decide) ?_
        have c755 : S714 0 = .inr (12, [.int v648, .ref (ad 1), .ref (ad 2), .ref (ad 3), .ref (ad 4), .ref (ad 5), .int v649, .int v651, .int v653, .int v655, .int v656, .long w657, .int v658, .int v660, .int v661, .int v662, .ref (ad 6), .ref (ad 7), .ref (ad 8), .ref (ad 9), .ref (ad 10), .ref (ad 11), .ref (ad 12), .ref (ad 13), .ref (ad 14), .ref (ad 15), .int v663, .int v665, .ref (ad 16), .int v667, .int v669, .int v671, .int v673, .int v674, .ref (ad 17), .ref (ad 18), .int v675, .ref (ad 19)]) := ((o714 0 (by decide)).trans c676)
        have q756 : fld (S714 0) 6 = v649.toInt := fld_of c755 rfl
        have q757 : fld (S714 0) 7 = v651.toInt := fld_of c755 rfl
        have q758 : fld (S714 0) 8 = v653.toInt := fld_of c755 rfl
        have q759 : elm (S 7) 41 = v36.toInt := (elm_of c31 41).trans (congrArg Int32.toInt (ee37))
        have q760 : elm (S 7) 43 = v39.toInt := (elm_of c31 43).trans (congrArg Int32.toInt (ee40))
        have q761 : elm (S 7) 49 = v42.toInt := (elm_of c31 49).trans (congrArg Int32.toInt (ee43))
        exact xrv E hr hlk hQ (⟨hI, (o_trans (o_trans (o_trans (o_trans o_refl o49 (by decide)) o88 (by decide)) o647 (by decide)) o714 (by decide)), (by omega), ⟨by omega, by omega⟩, (by omega), ⟨by omega, by omega⟩, ⟨by omega, by omega⟩, ⟨by omega, by omega⟩, ⟨by omega, by omega⟩, ef715⟩) dX12_line_191
  · have h762 := ib_ne k85
    have b763 : Bd r49 (1) (1) := rf_nlo b49 (by decide : Bd 0 (0) (0)) h762
    have g764 := g49_4.resolve_left (by omega)
    clear g49_4
    refine lv_aload_n hx hb dX12_line_10 rfl (lv_at hl 0 rfl) ?_
    refine xcVv E hs hQ hml hl.1 0 (gX12_currentLine_0 l g ad hD S49 hI (by omega)) mX12_currentLine q1689 (by decide) c78 rfl rfl ⟨(Nat.le_of_ble_eq_true rfl), (Nat.le_of_ble_eq_true rfl)⟩ ⟨(Nat.le_of_ble_eq_true rfl), (Nat.le_of_ble_eq_true rfl)⟩ (Nat.le_of_ble_eq_true rfl) rfl dX12_line_11 (fun S765 H locs hp765 hQ _ => ?_)
    obtain ⟨hI, o765, g765_0, g765_1, g765_2⟩ := hp765
    obtain ⟨v766, v767, v769, v771, v773, v774, w775, v776, v778, v779, v780, v781, v783, v785, v787, v789, v791, v792, v793, c794, b768, b770, b772, b777, b782, b784, b786, b788, b790⟩ := invM_0 hI
    have c794 : S765 0 = .inr (12, [.int v766, .ref (ad 1), .ref (ad 2), .ref (ad 3), .ref (ad 4), .ref (ad 5), .int v767, .int v769, .int v771, .int v773, .int v774, .long w775, .int v776, .int v778, .int v779, .int v780, .ref (ad 6), .ref (ad 7), .ref (ad 8), .ref (ad 9), .ref (ad 10), .ref (ad 11), .ref (ad 12), .ref (ad 13), .ref (ad 14), .ref (ad 15), .int v781, .int v783, .ref (ad 16), .int v785, .int v787, .int v789, .int v791, .int v792, .ref (ad 17), .ref (ad 18), .int v793, .ref (ad 19)]) := c794
    have q795 : fld (S765 0) 6 = v767.toInt := fld_of c794 rfl
    have q796 : fld (S765 0) 7 = v769.toInt := fld_of c794 rfl
    have q797 : fld (S765 0) 8 = v771.toInt := fld_of c794 rfl
    refine lv_goto (tgt := 191) hx hb dX12_line_14 (by decide) ?_
    have c798 : S765 7 = .inl (g.2 0, 50, .inl f30) := ((o765 7 (by decide)).trans ((o49 7 (by decide)).trans c31))
    have q799 : elm (S765 7) 40 = v33.toInt := (elm_of c798 40).trans (congrArg Int32.toInt (ee34))
    have q800 : elm (S 7) 41 = v36.toInt := (elm_of c31 41).trans (congrArg Int32.toInt (ee37))
    have q801 : elm (S765 7) 41 = v36.toInt := (elm_of c798 41).trans (congrArg Int32.toInt (ee37))
    have q802 : elm (S 7) 43 = v39.toInt := (elm_of c31 43).trans (congrArg Int32.toInt (ee40))
    have q803 : elm (S765 7) 43 = v39.toInt := (elm_of c798 43).trans (congrArg Int32.toInt (ee40))
    have q804 : elm (S 7) 49 = v42.toInt := (elm_of c31 49).trans (congrArg Int32.toInt (ee43))
    have q805 : elm (S765 7) 49 = v42.toInt := (elm_of c798 49).trans (congrArg Int32.toInt (ee43))
    exact xrv E hr hlk hQ (⟨hI, (o_trans (o_trans o_refl o49 (by decide)) o765 (by decide)), (by omega), ⟨by omega, by omega⟩, (by omega), ⟨by omega, by omega⟩, ⟨by omega, by omega⟩, ⟨by omega, by omega⟩, ⟨by omega, by omega⟩, (ef_tr ef7_0 ((o765 7 (by decide)).trans (o49 7 (by decide))))⟩) dX12_line_191
set_option maxHeartbeats 4000000 in
set_option maxRecDepth 100000 in
theorem gX12_clears_0 (l : Launch) (g : GG) (ad : Nat → Nat) (hD : Dj ad 20) (S : SS) (hI : InvM g ad S) : Met l yX12_clears (wG (.code yX12_clears cX12_clears 2 none)) (Rm 1) (XPre g ad 20 S [.ref (ad 0)]) (va_Qv (fun S' => InvM g ad S' ∧ (∀ j, j ∉ ([6, 7, 8] : List Nat) → S' j = S j) ∧ (0 ≤ (-1) * elm (S' 7) 40 ∧ 0 ≤ elm (S' 7) 40) ∧ (0 ≤ (-1) * elm (S' 7) 41 ∧ 0 ≤ elm (S' 7) 41) ∧ (0 ≤ (-1) * elm (S' 7) 43 ∧ 0 ≤ elm (S' 7) 43) ∧ (0 ≤ (-1) * elm (S' 7) 46 ∧ 0 ≤ elm (S' 7) 46) ∧ (0 ≤ (-1) * elm (S' 7) 47 ∧ 0 ≤ elm (S' 7) 47) ∧ (0 ≤ (-1) * elm (S' 7) 48 ∧ 0 ≤ elm (S' 7) 48) ∧ (0 ≤ (-1) * elm (S' 7) 49 ∧ 0 ≤ elm (S' 7) 49) ∧ (0 ≤ (-1) * elm (S' 6) 4 ∧ 0 ≤ elm (S' 6) 4) ∧ EFp (S' 7) (S 7) 0 40 ∧ EFp (S' 6) (S 6) 0 4) (QB g ad 20) (FA ad 20)) 0 0 (FA ad 20) := by
  refine xmet cX12_clears "EbbWreckModel" (by decide) rfl (Nat.le_of_ble_eq_true rfl) (fun p e s m below meth c E hr hlk hml hQ ls hl => ?_)
  have hx := E.1
  have hb := E.2.1
  have hs : Sp ad 20 (FA ad 20) := Sp.fa hD
  have hl : lv_has ls 2 [(0, .ref (ad 0))] := hl
  obtain ⟨f1, c2, b3⟩ := invM_7 hI
  obtain ⟨v4, ee5⟩ : ∃ z : Int32, f1 40 = z := ⟨_, rfl⟩
  have b6 : Bd v4 (0) (12) := (by rw [← ee5]; exact b3.1 40 (by decide))
  obtain ⟨v7, ee8⟩ : ∃ z : Int32, f1 41 = z := ⟨_, rfl⟩
  have b9 : Bd v7 (0) (12) := (by rw [← ee8]; exact b3.2.1 41 (by decide))
  obtain ⟨v10, ee11⟩ : ∃ z : Int32, f1 43 = z := ⟨_, rfl⟩
  have b12 : Bd v10 (0) (12) := (by rw [← ee11]; exact b3.2.2.2.1 43 (by decide))
  obtain ⟨v13, ee14⟩ : ∃ z : Int32, f1 46 = z := ⟨_, rfl⟩
  have b15 : Bd v13 (0) (8) := (by rw [← ee14]; exact b3.2.2.2.2.1 46 (by decide))
  obtain ⟨v16, ee17⟩ : ∃ z : Int32, f1 47 = z := ⟨_, rfl⟩
  have b18 : Bd v16 (0) (6) := (by rw [← ee17]; exact b3.2.2.2.2.2.1 47 (by decide))
  obtain ⟨v19, ee20⟩ : ∃ z : Int32, f1 48 = z := ⟨_, rfl⟩
  have b21 : Bd v19 (0) (3) := (by rw [← ee20]; exact b3.2.2.2.2.2.2.1 48 (by decide))
  obtain ⟨v22, ee23⟩ : ∃ z : Int32, f1 49 = z := ⟨_, rfl⟩
  have b24 : Bd v22 (0) (40) := (by rw [← ee23]; exact b3.2.2.2.2.2.2.2 49 (by decide))
  obtain ⟨f25, c26, b27⟩ := invM_6 hI
  obtain ⟨v28, ee29⟩ : ∃ z : Int32, f25 4 = z := ⟨_, rfl⟩
  have b30 : Bd v28 (0) (40000) := (by rw [← ee29]; exact b27 4)
  have ef7_0 : EFp (S 7) (S 7) 0 40 := fun _ _ _ => rfl
  have ef6_0 : EFp (S 6) (S 6) 0 4 := fun _ _ _ => rfl
  refine lv_aload_n hx hb dX12_clears_0 rfl (lv_at hl 0 rfl) ?_
  obtain ⟨v31, v32, v34, v36, v38, v39, w40, v41, v43, v44, v45, v46, v48, v50, v52, v54, v56, v57, v58, c59, b33, b35, b37, b42, b47, b49, b51, b53, b55⟩ := invM_0 hI
  have c59 : S 0 = .inr (12, [.int v31, .ref (ad 1), .ref (ad 2), .ref (ad 3), .ref (ad 4), .ref (ad 5), .int v32, .int v34, .int v36, .int v38, .int v39, .long w40, .int v41, .int v43, .int v44, .int v45, .ref (ad 6), .ref (ad 7), .ref (ad 8), .ref (ad 9), .ref (ad 10), .ref (ad 11), .ref (ad 12), .ref (ad 13), .ref (ad 14), .ref (ad 15), .int v46, .int v48, .ref (ad 16), .int v50, .int v52, .int v54, .int v56, .int v57, .ref (ad 17), .ref (ad 18), .int v58, .ref (ad 19)]) := c59
  refine xget E hQ 0 (by decide) c59 rfl 16 (by decide) q1484 rfl dX12_clears_1 ?_
  refine lv_iconst (v := 4) hx hb dX12_clears_4 (by decide) ?_
  refine lv_iconst (v := 0) hx hb dX12_clears_5 (by decide) ?_
  refine xiast E hs hQ 6 (by decide) c26 (vp_in_lit 4 5 (by decide)) dX12_clears_6 (fun H locs S60 eS60 hQ => ?_)
  have hI := invM_up_6 hI eS60 ⟨_, rfl, upd_b b27 (ib_wk (by decide : Bd 0 (0) (0)) (by decide) (by decide))⟩
  have b62 : ∀ j, Bd ((upd f25 (4 : Int32).toNatClampNeg 0) j) (0) (40000) := upd_b b27 (ib_wk (by decide : Bd 0 (0) (0)) (by decide) (by decide))
  have c61 : S60 6 = .inl (g.2 0, 5, .inl (upd f25 (4 : Int32).toNatClampNeg 0)) := up_at eS60 rfl
  have ef63 : EFp (S60 6) (S 6) 0 4 := ef_up ef6_0 c26 c61 (by decide)
  refine lv_iconst (v := 0) hx hb dX12_clears_7 (by decide) ?_
  refine lv_istore_n (lv' := [(1, .int 0), (0, .ref (ad 0))]) hx hb dX12_clears_8 rfl hl (by decide) rfl (fun ls hl => ?_)
  refine lv_iload_n hx hb dX12_clears_9 rfl (lv_at hl 0 rfl) ?_
  refine lv_bipush (v := 10) hx hb dX12_clears_10 (by decide) ?_
  refine lv_icmp_ge (tgt := 27) hx hb dX12_clears_12 (by decide) (fun k64 => ?_) (fun k64 => ?_)
  · have h65 := ib_le k64
    exact absurd h65 (by decide)
  · have h66 := ib_nle k64
    refine lv_aload_n hx hb dX12_clears_15 rfl (lv_at hl 1 rfl) ?_
    refine lv_iload_n hx hb dX12_clears_16 rfl (lv_at hl 0 rfl) ?_
    refine lv_iconst (v := 0) hx hb dX12_clears_17 (by decide) ?_
    have c67 : S60 7 = .inl (g.2 0, 50, .inl f1) := (up_ne eS60 (by decide) c2)
    have c69 : S60 0 = .inr (12, [.int v31, .ref (ad 1), .ref (ad 2), .ref (ad 3), .ref (ad 4), .ref (ad 5), .int v32, .int v34, .int v36, .int v38, .int v39, .long w40, .int v41, .int v43, .int v44, .int v45, .ref (ad 6), .ref (ad 7), .ref (ad 8), .ref (ad 9), .ref (ad 10), .ref (ad 11), .ref (ad 12), .ref (ad 13), .ref (ad 14), .ref (ad 15), .int v46, .int v48, .ref (ad 16), .int v50, .int v52, .int v54, .int v56, .int v57, .ref (ad 17), .ref (ad 18), .int v58, .ref (ad 19)]) := (up_ne eS60 (by decide) c59)
    refine xcVv E hs hQ hml hl.1 0 (gX12_tells_0 l g ad hD S60 hI 0 (ib_wk (by decide : Bd 0 (0) (0)) (by decide) (by decide))) mX12_tells q1629 (by decide) c69 rfl rfl ⟨(Nat.le_of_ble_eq_true rfl), (Nat.le_of_ble_eq_true rfl)⟩ ⟨(Nat.le_of_ble_eq_true rfl), (Nat.le_of_ble_eq_true rfl)⟩ (Nat.le_of_ble_eq_true rfl) rfl dX12_clears_18 (fun S68 H locs hp68 hQ _ => ?_)
    obtain ⟨hI, o68, g68_0, g68_1, g68_2, g68_3, g68_4, g68_5, g68_6, ef68_7⟩ := hp68
    have ef70 : EFp (S68 7) (S 7) 0 40 := ef_tt ef68_7 (ef_tr ef7_0 (up_eq (j := 7) eS60 (by decide)))
    have q71 : (0 : Int32).toInt = 0 := by decide
    obtain ⟨f72, c73, b74⟩ := invM_7 hI
    obtain ⟨v75, ee76⟩ : ∃ z : Int32, f72 40 = z := ⟨_, rfl⟩
    have b77 : Bd v75 (0) (12) := (by rw [← ee76]; exact b74.1 40 (by decide))
    have q78 : elm (S68 7) 40 = v75.toInt := (elm_of c73 40).trans (congrArg Int32.toInt (ee76))
    have b79 : Bd v75 (0) (0) := ⟨(b77).1, by omega⟩
    have q80 : elm (S60 7) 41 = v7.toInt := (elm_of c67 41).trans (congrArg Int32.toInt (ee8))
    obtain ⟨v81, ee82⟩ : ∃ z : Int32, f72 41 = z := ⟨_, rfl⟩
    have b83 : Bd v81 (0) (12) := (by rw [← ee82]; exact b74.2.1 41 (by decide))
    have q84 : elm (S68 7) 41 = v81.toInt := (elm_of c73 41).trans (congrArg Int32.toInt (ee82))
    have q85 : elm (S60 7) 43 = v10.toInt := (elm_of c67 43).trans (congrArg Int32.toInt (ee11))
    obtain ⟨v86, ee87⟩ : ∃ z : Int32, f72 43 = z := ⟨_, rfl⟩
    have b88 : Bd v86 (0) (12) := (by rw [← ee87]; exact b74.2.2.2.1 43 (by decide))
    have q89 : elm (S68 7) 43 = v86.toInt := (elm_of c73 43).trans (congrArg Int32.toInt (ee87))
    have q90 : elm (S60 7) 46 = v13.toInt := (elm_of c67 46).trans (congrArg Int32.toInt (ee14))
    obtain ⟨v91, ee92⟩ : ∃ z : Int32, f72 46 = z := ⟨_, rfl⟩
    have b93 : Bd v91 (0) (8) := (by rw [← ee92]; exact b74.2.2.2.2.1 46 (by decide))
    have q94 : elm (S68 7) 46 = v91.toInt := (elm_of c73 46).trans (congrArg Int32.toInt (ee92))
    have q95 : elm (S60 7) 47 = v16.toInt := (elm_of c67 47).trans (congrArg Int32.toInt (ee17))
    obtain ⟨v96, ee97⟩ : ∃ z : Int32, f72 47 = z := ⟨_, rfl⟩
    have b98 : Bd v96 (0) (6) := (by rw [← ee97]; exact b74.2.2.2.2.2.1 47 (by decide))
    have q99 : elm (S68 7) 47 = v96.toInt := (elm_of c73 47).trans (congrArg Int32.toInt (ee97))
    have q100 : elm (S60 7) 48 = v19.toInt := (elm_of c67 48).trans (congrArg Int32.toInt (ee20))
    obtain ⟨v101, ee102⟩ : ∃ z : Int32, f72 48 = z := ⟨_, rfl⟩
    have b103 : Bd v101 (0) (3) := (by rw [← ee102]; exact b74.2.2.2.2.2.2.1 48 (by decide))
    have q104 : elm (S68 7) 48 = v101.toInt := (elm_of c73 48).trans (congrArg Int32.toInt (ee102))
    have q105 : elm (S60 7) 49 = v22.toInt := (elm_of c67 49).trans (congrArg Int32.toInt (ee23))
    obtain ⟨v106, ee107⟩ : ∃ z : Int32, f72 49 = z := ⟨_, rfl⟩
    have b108 : Bd v106 (0) (40) := (by rw [← ee107]; exact b74.2.2.2.2.2.2.2 49 (by decide))
    have q109 : elm (S68 7) 49 = v106.toInt := (elm_of c73 49).trans (congrArg Int32.toInt (ee107))
    refine lv_iinc (v := 1) (lv' := [(1, .int 1), (0, .ref (ad 0))]) hx hb dX12_clears_21 hl (k := 0) rfl (by decide) (by decide) rfl (fun ls hl => ?_)
    refine lv_goto (tgt := 9) hx hb dX12_clears_24 (by decide) ?_
    refine lv_iload_n hx hb dX12_clears_9 rfl (lv_at hl 0 rfl) ?_
    refine lv_bipush (v := 10) hx hb dX12_clears_10 (by decide) ?_
    refine lv_icmp_ge (tgt := 27) hx hb dX12_clears_12 (by decide) (fun k110 => ?_) (fun k110 => ?_)
    · have h111 := ib_le k110
      exact absurd h111 (by decide)
    · have h112 := ib_nle k110
      refine lv_aload_n hx hb dX12_clears_15 rfl (lv_at hl 1 rfl) ?_
      refine lv_iload_n hx hb dX12_clears_16 rfl (lv_at hl 0 rfl) ?_
      refine lv_iconst (v := 0) hx hb dX12_clears_17 (by decide) ?_
      have c114 : S68 0 = .inr (12, [.int v31, .ref (ad 1), .ref (ad 2), .ref (ad 3), .ref (ad 4), .ref (ad 5), .int v32, .int v34, .int v36, .int v38, .int v39, .long w40, .int v41, .int v43, .int v44, .int v45, .ref (ad 6), .ref (ad 7), .ref (ad 8), .ref (ad 9), .ref (ad 10), .ref (ad 11), .ref (ad 12), .ref (ad 13), .ref (ad 14), .ref (ad 15), .int v46, .int v48, .ref (ad 16), .int v50, .int v52, .int v54, .int v56, .int v57, .ref (ad 17), .ref (ad 18), .int v58, .ref (ad 19)]) := ((o68 0 (by decide)).trans c69)
      refine xcVv E hs hQ hml hl.1 0 (gX12_tells_1 l g ad hD S68 hI 0 (ib_wk (by decide : Bd 0 (0) (0)) (by decide) (by decide))) mX12_tells q1629 (by decide) c114 rfl rfl ⟨(Nat.le_of_ble_eq_true rfl), (Nat.le_of_ble_eq_true rfl)⟩ ⟨(Nat.le_of_ble_eq_true rfl), (Nat.le_of_ble_eq_true rfl)⟩ (Nat.le_of_ble_eq_true rfl) rfl dX12_clears_18 (fun S113 H locs hp113 hQ _ => ?_)
      obtain ⟨hI, o113, g113_0, g113_1, g113_2, g113_3, g113_4, g113_5, g113_6, ef113_7⟩ := hp113
      have ef115 : EFp (S113 7) (S 7) 0 40 := ef_tt ef113_7 ef70
      obtain ⟨f116, c117, b118⟩ := invM_7 hI
      obtain ⟨v119, ee120⟩ : ∃ z : Int32, f116 41 = z := ⟨_, rfl⟩
      have b121 : Bd v119 (0) (12) := (by rw [← ee120]; exact b118.2.1 41 (by decide))
      have q122 : elm (S113 7) 41 = v119.toInt := (elm_of c117 41).trans (congrArg Int32.toInt (ee120))
      have b123 : Bd v119 (0) (0) := ⟨(b121).1, by omega⟩
      obtain ⟨v124, ee125⟩ : ∃ z : Int32, f116 40 = z := ⟨_, rfl⟩
      have b126 : Bd v124 (0) (12) := (by rw [← ee125]; exact b118.1 40 (by decide))
      have q127 : elm (S113 7) 40 = v124.toInt := (elm_of c117 40).trans (congrArg Int32.toInt (ee125))
      have b128 : Bd v124 (0) (0) := ⟨(b126).1, by omega⟩
      obtain ⟨v129, ee130⟩ : ∃ z : Int32, f116 43 = z := ⟨_, rfl⟩
      have b131 : Bd v129 (0) (12) := (by rw [← ee130]; exact b118.2.2.2.1 43 (by decide))
      have q132 : elm (S113 7) 43 = v129.toInt := (elm_of c117 43).trans (congrArg Int32.toInt (ee130))
      obtain ⟨v133, ee134⟩ : ∃ z : Int32, f116 46 = z := ⟨_, rfl⟩
      have b135 : Bd v133 (0) (8) := (by rw [← ee134]; exact b118.2.2.2.2.1 46 (by decide))
      have q136 : elm (S113 7) 46 = v133.toInt := (elm_of c117 46).trans (congrArg Int32.toInt (ee134))
      obtain ⟨v137, ee138⟩ : ∃ z : Int32, f116 47 = z := ⟨_, rfl⟩
      have b139 : Bd v137 (0) (6) := (by rw [← ee138]; exact b118.2.2.2.2.2.1 47 (by decide))
      have q140 : elm (S113 7) 47 = v137.toInt := (elm_of c117 47).trans (congrArg Int32.toInt (ee138))
      obtain ⟨v141, ee142⟩ : ∃ z : Int32, f116 48 = z := ⟨_, rfl⟩
      have b143 : Bd v141 (0) (3) := (by rw [← ee142]; exact b118.2.2.2.2.2.2.1 48 (by decide))
      have q144 : elm (S113 7) 48 = v141.toInt := (elm_of c117 48).trans (congrArg Int32.toInt (ee142))
      obtain ⟨v145, ee146⟩ : ∃ z : Int32, f116 49 = z := ⟨_, rfl⟩
      have b147 : Bd v145 (0) (40) := (by rw [← ee146]; exact b118.2.2.2.2.2.2.2 49 (by decide))
      have q148 : elm (S113 7) 49 = v145.toInt := (elm_of c117 49).trans (congrArg Int32.toInt (ee146))
      refine lv_iinc (v := 2) (lv' := [(1, .int 2), (0, .ref (ad 0))]) hx hb dX12_clears_21 hl (k := 0) rfl (by decide) (by decide) rfl (fun ls hl => ?_)
      refine lv_goto (tgt := 9) hx hb dX12_clears_24 (by decide) ?_
      refine lv_iload_n hx hb dX12_clears_9 rfl (lv_at hl 0 rfl) ?_
      refine lv_bipush (v := 10) hx hb dX12_clears_10 (by decide) ?_
      refine lv_icmp_ge (tgt := 27) hx hb dX12_clears_12 (by decide) (fun k149 => ?_) (fun k149 => ?_)
      · have h150 := ib_le k149
        exact absurd h150 (by decide)
      · have h151 := ib_nle k149
        refine lv_aload_n hx hb dX12_clears_15 rfl (lv_at hl 1 rfl) ?_
        refine lv_iload_n hx hb dX12_clears_16 rfl (lv_at hl 0 rfl) ?_
        refine lv_iconst (v := 0) hx hb dX12_clears_17 (by decide) ?_
        have c153 : S113 0 = .inr (12, [.int v31, .ref (ad 1), .ref (ad 2), .ref (ad 3), .ref (ad 4), .ref (ad 5), .int v32, .int v34, .int v36, .int v38, .int v39, .long w40, .int v41, .int v43, .int v44, .int v45, .ref (ad 6), .ref (ad 7), .ref (ad 8), .ref (ad 9), .ref (ad 10), .ref (ad 11), .ref (ad 12), .ref (ad 13), .ref (ad 14), .ref (ad 15), .int v46, .int v48, .ref (ad 16), .int v50, .int v52, .int v54, .int v56, .int v57, .ref (ad 17), .ref (ad 18), .int v58, .ref (ad 19)]) := ((o113 0 (by decide)).trans c114)
        refine xcVv E hs hQ hml hl.1 0 (gX12_tells_2 l g ad hD S113 hI 0 (ib_wk (by decide : Bd 0 (0) (0)) (by decide) (by decide))) mX12_tells q1629 (by decide) c153 rfl rfl ⟨(Nat.le_of_ble_eq_true rfl), (Nat.le_of_ble_eq_true rfl)⟩ ⟨(Nat.le_of_ble_eq_true rfl), (Nat.le_of_ble_eq_true rfl)⟩ (Nat.le_of_ble_eq_true rfl) rfl dX12_clears_18 (fun S152 H locs hp152 hQ _ => ?_)
        obtain ⟨hI, o152, g152_0, g152_1, g152_2, g152_3, g152_4, g152_5, g152_6, ef152_7⟩ := hp152
        have ef154 : EFp (S152 7) (S 7) 0 40 := ef_tt ef152_7 ef115
        obtain ⟨f155, c156, b157⟩ := invM_7 hI
        obtain ⟨v158, ee159⟩ : ∃ z : Int32, f155 40 = z := ⟨_, rfl⟩
        have b160 : Bd v158 (0) (12) := (by rw [← ee159]; exact b157.1 40 (by decide))
        have q161 : elm (S152 7) 40 = v158.toInt := (elm_of c156 40).trans (congrArg Int32.toInt (ee159))
        have b162 : Bd v158 (0) (0) := ⟨(b160).1, by omega⟩
        obtain ⟨v163, ee164⟩ : ∃ z : Int32, f155 41 = z := ⟨_, rfl⟩
        have b165 : Bd v163 (0) (12) := (by rw [← ee164]; exact b157.2.1 41 (by decide))
        have q166 : elm (S152 7) 41 = v163.toInt := (elm_of c156 41).trans (congrArg Int32.toInt (ee164))
        have b167 : Bd v163 (0) (0) := ⟨(b165).1, by omega⟩
        obtain ⟨v168, ee169⟩ : ∃ z : Int32, f155 43 = z := ⟨_, rfl⟩
        have b170 : Bd v168 (0) (12) := (by rw [← ee169]; exact b157.2.2.2.1 43 (by decide))
        have q171 : elm (S152 7) 43 = v168.toInt := (elm_of c156 43).trans (congrArg Int32.toInt (ee169))
        obtain ⟨v172, ee173⟩ : ∃ z : Int32, f155 46 = z := ⟨_, rfl⟩
        have b174 : Bd v172 (0) (8) := (by rw [← ee173]; exact b157.2.2.2.2.1 46 (by decide))
        have q175 : elm (S152 7) 46 = v172.toInt := (elm_of c156 46).trans (congrArg Int32.toInt (ee173))
        obtain ⟨v176, ee177⟩ : ∃ z : Int32, f155 47 = z := ⟨_, rfl⟩
        have b178 : Bd v176 (0) (6) := (by rw [← ee177]; exact b157.2.2.2.2.2.1 47 (by decide))
        have q179 : elm (S152 7) 47 = v176.toInt := (elm_of c156 47).trans (congrArg Int32.toInt (ee177))
        obtain ⟨v180, ee181⟩ : ∃ z : Int32, f155 48 = z := ⟨_, rfl⟩
        have b182 : Bd v180 (0) (3) := (by rw [← ee181]; exact b157.2.2.2.2.2.2.1 48 (by decide))
        have q183 : elm (S152 7) 48 = v180.toInt := (elm_of c156 48).trans (congrArg Int32.toInt (ee181))
        obtain ⟨v184, ee185⟩ : ∃ z : Int32, f155 49 = z := ⟨_, rfl⟩
        have b186 : Bd v184 (0) (40) := (by rw [← ee185]; exact b157.2.2.2.2.2.2.2 49 (by decide))
        have q187 : elm (S152 7) 49 = v184.toInt := (elm_of c156 49).trans (congrArg Int32.toInt (ee185))
        refine lv_iinc (v := 3) (lv' := [(1, .int 3), (0, .ref (ad 0))]) hx hb dX12_clears_21 hl (k := 0) rfl (by decide) (by decide) rfl (fun ls hl => ?_)
        refine lv_goto (tgt := 9) hx hb dX12_clears_24 (by decide) ?_
        refine lv_iload_n hx hb dX12_clears_9 rfl (lv_at hl 0 rfl) ?_
        refine lv_bipush (v := 10) hx hb dX12_clears_10 (by decide) ?_
        refine lv_icmp_ge (tgt := 27) hx hb dX12_clears_12 (by decide) (fun k188 => ?_) (fun k188 => ?_)
        · have h189 := ib_le k188
          exact absurd h189 (by decide)
        · have h190 := ib_nle k188
          refine lv_aload_n hx hb dX12_clears_15 rfl (lv_at hl 1 rfl) ?_
          refine lv_iload_n hx hb dX12_clears_16 rfl (lv_at hl 0 rfl) ?_
          refine lv_iconst (v := 0) hx hb dX12_clears_17 (by decide) ?_
          have c192 : S152 0 = .inr (12, [.int v31, .ref (ad 1), .ref (ad 2), .ref (ad 3), .ref (ad 4), .ref (ad 5), .int v32, .int v34, .int v36, .int v38, .int v39, .long w40, .int v41, .int v43, .int v44, .int v45, .ref (ad 6), .ref (ad 7), .ref (ad 8), .ref (ad 9), .ref (ad 10), .ref (ad 11), .ref (ad 12), .ref (ad 13), .ref (ad 14), .ref (ad 15), .int v46, .int v48, .ref (ad 16), .int v50, .int v52, .int v54, .int v56, .int v57, .ref (ad 17), .ref (ad 18), .int v58, .ref (ad 19)]) := ((o152 0 (by decide)).trans c153)
          refine xcVv E hs hQ hml hl.1 0 (gX12_tells_3 l g ad hD S152 hI 0 (ib_wk (by decide : Bd 0 (0) (0)) (by decide) (by decide))) mX12_tells q1629 (by decide) c192 rfl rfl ⟨(Nat.le_of_ble_eq_true rfl), (Nat.le_of_ble_eq_true rfl)⟩ ⟨(Nat.le_of_ble_eq_true rfl), (Nat.le_of_ble_eq_true rfl)⟩ (Nat.le_of_ble_eq_true rfl) rfl dX12_clears_18 (fun S191 H locs hp191 hQ _ => ?_)
          obtain ⟨hI, o191, g191_0, g191_1, g191_2, g191_3, g191_4, g191_5, g191_6, ef191_7⟩ := hp191
          have ef193 : EFp (S191 7) (S 7) 0 40 := ef_tt ef191_7 ef154
          obtain ⟨f194, c195, b196⟩ := invM_7 hI
          obtain ⟨v197, ee198⟩ : ∃ z : Int32, f194 43 = z := ⟨_, rfl⟩
          have b199 : Bd v197 (0) (12) := (by rw [← ee198]; exact b196.2.2.2.1 43 (by decide))
          have q200 : elm (S191 7) 43 = v197.toInt := (elm_of c195 43).trans (congrArg Int32.toInt (ee198))
          have b201 : Bd v197 (0) (0) := ⟨(b199).1, by omega⟩
          obtain ⟨v202, ee203⟩ : ∃ z : Int32, f194 40 = z := ⟨_, rfl⟩
          have b204 : Bd v202 (0) (12) := (by rw [← ee203]; exact b196.1 40 (by decide))
          have q205 : elm (S191 7) 40 = v202.toInt := (elm_of c195 40).trans (congrArg Int32.toInt (ee203))
          have b206 : Bd v202 (0) (0) := ⟨(b204).1, by omega⟩
          obtain ⟨v207, ee208⟩ : ∃ z : Int32, f194 41 = z := ⟨_, rfl⟩
          have b209 : Bd v207 (0) (12) := (by rw [← ee208]; exact b196.2.1 41 (by decide))
          have q210 : elm (S191 7) 41 = v207.toInt := (elm_of c195 41).trans (congrArg Int32.toInt (ee208))
          have b211 : Bd v207 (0) (0) := ⟨(b209).1, by omega⟩
          obtain ⟨v212, ee213⟩ : ∃ z : Int32, f194 46 = z := ⟨_, rfl⟩
          have b214 : Bd v212 (0) (8) := (by rw [← ee213]; exact b196.2.2.2.2.1 46 (by decide))
          have q215 : elm (S191 7) 46 = v212.toInt := (elm_of c195 46).trans (congrArg Int32.toInt (ee213))
          obtain ⟨v216, ee217⟩ : ∃ z : Int32, f194 47 = z := ⟨_, rfl⟩
          have b218 : Bd v216 (0) (6) := (by rw [← ee217]; exact b196.2.2.2.2.2.1 47 (by decide))
          have q219 : elm (S191 7) 47 = v216.toInt := (elm_of c195 47).trans (congrArg Int32.toInt (ee217))
          obtain ⟨v220, ee221⟩ : ∃ z : Int32, f194 48 = z := ⟨_, rfl⟩
          have b222 : Bd v220 (0) (3) := (by rw [← ee221]; exact b196.2.2.2.2.2.2.1 48 (by decide))
          have q223 : elm (S191 7) 48 = v220.toInt := (elm_of c195 48).trans (congrArg Int32.toInt (ee221))
          obtain ⟨v224, ee225⟩ : ∃ z : Int32, f194 49 = z := ⟨_, rfl⟩
          have b226 : Bd v224 (0) (40) := (by rw [← ee225]; exact b196.2.2.2.2.2.2.2 49 (by decide))
          have q227 : elm (S191 7) 49 = v224.toInt := (elm_of c195 49).trans (congrArg Int32.toInt (ee225))
          refine lv_iinc (v := 4) (lv' := [(1, .int 4), (0, .ref (ad 0))]) hx hb dX12_clears_21 hl (k := 0) rfl (by decide) (by decide) rfl (fun ls hl => ?_)
          refine lv_goto (tgt := 9) hx hb dX12_clears_24 (by decide) ?_
          refine lv_iload_n hx hb dX12_clears_9 rfl (lv_at hl 0 rfl) ?_
          refine lv_bipush (v := 10) hx hb dX12_clears_10 (by decide) ?_
          refine lv_icmp_ge (tgt := 27) hx hb dX12_clears_12 (by decide) (fun k228 => ?_) (fun k228 => ?_)
          · have h229 := ib_le k228
            exact absurd h229 (by decide)
          · have h230 := ib_nle k228
            refine lv_aload_n hx hb dX12_clears_15 rfl (lv_at hl 1 rfl) ?_
            refine lv_iload_n hx hb dX12_clears_16 rfl (lv_at hl 0 rfl) ?_
            refine lv_iconst (v := 0) hx hb dX12_clears_17 (by decide) ?_
            have c232 : S191 0 = .inr (12, [.int v31, .ref (ad 1), .ref (ad 2), .ref (ad 3), .ref (ad 4), .ref (ad 5), .int v32, .int v34, .int v36, .int v38, .int v39, .long w40, .int v41, .int v43, .int v44, .int v45, .ref (ad 6), .ref (ad 7), .ref (ad 8), .ref (ad 9), .ref (ad 10), .ref (ad 11), .ref (ad 12), .ref (ad 13), .ref (ad 14), .ref (ad 15), .int v46, .int v48, .ref (ad 16), .int v50, .int v52, .int v54, .int v56, .int v57, .ref (ad 17), .ref (ad 18), .int v58, .ref (ad 19)]) := ((o191 0 (by decide)).trans c192)
            refine xcVv E hs hQ hml hl.1 0 (gX12_tells_4 l g ad hD S191 hI 0) mX12_tells q1629 (by decide) c232 rfl rfl ⟨(Nat.le_of_ble_eq_true rfl), (Nat.le_of_ble_eq_true rfl)⟩ ⟨(Nat.le_of_ble_eq_true rfl), (Nat.le_of_ble_eq_true rfl)⟩ (Nat.le_of_ble_eq_true rfl) rfl dX12_clears_18 (fun S231 H locs hp231 hQ _ => ?_)
            obtain ⟨hI, o231, g231_0, g231_1, g231_2, g231_3, g231_4, g231_5, g231_6, ef231_7⟩ := hp231
            have ef233 : EFp (S231 7) (S 7) 0 40 := ef_tt ef231_7 ef193
            obtain ⟨f234, c235, b236⟩ := invM_7 hI
            obtain ⟨v237, ee238⟩ : ∃ z : Int32, f234 40 = z := ⟨_, rfl⟩
            have b239 : Bd v237 (0) (12) := (by rw [← ee238]; exact b236.1 40 (by decide))
            have q240 : elm (S231 7) 40 = v237.toInt := (elm_of c235 40).trans (congrArg Int32.toInt (ee238))
            have b241 : Bd v237 (0) (0) := ⟨(b239).1, by omega⟩
            obtain ⟨v242, ee243⟩ : ∃ z : Int32, f234 41 = z := ⟨_, rfl⟩
            have b244 : Bd v242 (0) (12) := (by rw [← ee243]; exact b236.2.1 41 (by decide))
            have q245 : elm (S231 7) 41 = v242.toInt := (elm_of c235 41).trans (congrArg Int32.toInt (ee243))
            have b246 : Bd v242 (0) (0) := ⟨(b244).1, by omega⟩
            obtain ⟨v247, ee248⟩ : ∃ z : Int32, f234 43 = z := ⟨_, rfl⟩
            have b249 : Bd v247 (0) (12) := (by rw [← ee248]; exact b236.2.2.2.1 43 (by decide))
            have q250 : elm (S231 7) 43 = v247.toInt := (elm_of c235 43).trans (congrArg Int32.toInt (ee248))
            have b251 : Bd v247 (0) (0) := ⟨(b249).1, by omega⟩
            obtain ⟨v252, ee253⟩ : ∃ z : Int32, f234 46 = z := ⟨_, rfl⟩
            have b254 : Bd v252 (0) (8) := (by rw [← ee253]; exact b236.2.2.2.2.1 46 (by decide))
            have q255 : elm (S231 7) 46 = v252.toInt := (elm_of c235 46).trans (congrArg Int32.toInt (ee253))
            obtain ⟨v256, ee257⟩ : ∃ z : Int32, f234 47 = z := ⟨_, rfl⟩
            have b258 : Bd v256 (0) (6) := (by rw [← ee257]; exact b236.2.2.2.2.2.1 47 (by decide))
            have q259 : elm (S231 7) 47 = v256.toInt := (elm_of c235 47).trans (congrArg Int32.toInt (ee257))
            obtain ⟨v260, ee261⟩ : ∃ z : Int32, f234 48 = z := ⟨_, rfl⟩
            have b262 : Bd v260 (0) (3) := (by rw [← ee261]; exact b236.2.2.2.2.2.2.1 48 (by decide))
            have q263 : elm (S231 7) 48 = v260.toInt := (elm_of c235 48).trans (congrArg Int32.toInt (ee261))
            obtain ⟨v264, ee265⟩ : ∃ z : Int32, f234 49 = z := ⟨_, rfl⟩
            have b266 : Bd v264 (0) (40) := (by rw [← ee265]; exact b236.2.2.2.2.2.2.2 49 (by decide))
            have q267 : elm (S231 7) 49 = v264.toInt := (elm_of c235 49).trans (congrArg Int32.toInt (ee265))
            refine lv_iinc (v := 5) (lv' := [(1, .int 5), (0, .ref (ad 0))]) hx hb dX12_clears_21 hl (k := 0) rfl (by decide) (by decide) rfl (fun ls hl => ?_)
            refine lv_goto (tgt := 9) hx hb dX12_clears_24 (by decide) ?_
            refine lv_iload_n hx hb dX12_clears_9 rfl (lv_at hl 0 rfl) ?_
            refine lv_bipush (v := 10) hx hb dX12_clears_10 (by decide) ?_
            refine lv_icmp_ge (tgt := 27) hx hb dX12_clears_12 (by decide) (fun k268 => ?_) (fun k268 => ?_)
            · have h269 := ib_le k268
              exact absurd h269 (by decide)
            · have h270 := ib_nle k268
              refine lv_aload_n hx hb dX12_clears_15 rfl (lv_at hl 1 rfl) ?_
              refine lv_iload_n hx hb dX12_clears_16 rfl (lv_at hl 0 rfl) ?_
              refine lv_iconst (v := 0) hx hb dX12_clears_17 (by decide) ?_
              have c272 : S231 0 = .inr (12, [.int v31, .ref (ad 1), .ref (ad 2), .ref (ad 3), .ref (ad 4), .ref (ad 5), .int v32, .int v34, .int v36, .int v38, .int v39, .long w40, .int v41, .int v43, .int v44, .int v45, .ref (ad 6), .ref (ad 7), .ref (ad 8), .ref (ad 9), .ref (ad 10), .ref (ad 11), .ref (ad 12), .ref (ad 13), .ref (ad 14), .ref (ad 15), .int v46, .int v48, .ref (ad 16), .int v50, .int v52, .int v54, .int v56, .int v57, .ref (ad 17), .ref (ad 18), .int v58, .ref (ad 19)]) := ((o231 0 (by decide)).trans c232)
              refine xcVv E hs hQ hml hl.1 0 (gX12_tells_5 l g ad hD S231 hI 0) mX12_tells q1629 (by decide) c272 rfl rfl ⟨(Nat.le_of_ble_eq_true rfl), (Nat.le_of_ble_eq_true rfl)⟩ ⟨(Nat.le_of_ble_eq_true rfl), (Nat.le_of_ble_eq_true rfl)⟩ (Nat.le_of_ble_eq_true rfl) rfl dX12_clears_18 (fun S271 H locs hp271 hQ _ => ?_)
              obtain ⟨hI, o271, g271_0, g271_1, g271_2, g271_3, g271_4, g271_5, g271_6, ef271_7⟩ := hp271
              have ef273 : EFp (S271 7) (S 7) 0 40 := ef_tt ef271_7 ef233
              obtain ⟨f274, c275, b276⟩ := invM_7 hI
              obtain ⟨v277, ee278⟩ : ∃ z : Int32, f274 40 = z := ⟨_, rfl⟩
              have b279 : Bd v277 (0) (12) := (by rw [← ee278]; exact b276.1 40 (by decide))
              have q280 : elm (S271 7) 40 = v277.toInt := (elm_of c275 40).trans (congrArg Int32.toInt (ee278))
              have b281 : Bd v277 (0) (0) := ⟨(b279).1, by omega⟩
              obtain ⟨v282, ee283⟩ : ∃ z : Int32, f274 41 = z := ⟨_, rfl⟩
              have b284 : Bd v282 (0) (12) := (by rw [← ee283]; exact b276.2.1 41 (by decide))
              have q285 : elm (S271 7) 41 = v282.toInt := (elm_of c275 41).trans (congrArg Int32.toInt (ee283))
              have b286 : Bd v282 (0) (0) := ⟨(b284).1, by omega⟩
              obtain ⟨v287, ee288⟩ : ∃ z : Int32, f274 43 = z := ⟨_, rfl⟩
              have b289 : Bd v287 (0) (12) := (by rw [← ee288]; exact b276.2.2.2.1 43 (by decide))
              have q290 : elm (S271 7) 43 = v287.toInt := (elm_of c275 43).trans (congrArg Int32.toInt (ee288))
              have b291 : Bd v287 (0) (0) := ⟨(b289).1, by omega⟩
              obtain ⟨v292, ee293⟩ : ∃ z : Int32, f274 46 = z := ⟨_, rfl⟩
              have b294 : Bd v292 (0) (8) := (by rw [← ee293]; exact b276.2.2.2.2.1 46 (by decide))
              have q295 : elm (S271 7) 46 = v292.toInt := (elm_of c275 46).trans (congrArg Int32.toInt (ee293))
              obtain ⟨v296, ee297⟩ : ∃ z : Int32, f274 47 = z := ⟨_, rfl⟩
              have b298 : Bd v296 (0) (6) := (by rw [← ee297]; exact b276.2.2.2.2.2.1 47 (by decide))
              have q299 : elm (S271 7) 47 = v296.toInt := (elm_of c275 47).trans (congrArg Int32.toInt (ee297))
              obtain ⟨v300, ee301⟩ : ∃ z : Int32, f274 48 = z := ⟨_, rfl⟩
              have b302 : Bd v300 (0) (3) := (by rw [← ee301]; exact b276.2.2.2.2.2.2.1 48 (by decide))
              have q303 : elm (S271 7) 48 = v300.toInt := (elm_of c275 48).trans (congrArg Int32.toInt (ee301))
              obtain ⟨v304, ee305⟩ : ∃ z : Int32, f274 49 = z := ⟨_, rfl⟩
              have b306 : Bd v304 (0) (40) := (by rw [← ee305]; exact b276.2.2.2.2.2.2.2 49 (by decide))
              have q307 : elm (S271 7) 49 = v304.toInt := (elm_of c275 49).trans (congrArg Int32.toInt (ee305))
              refine lv_iinc (v := 6) (lv' := [(1, .int 6), (0, .ref (ad 0))]) hx hb dX12_clears_21 hl (k := 0) rfl (by decide) (by decide) rfl (fun ls hl => ?_)
              refine lv_goto (tgt := 9) hx hb dX12_clears_24 (by decide) ?_
              refine lv_iload_n hx hb dX12_clears_9 rfl (lv_at hl 0 rfl) ?_
              refine lv_bipush (v := 10) hx hb dX12_clears_10 (by decide) ?_
              refine lv_icmp_ge (tgt := 27) hx hb dX12_clears_12 (by decide) (fun k308 => ?_) (fun k308 => ?_)
              · have h309 := ib_le k308
                exact absurd h309 (by decide)
              · have h310 := ib_nle k308
                refine lv_aload_n hx hb dX12_clears_15 rfl (lv_at hl 1 rfl) ?_
                refine lv_iload_n hx hb dX12_clears_16 rfl (lv_at hl 0 rfl) ?_
                refine lv_iconst (v := 0) hx hb dX12_clears_17 (by decide) ?_
                have c312 : S271 0 = .inr (12, [.int v31, .ref (ad 1), .ref (ad 2), .ref (ad 3), .ref (ad 4), .ref (ad 5), .int v32, .int v34, .int v36, .int v38, .int v39, .long w40, .int v41, .int v43, .int v44, .int v45, .ref (ad 6), .ref (ad 7), .ref (ad 8), .ref (ad 9), .ref (ad 10), .ref (ad 11), .ref (ad 12), .ref (ad 13), .ref (ad 14), .ref (ad 15), .int v46, .int v48, .ref (ad 16), .int v50, .int v52, .int v54, .int v56, .int v57, .ref (ad 17), .ref (ad 18), .int v58, .ref (ad 19)]) := ((o271 0 (by decide)).trans c272)
                refine xcVv E hs hQ hml hl.1 0 (gX12_tells_6 l g ad hD S271 hI 0 (ib_wk (by decide : Bd 0 (0) (0)) (by decide) (by decide))) mX12_tells q1629 (by decide) c312 rfl rfl ⟨(Nat.le_of_ble_eq_true rfl), (Nat.le_of_ble_eq_true rfl)⟩ ⟨(Nat.le_of_ble_eq_true rfl), (Nat.le_of_ble_eq_true rfl)⟩ (Nat.le_of_ble_eq_true rfl) rfl dX12_clears_18 (fun S311 H locs hp311 hQ _ => ?_)
                obtain ⟨hI, o311, g311_0, g311_1, g311_2, g311_3, g311_4, g311_5, g311_6, ef311_7⟩ := hp311
                have ef313 : EFp (S311 7) (S 7) 0 40 := ef_tt ef311_7 ef273
                obtain ⟨f314, c315, b316⟩ := invM_7 hI
                obtain ⟨v317, ee318⟩ : ∃ z : Int32, f314 46 = z := ⟨_, rfl⟩
                have b319 : Bd v317 (0) (8) := (by rw [← ee318]; exact b316.2.2.2.2.1 46 (by decide))
                have q320 : elm (S311 7) 46 = v317.toInt := (elm_of c315 46).trans (congrArg Int32.toInt (ee318))
                have b321 : Bd v317 (0) (0) := ⟨(b319).1, by omega⟩
                obtain ⟨v322, ee323⟩ : ∃ z : Int32, f314 40 = z := ⟨_, rfl⟩
                have b324 : Bd v322 (0) (12) := (by rw [← ee323]; exact b316.1 40 (by decide))
                have q325 : elm (S311 7) 40 = v322.toInt := (elm_of c315 40).trans (congrArg Int32.toInt (ee323))
                have b326 : Bd v322 (0) (0) := ⟨(b324).1, by omega⟩
                obtain ⟨v327, ee328⟩ : ∃ z : Int32, f314 41 = z := ⟨_, rfl⟩
                have b329 : Bd v327 (0) (12) := (by rw [← ee328]; exact b316.2.1 41 (by decide))
                have q330 : elm (S311 7) 41 = v327.toInt := (elm_of c315 41).trans (congrArg Int32.toInt (ee328))
                have b331 : Bd v327 (0) (0) := ⟨(b329).1, by omega⟩
                obtain ⟨v332, ee333⟩ : ∃ z : Int32, f314 43 = z := ⟨_, rfl⟩
                have b334 : Bd v332 (0) (12) := (by rw [← ee333]; exact b316.2.2.2.1 43 (by decide))
                have q335 : elm (S311 7) 43 = v332.toInt := (elm_of c315 43).trans (congrArg Int32.toInt (ee333))
                have b336 : Bd v332 (0) (0) := ⟨(b334).1, by omega⟩
                obtain ⟨v337, ee338⟩ : ∃ z : Int32, f314 47 = z := ⟨_, rfl⟩
                have b339 : Bd v337 (0) (6) := (by rw [← ee338]; exact b316.2.2.2.2.2.1 47 (by decide))
                have q340 : elm (S311 7) 47 = v337.toInt := (elm_of c315 47).trans (congrArg Int32.toInt (ee338))
                obtain ⟨v341, ee342⟩ : ∃ z : Int32, f314 48 = z := ⟨_, rfl⟩
                have b343 : Bd v341 (0) (3) := (by rw [← ee342]; exact b316.2.2.2.2.2.2.1 48 (by decide))
                have q344 : elm (S311 7) 48 = v341.toInt := (elm_of c315 48).trans (congrArg Int32.toInt (ee342))
                obtain ⟨v345, ee346⟩ : ∃ z : Int32, f314 49 = z := ⟨_, rfl⟩
                have b347 : Bd v345 (0) (40) := (by rw [← ee346]; exact b316.2.2.2.2.2.2.2 49 (by decide))
                have q348 : elm (S311 7) 49 = v345.toInt := (elm_of c315 49).trans (congrArg Int32.toInt (ee346))
                refine lv_iinc (v := 7) (lv' := [(1, .int 7), (0, .ref (ad 0))]) hx hb dX12_clears_21 hl (k := 0) rfl (by decide) (by decide) rfl (fun ls hl => ?_)
                refine lv_goto (tgt := 9) hx hb dX12_clears_24 (by decide) ?_
                refine lv_iload_n hx hb dX12_clears_9 rfl (lv_at hl 0 rfl) ?_
                refine lv_bipush (v := 10) hx hb dX12_clears_10 (by decide) ?_
                refine lv_icmp_ge (tgt := 27) hx hb dX12_clears_12 (by decide) (fun k349 => ?_) (fun k349 => ?_)
                · have h350 := ib_le k349
                  exact absurd h350 (by decide)
                · have h351 := ib_nle k349
                  refine lv_aload_n hx hb dX12_clears_15 rfl (lv_at hl 1 rfl) ?_
                  refine lv_iload_n hx hb dX12_clears_16 rfl (lv_at hl 0 rfl) ?_
                  refine lv_iconst (v := 0) hx hb dX12_clears_17 (by decide) ?_
                  have c353 : S311 0 = .inr (12, [.int v31, .ref (ad 1), .ref (ad 2), .ref (ad 3), .ref (ad 4), .ref (ad 5), .int v32, .int v34, .int v36, .int v38, .int v39, .long w40, .int v41, .int v43, .int v44, .int v45, .ref (ad 6), .ref (ad 7), .ref (ad 8), .ref (ad 9), .ref (ad 10), .ref (ad 11), .ref (ad 12), .ref (ad 13), .ref (ad 14), .ref (ad 15), .int v46, .int v48, .ref (ad 16), .int v50, .int v52, .int v54, .int v56, .int v57, .ref (ad 17), .ref (ad 18), .int v58, .ref (ad 19)]) := ((o311 0 (by decide)).trans c312)
                  refine xcVv E hs hQ hml hl.1 0 (gX12_tells_7 l g ad hD S311 hI 0 (ib_wk (by decide : Bd 0 (0) (0)) (by decide) (by decide))) mX12_tells q1629 (by decide) c353 rfl rfl ⟨(Nat.le_of_ble_eq_true rfl), (Nat.le_of_ble_eq_true rfl)⟩ ⟨(Nat.le_of_ble_eq_true rfl), (Nat.le_of_ble_eq_true rfl)⟩ (Nat.le_of_ble_eq_true rfl) rfl dX12_clears_18 (fun S352 H locs hp352 hQ _ => ?_)
                  obtain ⟨hI, o352, g352_0, g352_1, g352_2, g352_3, g352_4, g352_5, g352_6, ef352_7⟩ := hp352
                  have ef354 : EFp (S352 7) (S 7) 0 40 := ef_tt ef352_7 ef313
                  obtain ⟨f355, c356, b357⟩ := invM_7 hI
                  obtain ⟨v358, ee359⟩ : ∃ z : Int32, f355 47 = z := ⟨_, rfl⟩
                  have b360 : Bd v358 (0) (6) := (by rw [← ee359]; exact b357.2.2.2.2.2.1 47 (by decide))
                  have q361 : elm (S352 7) 47 = v358.toInt := (elm_of c356 47).trans (congrArg Int32.toInt (ee359))
                  have b362 : Bd v358 (0) (0) := ⟨(b360).1, by omega⟩
                  obtain ⟨v363, ee364⟩ : ∃ z : Int32, f355 40 = z := ⟨_, rfl⟩
                  have b365 : Bd v363 (0) (12) := (by rw [← ee364]; exact b357.1 40 (by decide))
                  have q366 : elm (S352 7) 40 = v363.toInt := (elm_of c356 40).trans (congrArg Int32.toInt (ee364))
                  have b367 : Bd v363 (0) (0) := ⟨(b365).1, by omega⟩
                  obtain ⟨v368, ee369⟩ : ∃ z : Int32, f355 41 = z := ⟨_, rfl⟩
                  have b370 : Bd v368 (0) (12) := (by rw [← ee369]; exact b357.2.1 41 (by decide))
                  have q371 : elm (S352 7) 41 = v368.toInt := (elm_of c356 41).trans (congrArg Int32.toInt (ee369))
                  have b372 : Bd v368 (0) (0) := ⟨(b370).1, by omega⟩
                  obtain ⟨v373, ee374⟩ : ∃ z : Int32, f355 43 = z := ⟨_, rfl⟩
                  have b375 : Bd v373 (0) (12) := (by rw [← ee374]; exact b357.2.2.2.1 43 (by decide))
                  have q376 : elm (S352 7) 43 = v373.toInt := (elm_of c356 43).trans (congrArg Int32.toInt (ee374))
                  have b377 : Bd v373 (0) (0) := ⟨(b375).1, by omega⟩
                  obtain ⟨v378, ee379⟩ : ∃ z : Int32, f355 46 = z := ⟨_, rfl⟩
                  have b380 : Bd v378 (0) (8) := (by rw [← ee379]; exact b357.2.2.2.2.1 46 (by decide))
                  have q381 : elm (S352 7) 46 = v378.toInt := (elm_of c356 46).trans (congrArg Int32.toInt (ee379))
                  have b382 : Bd v378 (0) (0) := ⟨(b380).1, by omega⟩
                  obtain ⟨v383, ee384⟩ : ∃ z : Int32, f355 48 = z := ⟨_, rfl⟩
                  have b385 : Bd v383 (0) (3) := (by rw [← ee384]; exact b357.2.2.2.2.2.2.1 48 (by decide))
                  have q386 : elm (S352 7) 48 = v383.toInt := (elm_of c356 48).trans (congrArg Int32.toInt (ee384))
                  obtain ⟨v387, ee388⟩ : ∃ z : Int32, f355 49 = z := ⟨_, rfl⟩
                  have b389 : Bd v387 (0) (40) := (by rw [← ee388]; exact b357.2.2.2.2.2.2.2 49 (by decide))
                  have q390 : elm (S352 7) 49 = v387.toInt := (elm_of c356 49).trans (congrArg Int32.toInt (ee388))
                  refine lv_iinc (v := 8) (lv' := [(1, .int 8), (0, .ref (ad 0))]) hx hb dX12_clears_21 hl (k := 0) rfl (by decide) (by decide) rfl (fun ls hl => ?_)
                  refine lv_goto (tgt := 9) hx hb dX12_clears_24 (by decide) ?_
                  refine lv_iload_n hx hb dX12_clears_9 rfl (lv_at hl 0 rfl) ?_
                  refine lv_bipush (v := 10) hx hb dX12_clears_10 (by decide) ?_
                  refine lv_icmp_ge (tgt := 27) hx hb dX12_clears_12 (by decide) (fun k391 => ?_) (fun k391 => ?_)
                  · have h392 := ib_le k391
                    exact absurd h392 (by decide)
                  · have h393 := ib_nle k391
                    refine lv_aload_n hx hb dX12_clears_15 rfl (lv_at hl 1 rfl) ?_
                    refine lv_iload_n hx hb dX12_clears_16 rfl (lv_at hl 0 rfl) ?_
                    refine lv_iconst (v := 0) hx hb dX12_clears_17 (by decide) ?_
                    have c395 : S352 0 = .inr (12, [.int v31, .ref (ad 1), .ref (ad 2), .ref (ad 3), .ref (ad 4), .ref (ad 5), .int v32, .int v34, .int v36, .int v38, .int v39, .long w40, .int v41, .int v43, .int v44, .int v45, .ref (ad 6), .ref (ad 7), .ref (ad 8), .ref (ad 9), .ref (ad 10), .ref (ad 11), .ref (ad 12), .ref (ad 13), .ref (ad 14), .ref (ad 15), .int v46, .int v48, .ref (ad 16), .int v50, .int v52, .int v54, .int v56, .int v57, .ref (ad 17), .ref (ad 18), .int v58, .ref (ad 19)]) := ((o352 0 (by decide)).trans c353)
                    refine xcVv E hs hQ hml hl.1 0 (gX12_tells_8 l g ad hD S352 hI 0 (ib_wk (by decide : Bd 0 (0) (0)) (by decide) (by decide))) mX12_tells q1629 (by decide) c395 rfl rfl ⟨(Nat.le_of_ble_eq_true rfl), (Nat.le_of_ble_eq_true rfl)⟩ ⟨(Nat.le_of_ble_eq_true rfl), (Nat.le_of_ble_eq_true rfl)⟩ (Nat.le_of_ble_eq_true rfl) rfl dX12_clears_18 (fun S394 H locs hp394 hQ _ => ?_)
                    obtain ⟨hI, o394, g394_0, g394_1, g394_2, g394_3, g394_4, g394_5, g394_6, ef394_7⟩ := hp394
                    have ef396 : EFp (S394 7) (S 7) 0 40 := ef_tt ef394_7 ef354
                    obtain ⟨f397, c398, b399⟩ := invM_7 hI
                    obtain ⟨v400, ee401⟩ : ∃ z : Int32, f397 48 = z := ⟨_, rfl⟩
                    have b402 : Bd v400 (0) (3) := (by rw [← ee401]; exact b399.2.2.2.2.2.2.1 48 (by decide))
                    have q403 : elm (S394 7) 48 = v400.toInt := (elm_of c398 48).trans (congrArg Int32.toInt (ee401))
                    have b404 : Bd v400 (0) (0) := ⟨(b402).1, by omega⟩
                    obtain ⟨v405, ee406⟩ : ∃ z : Int32, f397 40 = z := ⟨_, rfl⟩
                    have b407 : Bd v405 (0) (12) := (by rw [← ee406]; exact b399.1 40 (by decide))
                    have q408 : elm (S394 7) 40 = v405.toInt := (elm_of c398 40).trans (congrArg Int32.toInt (ee406))
                    have b409 : Bd v405 (0) (0) := ⟨(b407).1, by omega⟩
                    obtain ⟨v410, ee411⟩ : ∃ z : Int32, f397 41 = z := ⟨_, rfl⟩
                    have b412 : Bd v410 (0) (12) := (by rw [← ee411]; exact b399.2.1 41 (by decide))
                    have q413 : elm (S394 7) 41 = v410.toInt := (elm_of c398 41).trans (congrArg Int32.toInt (ee411))
                    have b414 : Bd v410 (0) (0) := ⟨(b412).1, by omega⟩
                    obtain ⟨v415, ee416⟩ : ∃ z : Int32, f397 43 = z := ⟨_, rfl⟩
                    have b417 : Bd v415 (0) (12) := (by rw [← ee416]; exact b399.2.2.2.1 43 (by decide))
                    have q418 : elm (S394 7) 43 = v415.toInt := (elm_of c398 43).trans (congrArg Int32.toInt (ee416))
                    have b419 : Bd v415 (0) (0) := ⟨(b417).1, by omega⟩
                    obtain ⟨v420, ee421⟩ : ∃ z : Int32, f397 46 = z := ⟨_, rfl⟩
                    have b422 : Bd v420 (0) (8) := (by rw [← ee421]; exact b399.2.2.2.2.1 46 (by decide))
                    have q423 : elm (S394 7) 46 = v420.toInt := (elm_of c398 46).trans (congrArg Int32.toInt (ee421))
                    have b424 : Bd v420 (0) (0) := ⟨(b422).1, by omega⟩
                    obtain ⟨v425, ee426⟩ : ∃ z : Int32, f397 47 = z := ⟨_, rfl⟩
                    have b427 : Bd v425 (0) (6) := (by rw [← ee426]; exact b399.2.2.2.2.2.1 47 (by decide))
                    have q428 : elm (S394 7) 47 = v425.toInt := (elm_of c398 47).trans (congrArg Int32.toInt (ee426))
                    have b429 : Bd v425 (0) (0) := ⟨(b427).1, by omega⟩
                    obtain ⟨v430, ee431⟩ : ∃ z : Int32, f397 49 = z := ⟨_, rfl⟩
                    have b432 : Bd v430 (0) (40) := (by rw [← ee431]; exact b399.2.2.2.2.2.2.2 49 (by decide))
                    have q433 : elm (S394 7) 49 = v430.toInt := (elm_of c398 49).trans (congrArg Int32.toInt (ee431))
                    refine lv_iinc (v := 9) (lv' := [(1, .int 9), (0, .ref (ad 0))]) hx hb dX12_clears_21 hl (k := 0) rfl (by decide) (by decide) rfl (fun ls hl => ?_)
                    refine lv_goto (tgt := 9) hx hb dX12_clears_24 (by decide) ?_
                    refine lv_iload_n hx hb dX12_clears_9 rfl (lv_at hl 0 rfl) ?_
                    refine lv_bipush (v := 10) hx hb dX12_clears_10 (by decide) ?_
                    refine lv_icmp_ge (tgt := 27) hx hb dX12_clears_12 (by decide) (fun k434 => ?_) (fun k434 => ?_)
                    · have h435 := ib_le k434
                      exact absurd h435 (by decide)
                    · have h436 := ib_nle k434
                      refine lv_aload_n hx hb dX12_clears_15 rfl (lv_at hl 1 rfl) ?_
                      refine lv_iload_n hx hb dX12_clears_16 rfl (lv_at hl 0 rfl) ?_
                      refine lv_iconst (v := 0) hx hb dX12_clears_17 (by decide) ?_
                      have c438 : S394 0 = .inr (12, [.int v31, .ref (ad 1), .ref (ad 2), .ref (ad 3), .ref (ad 4), .ref (ad 5), .int v32, .int v34, .int v36, .int v38, .int v39, .long w40, .int v41, .int v43, .int v44, .int v45, .ref (ad 6), .ref (ad 7), .ref (ad 8), .ref (ad 9), .ref (ad 10), .ref (ad 11), .ref (ad 12), .ref (ad 13), .ref (ad 14), .ref (ad 15), .int v46, .int v48, .ref (ad 16), .int v50, .int v52, .int v54, .int v56, .int v57, .ref (ad 17), .ref (ad 18), .int v58, .ref (ad 19)]) := ((o394 0 (by decide)).trans c395)
                      refine xcVv E hs hQ hml hl.1 0 (gX12_tells_9 l g ad hD S394 hI 0 (ib_wk (by decide : Bd 0 (0) (0)) (by decide) (by decide))) mX12_tells q1629 (by decide) c438 rfl rfl ⟨(Nat.le_of_ble_eq_true rfl), (Nat.le_of_ble_eq_true rfl)⟩ ⟨(Nat.le_of_ble_eq_true rfl), (Nat.le_of_ble_eq_true rfl)⟩ (Nat.le_of_ble_eq_true rfl) rfl dX12_clears_18 (fun S437 H locs hp437 hQ _ => ?_)
                      obtain ⟨hI, o437, g437_0, g437_1, g437_2, g437_3, g437_4, g437_5, g437_6, ef437_7⟩ := hp437
                      have ef439 : EFp (S437 7) (S 7) 0 40 := ef_tt ef437_7 ef396
                      obtain ⟨f440, c441, b442⟩ := invM_7 hI
                      obtain ⟨v443, ee444⟩ : ∃ z : Int32, f440 49 = z := ⟨_, rfl⟩
                      have b445 : Bd v443 (0) (40) := (by rw [← ee444]; exact b442.2.2.2.2.2.2.2 49 (by decide))
                      have q446 : elm (S437 7) 49 = v443.toInt := (elm_of c441 49).trans (congrArg Int32.toInt (ee444))
                      have b447 : Bd v443 (0) (0) := ⟨(b445).1, by omega⟩
                      obtain ⟨v448, ee449⟩ : ∃ z : Int32, f440 40 = z := ⟨_, rfl⟩
                      have b450 : Bd v448 (0) (12) := (by rw [← ee449]; exact b442.1 40 (by decide))
                      have q451 : elm (S437 7) 40 = v448.toInt := (elm_of c441 40).trans (congrArg Int32.toInt (ee449))
                      have b452 : Bd v448 (0) (0) := ⟨(b450).1, by omega⟩
                      obtain ⟨v453, ee454⟩ : ∃ z : Int32, f440 41 = z := ⟨_, rfl⟩
                      have b455 : Bd v453 (0) (12) := (by rw [← ee454]; exact b442.2.1 41 (by decide))
                      have q456 : elm (S437 7) 41 = v453.toInt := (elm_of c441 41).trans (congrArg Int32.toInt (ee454))
                      have b457 : Bd v453 (0) (0) := ⟨(b455).1, by omega⟩
                      obtain ⟨v458, ee459⟩ : ∃ z : Int32, f440 43 = z := ⟨_, rfl⟩
                      have b460 : Bd v458 (0) (12) := (by rw [← ee459]; exact b442.2.2.2.1 43 (by decide))
                      have q461 : elm (S437 7) 43 = v458.toInt := (elm_of c441 43).trans (congrArg Int32.toInt (ee459))
                      have b462 : Bd v458 (0) (0) := ⟨(b460).1, by omega⟩
                      obtain ⟨v463, ee464⟩ : ∃ z : Int32, f440 46 = z := ⟨_, rfl⟩
                      have b465 : Bd v463 (0) (8) := (by rw [← ee464]; exact b442.2.2.2.2.1 46 (by decide))
                      have q466 : elm (S437 7) 46 = v463.toInt := (elm_of c441 46).trans (congrArg Int32.toInt (ee464))
                      have b467 : Bd v463 (0) (0) := ⟨(b465).1, by omega⟩
                      obtain ⟨v468, ee469⟩ : ∃ z : Int32, f440 47 = z := ⟨_, rfl⟩
                      have b470 : Bd v468 (0) (6) := (by rw [← ee469]; exact b442.2.2.2.2.2.1 47 (by decide))
                      have q471 : elm (S437 7) 47 = v468.toInt := (elm_of c441 47).trans (congrArg Int32.toInt (ee469))
                      have b472 : Bd v468 (0) (0) := ⟨(b470).1, by omega⟩
                      obtain ⟨v473, ee474⟩ : ∃ z : Int32, f440 48 = z := ⟨_, rfl⟩
                      have b475 : Bd v473 (0) (3) := (by rw [← ee474]; exact b442.2.2.2.2.2.2.1 48 (by decide))
                      have q476 : elm (S437 7) 48 = v473.toInt := (elm_of c441 48).trans (congrArg Int32.toInt (ee474))
                      have b477 : Bd v473 (0) (0) := ⟨(b475).1, by omega⟩
                      refine lv_iinc (v := 10) (lv' := [(1, .int 10), (0, .ref (ad 0))]) hx hb dX12_clears_21 hl (k := 0) rfl (by decide) (by decide) rfl (fun ls hl => ?_)
                      refine lv_goto (tgt := 9) hx hb dX12_clears_24 (by decide) ?_
                      refine lv_iload_n hx hb dX12_clears_9 rfl (lv_at hl 0 rfl) ?_
                      refine lv_bipush (v := 10) hx hb dX12_clears_10 (by decide) ?_
                      refine lv_icmp_ge (tgt := 27) hx hb dX12_clears_12 (by decide) (fun k478 => ?_) (fun k478 => ?_)
                      · have h479 := ib_le k478
                        refine lv_iconst (v := 0) hx hb dX12_clears_27 (by decide) ?_
                        refine lv_istore_n (lv' := [(1, .int 0), (0, .ref (ad 0))]) hx hb dX12_clears_28 rfl hl (by decide) rfl (fun ls hl => ?_)
                        have loop29 : ∀ (n : Nat) (S_29 : SS) (H : Heap) (locs : List Loc) (ls : Array Slot) (x29_1 : Int32), Bd x29_1 (0) (35) → (-1) * x29_1.toInt + 35 < ((n : Nat) : Int) → InvM g ad S_29 → (∀ j, j ∉ ([8] : List Nat) → S_29 j = S437 j) → Hp g ad 20 S_29 (FA ad 20) s.heap H locs → lv_has ls 2 [(1, .int x29_1), (0, .ref (ad 0))] → W p l e (Rm 1) s m [.ref (ad 0)].toArray below meth c H locs 0 0 (MQ below (va_Qv (fun S' => InvM g ad S' ∧ (∀ j, j ∉ ([6, 7, 8] : List Nat) → S' j = S j) ∧ (0 ≤ (-1) * elm (S' 7) 40 ∧ 0 ≤ elm (S' 7) 40) ∧ (0 ≤ (-1) * elm (S' 7) 41 ∧ 0 ≤ elm (S' 7) 41) ∧ (0 ≤ (-1) * elm (S' 7) 43 ∧ 0 ≤ elm (S' 7) 43) ∧ (0 ≤ (-1) * elm (S' 7) 46 ∧ 0 ≤ elm (S' 7) 46) ∧ (0 ≤ (-1) * elm (S' 7) 47 ∧ 0 ≤ elm (S' 7) 47) ∧ (0 ≤ (-1) * elm (S' 7) 48 ∧ 0 ≤ elm (S' 7) 48) ∧ (0 ≤ (-1) * elm (S' 7) 49 ∧ 0 ≤ elm (S' 7) 49) ∧ (0 ≤ (-1) * elm (S' 6) 4 ∧ 0 ≤ elm (S' 6) 4) ∧ EFp (S' 7) (S 7) 0 40 ∧ EFp (S' 6) (S 6) 0 4) (QB g ad 20) (FA ad 20)) [.ref (ad 0)].toArray s 0 0 (FA ad 20)) (F0 m 29 ls []) := by
                          intro n
                          induction n with
                          | zero => intro S_29 H locs ls x29_1 Bx29_1 hn29_ hI hf29 hQ hl; exfalso; have := (Bx29_1).2; omega
                          | succ n29_ ih29 =>
                            intro S_29 H locs ls x29_1 Bx29_1 hn29_ hI hf29 hQ hl
                            refine lv_iload_n hx hb dX12_clears_29 rfl (lv_at hl 0 rfl) ?_
                            refine lv_bipush (v := 24) hx hb dX12_clears_30 (by decide) ?_
                            refine lv_icmp_ge (tgt := 51) hx hb dX12_clears_32 (by decide) (fun k480 => ?_) (fun k480 => ?_)
                            · have h481 := ib_le k480
                              have b482 : Bd x29_1 (24) (35) := ⟨((rf_le (by decide : Bd 24 (24) (24)) Bx29_1 h481).2).1, (Bx29_1).2⟩
                              have c483 : S_29 7 = .inl (g.2 0, 50, .inl f440) := ((hf29 7 (by decide)).trans c441)
                              have q484 : elm (S_29 7) 40 = v448.toInt := (elm_of c483 40).trans (congrArg Int32.toInt (ee449))
                              have q485 : elm (S_29 7) 41 = v453.toInt := (elm_of c483 41).trans (congrArg Int32.toInt (ee454))
                              have q486 : elm (S_29 7) 43 = v458.toInt := (elm_of c483 43).trans (congrArg Int32.toInt (ee459))
                              have q487 : elm (S_29 7) 46 = v463.toInt := (elm_of c483 46).trans (congrArg Int32.toInt (ee464))
                              have q488 : elm (S_29 7) 47 = v468.toInt := (elm_of c483 47).trans (congrArg Int32.toInt (ee469))
                              have q489 : elm (S_29 7) 48 = v473.toInt := (elm_of c483 48).trans (congrArg Int32.toInt (ee474))
                              have q490 : elm (S_29 7) 49 = v443.toInt := (elm_of c483 49).trans (congrArg Int32.toInt (ee444))
                              have c491 : S_29 6 = .inl (g.2 0, 5, .inl (upd f25 (4 : Int32).toNatClampNeg 0)) := ((hf29 6 (by decide)).trans ((o437 6 (by decide)).trans ((o394 6 (by decide)).trans ((o352 6 (by decide)).trans ((o311 6 (by decide)).trans ((o271 6 (by decide)).trans ((o231 6 (by decide)).trans ((o191 6 (by decide)).trans ((o152 6 (by decide)).trans ((o113 6 (by decide)).trans ((o68 6 (by decide)).trans c61)))))))))))
                              have q492 : elm (S_29 6) 4 = 0 := (elm_of c491 4).trans ((congrArg Int32.toInt ((upd_s))).trans (by decide))
                              exact xrv E hr hlk hQ (⟨hI, (o_trans (o_trans (o_trans (o_trans (o_trans (o_trans (o_trans (o_trans (o_trans (o_trans (o_trans (up_o o_refl eS60 (by decide)) o68 (by decide)) o113 (by decide)) o152 (by decide)) o191 (by decide)) o231 (by decide)) o271 (by decide)) o311 (by decide)) o352 (by decide)) o394 (by decide)) o437 (by decide)) hf29 (by decide)), ⟨by omega, by omega⟩, ⟨by omega, by omega⟩, ⟨by omega, by omega⟩, ⟨by omega, by omega⟩, ⟨by omega, by omega⟩, ⟨by omega, by omega⟩, ⟨by omega, by omega⟩, ⟨by omega, by omega⟩, (ef_tr ef439 (hf29 7 (by decide))), (ef_tr ef63 ((hf29 6 (by decide)).trans ((o437 6 (by decide)).trans ((o394 6 (by decide)).trans ((o352 6 (by decide)).trans ((o311 6 (by decide)).trans ((o271 6 (by decide)).trans ((o231 6 (by decide)).trans ((o191 6 (by decide)).trans ((o152 6 (by decide)).trans ((o113 6 (by decide)).trans (o68 6 (by decide)))))))))))))⟩) dX12_clears_51
                            · have h493 := ib_nle k480
                              have b494 : Bd x29_1 (0) (23) := ⟨(Bx29_1).1, ((rf_lt Bx29_1 (by decide : Bd 24 (24) (24)) h493).1).2⟩
                              refine lv_aload_n hx hb dX12_clears_35 rfl (lv_at hl 1 rfl) ?_
                              have c495 : S_29 0 = .inr (12, [.int v31, .ref (ad 1), .ref (ad 2), .ref (ad 3), .ref (ad 4), .ref (ad 5), .int v32, .int v34, .int v36, .int v38, .int v39, .long w40, .int v41, .int v43, .int v44, .int v45, .ref (ad 6), .ref (ad 7), .ref (ad 8), .ref (ad 9), .ref (ad 10), .ref (ad 11), .ref (ad 12), .ref (ad 13), .ref (ad 14), .ref (ad 15), .int v46, .int v48, .ref (ad 16), .int v50, .int v52, .int v54, .int v56, .int v57, .ref (ad 17), .ref (ad 18), .int v58, .ref (ad 19)]) := ((hf29 0 (by decide)).trans ((o437 0 (by decide)).trans c438))
                              refine xget E hQ 0 (by decide) c495 rfl 18 (by decide) q1486 rfl dX12_clears_36 ?_
                              refine lv_bipush (v := 96) hx hb dX12_clears_39 (by decide) ?_
                              refine lv_iload_n hx hb dX12_clears_41 rfl (lv_at hl 0 rfl) ?_
                              refine lv_iadd hx hb dX12_clears_42 ?_
                              refine lv_topi (fun z496 e497 => ?_)
                              have t498 := ib_add e497 (by decide : Bd 96 (96) (96)) b494 (by decide) (by decide)
                              have b499 : Bd z496 (96) (119) := ib_addb t498 (by decide : Bd 96 (96) (96)) b494
                              have t498 : z496.toInt = 96 + x29_1.toInt := fold_add t498 (by decide) rfl
                              refine lv_iconst (v := 0) hx hb dX12_clears_43 (by decide) ?_
                              obtain ⟨f500, c501⟩ := invM_8 hI
                              refine xiast E hs hQ 8 (by decide) c501 (ib_in b499 (by decide) (by decide)) dX12_clears_44 (fun H locs S503 eS503 hQ => ?_)
                              have hI := invM_up_8 hI eS503 ⟨_, rfl⟩
                              have c504 : S503 8 = .inl (g.2 0, 120, .inl (upd f500 (z496 : Int32).toNatClampNeg 0)) := up_at eS503 rfl
                              obtain ⟨z505, e506⟩ : ∃ z : Int32, z = x29_1 + 1 := ⟨_, rfl⟩
                              have t507 := ib_add e506 b494 (by decide : Bd 1 (1) (1)) (by decide) (by decide)
                              have b508 : Bd z505 (1) (24) := ib_addb t507 b494 (by decide : Bd 1 (1) (1))
                              have t507 : z505.toInt = x29_1.toInt + 1 := fold_add t507 rfl (by decide)
                              refine lv_iinc (v := z505) (lv' := [(1, .int z505), (0, .ref (ad 0))]) hx hb dX12_clears_45 hl (k := 0) rfl (by rw [e506]; rfl) (by decide) rfl (fun ls hl => ?_)
                              refine lv_goto (tgt := 29) hx hb dX12_clears_48 (by decide) ?_
                              exact ih29 _ _ _ _ z505 (ib_wk b508 (by decide) (by decide)) (by omega) hI (up_o hf29 eS503 (by decide)) hQ (lv_sub hl [0, 1] rfl)
                        obtain ⟨n29, hn29⟩ := fu_n (35)
                        exact loop29 n29 _ _ _ _ 0 (ib_wk (by decide : Bd 0 (0) (0)) (by decide) (by decide)) (by have : (0 : Int32).toInt = 0 := (by decide); omega) hI o_refl hQ (lv_sub hl [0, 1] rfl)
                      · have h509 := ib_nle k478
                        exact absurd h509 (by decide)
