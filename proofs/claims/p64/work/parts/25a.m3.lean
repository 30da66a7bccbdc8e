set_option maxHeartbeats 4000000 in
set_option maxRecDepth 100000 in
theorem gX12_four_0 (l : Launch) (g : GG) (ad : Nat → Nat) (hD : Dj ad 20) (S : SS) (hI : InvM g ad S) (a1 : Int32) (hq1 : 0 ≤ (-1) * fld (S 0) 6 + 1196) : Met l yX12_four (wG (.code yX12_four cX12_four 3 none)) (Rm 0) (XPre g ad 20 S [.ref (ad 0), .int a1]) (va_Qv (fun S' => InvM g ad S' ∧ (∀ j, j ∉ ([0, 5] : List Nat) → S' j = S j) ∧ (0 ≤ fld (S 0) 6 + (-1) * fld (S' 0) 6 + 4 ∧ 0 ≤ fld (S' 0) 6 + (-1) * fld (S 0) 6 + (-4))) (QB g ad 20) (FA ad 20)) 0 0 (FA ad 20) := by
  refine xmet cX12_four "EbbWreckModel" (by decide) rfl (Nat.le_of_ble_eq_true rfl) (fun p e s m below meth c E hr hlk hml hQ ls hl => ?_)
  have hx := E.1
  have hb := E.2.1
  have hs : Sp ad 20 (FA ad 20) := Sp.fa hD
  have hl : lv_has ls 3 [(0, .ref (ad 0)), (1, .int a1)] := hl
  obtain ⟨v1, v2, v4, v6, v8, v9, w10, v11, v13, v14, v15, v16, v18, v20, v22, v24, v26, v27, v28, c29, b3, b5, b7, b12, b17, b19, b21, b23, b25⟩ := invM_0 hI
  have c29 : S 0 = .inr (12, [.int v1, .ref (ad 1), .ref (ad 2), .ref (ad 3), .ref (ad 4), .ref (ad 5), .int v2, .int v4, .int v6, .int v8, .int v9, .long w10, .int v11, .int v13, .int v14, .int v15, .ref (ad 6), .ref (ad 7), .ref (ad 8), .ref (ad 9), .ref (ad 10), .ref (ad 11), .ref (ad 12), .ref (ad 13), .ref (ad 14), .ref (ad 15), .int v16, .int v18, .ref (ad 16), .int v20, .int v22, .int v24, .int v26, .int v27, .ref (ad 17), .ref (ad 18), .int v28, .ref (ad 19)]) := c29
  have q30 : fld (S 0) 6 = v2.toInt := fld_of c29 rfl
  have b31 : Bd v2 (0) (1196) := ⟨(b3).1, by omega⟩
  refine lv_bipush (v := 24) hx hb dX12_four_0 (by decide) ?_
  refine lv_istore_n (lv' := [(2, .int 24), (0, .ref (ad 0)), (1, .int a1)]) hx hb dX12_four_2 rfl hl (by decide) rfl (fun ls hl => ?_)
  have loop3 : ∀ (n : Nat) (S_3 : SS) (H : Heap) (locs : List Loc) (ls : Array Slot) (x3_2 : Int32) (y3_0_0 : Int32) (y3_0_6 : Int32) (y3_0_7 : Int32) (y3_0_8 : Int32) (y3_0_9 : Int32) (y3_0_10 : Int32) (wy3_0_11 : Int64) (y3_0_12 : Int32) (y3_0_13 : Int32) (y3_0_14 : Int32) (y3_0_15 : Int32) (y3_0_26 : Int32) (y3_0_27 : Int32) (y3_0_29 : Int32) (y3_0_30 : Int32) (y3_0_31 : Int32) (y3_0_32 : Int32) (y3_0_33 : Int32) (y3_0_36 : Int32), Bd x3_2 (-20) (24) → Bd y3_0_6 (0) (100000) → Bd y3_0_7 (0) (1200) → Bd y3_0_8 (0) (4) → Bd y3_0_12 (0) (3) → Bd y3_0_26 (0) (11) → Bd y3_0_27 (-1) (400) → Bd y3_0_29 (0) (2) → Bd y3_0_30 (0) (11) → Bd y3_0_31 (-1) (468) → 0 ≤ 8 * v2.toInt + (-8) * y3_0_6.toInt + (-1) * x3_2.toInt + 24 → 0 ≤ 8 * y3_0_6.toInt + x3_2.toInt + (-8) * v2.toInt + (-24) → 0 ≤ x3_2.toInt + 8 → x3_2.toInt + 20 < ((n : Nat) : Int) → InvM g ad S_3 → (∀ j, j ∉ ([0, 5] : List Nat) → S_3 j = S j) → S_3 0 = .inr (12, [.int y3_0_0, .ref (ad 1), .ref (ad 2), .ref (ad 3), .ref (ad 4), .ref (ad 5), .int y3_0_6, .int y3_0_7, .int y3_0_8, .int y3_0_9, .int y3_0_10, .long wy3_0_11, .int y3_0_12, .int y3_0_13, .int y3_0_14, .int y3_0_15, .ref (ad 6), .ref (ad 7), .ref (ad 8), .ref (ad 9), .ref (ad 10), .ref (ad 11), .ref (ad 12), .ref (ad 13), .ref (ad 14), .ref (ad 15), .int y3_0_26, .int y3_0_27, .ref (ad 16), .int y3_0_29, .int y3_0_30, .int y3_0_31, .int y3_0_32, .int y3_0_33, .ref (ad 17), .ref (ad 18), .int y3_0_36, .ref (ad 19)]) → Hp g ad 20 S_3 (FA ad 20) s.heap H locs → lv_has ls 3 [(2, .int x3_2), (0, .ref (ad 0)), (1, .int a1)] → W p l e (Rm 0) s m [.ref (ad 0), .int a1].toArray below meth c H locs 0 0 (MQ below (va_Qv (fun S' => InvM g ad S' ∧ (∀ j, j ∉ ([0, 5] : List Nat) → S' j = S j) ∧ (0 ≤ fld (S 0) 6 + (-1) * fld (S' 0) 6 + 4 ∧ 0 ≤ fld (S' 0) 6 + (-1) * fld (S 0) 6 + (-4))) (QB g ad 20) (FA ad 20)) [.ref (ad 0), .int a1].toArray s 0 0 (FA ad 20)) (F0 m 3 ls []) := by
    intro n
    induction n with
    | zero => intro S_3 H locs ls x3_2 y3_0_0 y3_0_6 y3_0_7 y3_0_8 y3_0_9 y3_0_10 wy3_0_11 y3_0_12 y3_0_13 y3_0_14 y3_0_15 y3_0_26 y3_0_27 y3_0_29 y3_0_30 y3_0_31 y3_0_32 y3_0_33 y3_0_36 Bx3_2 By3_0_6 By3_0_7 By3_0_8 By3_0_12 By3_0_26 By3_0_27 By3_0_29 By3_0_30 By3_0_31 C3_0 C3_1 C3_2 hn3_ hI hf3 cl3_0 hQ hl; exfalso; have := (Bx3_2).1; omega
    | succ n3_ ih3 =>
      intro S_3 H locs ls x3_2 y3_0_0 y3_0_6 y3_0_7 y3_0_8 y3_0_9 y3_0_10 wy3_0_11 y3_0_12 y3_0_13 y3_0_14 y3_0_15 y3_0_26 y3_0_27 y3_0_29 y3_0_30 y3_0_31 y3_0_32 y3_0_33 y3_0_36 Bx3_2 By3_0_6 By3_0_7 By3_0_8 By3_0_12 By3_0_26 By3_0_27 By3_0_29 By3_0_30 By3_0_31 C3_0 C3_1 C3_2 hn3_ hI hf3 cl3_0 hQ hl
      have b32 : Bd y3_0_6 (0) (1200) := ⟨(By3_0_6).1, by omega⟩
      refine lv_iload_n hx hb dX12_four_3 rfl (lv_at hl 0 rfl) ?_
      refine lv_if_lt (tgt := 36) hx hb dX12_four_4 (by decide) (fun k33 => ?_) (fun k33 => ?_)
      · have h34 := ib_lt k33
        have b35 : Bd x3_2 (-20) (-1) := ⟨(Bx3_2).1, ((rf_lt Bx3_2 (by decide : Bd 0 (0) (0)) h34).1).2⟩
        have q36 : fld (S_3 0) 6 = y3_0_6.toInt := fld_of cl3_0 rfl
        exact xrv E hr hlk hQ (⟨hI, (o_trans o_refl hf3 (by decide)), ⟨by omega, by omega⟩⟩) dX12_four_36
      · have h37 := ib_nlt k33
        have b38 : Bd x3_2 (0) (24) := ⟨((rf_le (by decide : Bd 0 (0) (0)) Bx3_2 h37).2).1, (Bx3_2).2⟩
        refine lv_aload_n hx hb dX12_four_7 rfl (lv_at hl 1 rfl) ?_
        refine xget E hQ 0 (by decide) cl3_0 rfl 5 (by decide) q1473 rfl dX12_four_8 ?_
        refine lv_aload_n hx hb dX12_four_11 rfl (lv_at hl 1 rfl) ?_
        refine xget E hQ 0 (by decide) cl3_0 rfl 6 (by decide) q1474 rfl dX12_four_12 ?_
        refine lv_iload_n hx hb dX12_four_15 rfl (lv_at hl 2 rfl) ?_
        refine lv_iload_n hx hb dX12_four_16 rfl (lv_at hl 0 rfl) ?_
        refine lv_ishr hx hb dX12_four_17 ?_
        refine lv_topi (fun z39 e40 => ?_)
        refine lv_i2b hx hb dX12_four_18 rfl ?_
        refine lv_topi (fun z41 e42 => ?_)
        have b43 : Bd z41 (-128) (127) := (by rw [e42]; exact ib_byte _)
        obtain ⟨f44, c45, b46⟩ := invM_5 hI
        refine xbast E hs hQ 5 (by decide) c45 (ib_inx (n := 1200) (by omega) (by omega)) dX12_four_19 (fun H locs S47 eS47 hQ => ?_)
        have hI := invM_up_5 hI eS47 ⟨_, rfl, upd_b b46 (nar_b _)⟩
        have b49 : ∀ j, Bd ((upd f44 (y3_0_6 : Int32).toNatClampNeg (vp_nar .byte z41)) j) (-128) (127) := upd_b b46 (nar_b _)
        have c48 : S47 5 = .inl (g.2 1, 1200, .inl (upd f44 (y3_0_6 : Int32).toNatClampNeg (vp_nar .byte z41))) := up_at eS47 rfl
        refine lv_aload_n hx hb dX12_four_20 rfl (lv_at hl 1 rfl) ?_
        refine lv_dup hx hb dX12_four_21 rfl ?_
        have c50 : S47 0 = .inr (12, [.int y3_0_0, .ref (ad 1), .ref (ad 2), .ref (ad 3), .ref (ad 4), .ref (ad 5), .int y3_0_6, .int y3_0_7, .int y3_0_8, .int y3_0_9, .int y3_0_10, .long wy3_0_11, .int y3_0_12, .int y3_0_13, .int y3_0_14, .int y3_0_15, .ref (ad 6), .ref (ad 7), .ref (ad 8), .ref (ad 9), .ref (ad 10), .ref (ad 11), .ref (ad 12), .ref (ad 13), .ref (ad 14), .ref (ad 15), .int y3_0_26, .int y3_0_27, .ref (ad 16), .int y3_0_29, .int y3_0_30, .int y3_0_31, .int y3_0_32, .int y3_0_33, .ref (ad 17), .ref (ad 18), .int y3_0_36, .ref (ad 19)]) := (up_ne eS47 (by decide) cl3_0)
        refine xget E hQ 0 (by decide) c50 rfl 6 (by decide) q1474 rfl dX12_four_22 ?_
        refine lv_iconst (v := 1) hx hb dX12_four_25 (by decide) ?_
        refine lv_iadd hx hb dX12_four_26 ?_
        refine lv_topi (fun z51 e52 => ?_)
        have t53 := ib_add e52 b32 (by decide : Bd 1 (1) (1)) (by decide) (by decide)
        have b54 : Bd z51 (1) (1201) := ib_addb t53 b32 (by decide : Bd 1 (1) (1))
        have t53 : z51.toInt = y3_0_6.toInt + 1 := fold_add t53 rfl (by decide)
        refine xputi E hs hQ 0 (by decide) c50 rfl 6 (by decide) q1474 rfl rfl (Nat.le_of_ble_eq_true rfl) dX12_four_27 (fun H locs S55 eS55 hQ => ?_)
        have hI := invM_up_0 hI eS55 ⟨y3_0_0, z51, y3_0_7, y3_0_8, y3_0_9, y3_0_10, wy3_0_11, y3_0_12, y3_0_13, y3_0_14, y3_0_15, y3_0_26, y3_0_27, y3_0_29, y3_0_30, y3_0_31, y3_0_32, y3_0_33, y3_0_36, rfl, (⟨by omega, by omega⟩ : Bd z51 (0) (1200)), By3_0_7, By3_0_8, By3_0_12, By3_0_26, By3_0_27, By3_0_29, By3_0_30, By3_0_31⟩
        have c56 : S55 0 = .inr (12, [.int y3_0_0, .ref (ad 1), .ref (ad 2), .ref (ad 3), .ref (ad 4), .ref (ad 5), .int z51, .int y3_0_7, .int y3_0_8, .int y3_0_9, .int y3_0_10, .long wy3_0_11, .int y3_0_12, .int y3_0_13, .int y3_0_14, .int y3_0_15, .ref (ad 6), .ref (ad 7), .ref (ad 8), .ref (ad 9), .ref (ad 10), .ref (ad 11), .ref (ad 12), .ref (ad 13), .ref (ad 14), .ref (ad 15), .int y3_0_26, .int y3_0_27, .ref (ad 16), .int y3_0_29, .int y3_0_30, .int y3_0_31, .int y3_0_32, .int y3_0_33, .ref (ad 17), .ref (ad 18), .int y3_0_36, .ref (ad 19)]) := up_at eS55 rfl
        obtain ⟨z57, e58⟩ : ∃ z : Int32, z = x3_2 + (-8) := ⟨_, rfl⟩
        have t59 := ib_add e58 b38 (by decide : Bd (-8) (-8) (-8)) (by decide) (by decide)
        have b60 : Bd z57 (-8) (16) := ib_addb t59 b38 (by decide : Bd (-8) (-8) (-8))
        have t59 : z57.toInt = x3_2.toInt + (-8) := fold_add t59 rfl (by decide)
        refine lv_iinc (v := z57) (lv' := [(2, .int z57), (0, .ref (ad 0)), (1, .int a1)]) hx hb dX12_four_30 hl (k := 0) rfl (by rw [e58]; rfl) (by decide) rfl (fun ls hl => ?_)
        refine lv_goto (tgt := 3) hx hb dX12_four_33 (by decide) ?_
        exact ih3 _ _ _ _ z57 y3_0_0 z51 y3_0_7 y3_0_8 y3_0_9 y3_0_10 wy3_0_11 y3_0_12 y3_0_13 y3_0_14 y3_0_15 y3_0_26 y3_0_27 y3_0_29 y3_0_30 y3_0_31 y3_0_32 y3_0_33 y3_0_36 (ib_wk b60 (by decide) (by decide)) (ib_wk b54 (by decide) (by decide)) By3_0_7 By3_0_8 By3_0_12 By3_0_26 By3_0_27 By3_0_29 By3_0_30 By3_0_31 (by omega) (by omega) (by omega) (by omega) hI (up_o (up_o hf3 eS47 (by decide)) eS55 (by decide)) c56 hQ (lv_sub hl [0, 1, 2] rfl)
  obtain ⟨n3, hn3⟩ := fu_n (44)
  exact loop3 n3 _ _ _ _ 24 v1 v2 v4 v6 v8 v9 w10 v11 v13 v14 v15 v16 v18 v20 v22 v24 v26 v27 v28 (ib_wk (by decide : Bd 24 (24) (24)) (by decide) (by decide)) (ib_wk b31 (by decide) (by decide)) b5 b7 b12 b17 b19 b21 b23 b25 (by have : (24 : Int32).toInt = 24 := (by decide); omega) (by have : (24 : Int32).toInt = 24 := (by decide); omega) (by have : (24 : Int32).toInt = 24 := (by decide); omega) (by have : (24 : Int32).toInt = 24 := (by decide); omega) hI o_refl c29 hQ (lv_sub hl [0, 1, 2] rfl)
set_option maxHeartbeats 4000000 in
set_option maxRecDepth 100000 in
theorem gX12_feed_0 (l : Launch) (g : GG) (ad : Nat → Nat) (hD : Dj ad 20) (S : SS) (hI : InvM g ad S) (a1 : Int32) (a2 : Int32) (a3 : Int32) (a4 : Int32) (a5 : Int32) (hq1 : 0 ≤ 12 * elm (S 7) 1 + (-1) * elm (S 7) 0) (hq2 : 0 ≤ 12 * elm (S 7) 3 + (-1) * elm (S 7) 0) (hq3 : 0 ≤ 8 * elm (S 7) 0 + (-1) * elm (S 7) 6) (hq4 : 0 ≤ 3 * elm (S 7) 0 + (-1) * elm (S 7) 8) (hq5 : 0 ≤ 40000 * elm (S 7) 0 + (-1) * elm (S 6) 0) : Met l yX12_feed (wG (.code yX12_feed cX12_feed 6 (some .int))) (Rm 1) (XPre g ad 20 S [.ref (ad 0), .int a1, .int a2, .int a3, .int a4, .int a5]) (va_Qi (fun r S' => InvM g ad S' ∧ (∀ j, j ∉ ([0, 5] : List Nat) → S' j = S j) ∧ Bd r (-1) (1200)) (QB g ad 20) (FA ad 20)) 0 0 (FA ad 20) := by
  refine xmet cX12_feed "EbbWreckModel" (by decide) rfl (Nat.le_of_ble_eq_true rfl) (fun p e s m below meth c E hr hlk hml hQ ls hl => ?_)
  have hx := E.1
  have hb := E.2.1
  have hs : Sp ad 20 (FA ad 20) := Sp.fa hD
  have hl : lv_has ls 6 [(0, .ref (ad 0)), (1, .int a1), (2, .int a2), (3, .int a3), (4, .int a4), (5, .int a5)] := hl
  obtain ⟨f1, c2, b3⟩ := invM_7 hI
  obtain ⟨v4, ee5⟩ : ∃ z : Int32, f1 1 = z := ⟨_, rfl⟩
  have b6 : Bd v4 (0) (12) := (by rw [← ee5]; exact b3.2.1 1 (by decide))
  obtain ⟨v7, ee8⟩ : ∃ z : Int32, f1 0 = z := ⟨_, rfl⟩
  have b9 : Bd v7 (0) (12) := (by rw [← ee8]; exact b3.1 0 (by decide))
  obtain ⟨v10, ee11⟩ : ∃ z : Int32, f1 3 = z := ⟨_, rfl⟩
  have b12 : Bd v10 (0) (12) := (by rw [← ee11]; exact b3.2.2.2.1 3 (by decide))
  obtain ⟨v13, ee14⟩ : ∃ z : Int32, f1 6 = z := ⟨_, rfl⟩
  have b15 : Bd v13 (0) (8) := (by rw [← ee14]; exact b3.2.2.2.2.1 6 (by decide))
  obtain ⟨v16, ee17⟩ : ∃ z : Int32, f1 8 = z := ⟨_, rfl⟩
  have b18 : Bd v16 (0) (3) := (by rw [← ee17]; exact b3.2.2.2.2.2.2.1 8 (by decide))
  obtain ⟨f19, c20, b21⟩ := invM_6 hI
  obtain ⟨v22, ee23⟩ : ∃ z : Int32, f19 0 = z := ⟨_, rfl⟩
  have b24 : Bd v22 (0) (40000) := (by rw [← ee23]; exact b21 0)
  have q25 : elm (S 7) 1 = v4.toInt := (elm_of c2 1).trans (congrArg Int32.toInt (ee5))
  have q26 : elm (S 7) 0 = v7.toInt := (elm_of c2 0).trans (congrArg Int32.toInt (ee8))
  have q27 : elm (S 7) 3 = v10.toInt := (elm_of c2 3).trans (congrArg Int32.toInt (ee11))
  have q28 : elm (S 7) 6 = v13.toInt := (elm_of c2 6).trans (congrArg Int32.toInt (ee14))
  have q29 : elm (S 7) 8 = v16.toInt := (elm_of c2 8).trans (congrArg Int32.toInt (ee17))
  have q30 : elm (S 6) 0 = v22.toInt := (elm_of c20 0).trans (congrArg Int32.toInt (ee23))
  refine lv_aload_n hx hb dX12_feed_0 rfl (lv_at hl 0 rfl) ?_
  refine lv_iconst (v := 0) hx hb dX12_feed_1 (by decide) ?_
  obtain ⟨v31, v32, v34, v36, v38, v39, w40, v41, v43, v44, v45, v46, v48, v50, v52, v54, v56, v57, v58, c59, b33, b35, b37, b42, b47, b49, b51, b53, b55⟩ := invM_0 hI
  have c59 : S 0 = .inr (12, [.int v31, .ref (ad 1), .ref (ad 2), .ref (ad 3), .ref (ad 4), .ref (ad 5), .int v32, .int v34, .int v36, .int v38, .int v39, .long w40, .int v41, .int v43, .int v44, .int v45, .ref (ad 6), .ref (ad 7), .ref (ad 8), .ref (ad 9), .ref (ad 10), .ref (ad 11), .ref (ad 12), .ref (ad 13), .ref (ad 14), .ref (ad 15), .int v46, .int v48, .ref (ad 16), .int v50, .int v52, .int v54, .int v56, .int v57, .ref (ad 17), .ref (ad 18), .int v58, .ref (ad 19)]) := c59
  refine xputi E hs hQ 0 (by decide) c59 rfl 0 (by decide) q1468 rfl rfl (Nat.le_of_ble_eq_true rfl) dX12_feed_2 (fun H locs S60 eS60 hQ => ?_)
  have hI := invM_up_0 hI eS60 ⟨0, v32, v34, v36, v38, v39, w40, v41, v43, v44, v45, v46, v48, v50, v52, v54, v56, v57, v58, rfl, b33, b35, b37, b42, b47, b49, b51, b53, b55⟩
  have c61 : S60 0 = .inr (12, [.int 0, .ref (ad 1), .ref (ad 2), .ref (ad 3), .ref (ad 4), .ref (ad 5), .int v32, .int v34, .int v36, .int v38, .int v39, .long w40, .int v41, .int v43, .int v44, .int v45, .ref (ad 6), .ref (ad 7), .ref (ad 8), .ref (ad 9), .ref (ad 10), .ref (ad 11), .ref (ad 12), .ref (ad 13), .ref (ad 14), .ref (ad 15), .int v46, .int v48, .ref (ad 16), .int v50, .int v52, .int v54, .int v56, .int v57, .ref (ad 17), .ref (ad 18), .int v58, .ref (ad 19)]) := up_at eS60 rfl
  refine lv_aload_n hx hb dX12_feed_5 rfl (lv_at hl 0 rfl) ?_
  refine xget E hQ 0 (by decide) c61 rfl 6 (by decide) q1474 rfl dX12_feed_6 ?_
  refine lv_bipush (v := 20) hx hb dX12_feed_9 (by decide) ?_
  refine lv_iadd hx hb dX12_feed_11 ?_
  refine lv_topi (fun z62 e63 => ?_)
  have t64 := ib_add e63 b33 (by decide : Bd 20 (20) (20)) (by decide) (by decide)
  have b65 : Bd z62 (20) (1220) := ib_addb t64 b33 (by decide : Bd 20 (20) (20))
  have t64 : z62.toInt = v32.toInt + 20 := fold_add t64 rfl (by decide)
  refine lv_sipush (v := 1200) hx hb dX12_feed_12 (by decide) ?_
  refine lv_icmp_le (tgt := 20) hx hb dX12_feed_15 (by decide) (fun k66 => ?_) (fun k66 => ?_)
  · have h67 := ib_le k66
    have b68 : Bd z62 (20) (1200) := ⟨(b65).1, ((rf_le b65 (by decide : Bd 1200 (1200) (1200)) h67).1).2⟩
    have b69 : Bd v32 (0) (1180) := ⟨by omega, by omega⟩
    refine lv_aload_n hx hb dX12_feed_20 rfl (lv_at hl 0 rfl) ?_
    refine lv_iload_n hx hb dX12_feed_21 rfl (lv_at hl 1 rfl) ?_
    have q70 : fld (S60 0) 6 = v32.toInt := fld_of c61 rfl
    refine xcVv E hs hQ hml hl.1 0 (gX12_four_0 l g ad hD S60 hI a1 (by omega)) mX12_four q1609 (by decide) c61 rfl rfl ⟨(Nat.le_of_ble_eq_true rfl), (Nat.le_of_ble_eq_true rfl)⟩ ⟨(Nat.le_of_ble_eq_true rfl), (Nat.le_of_ble_eq_true rfl)⟩ (Nat.le_of_ble_eq_true rfl) rfl dX12_feed_22 (fun S71 H locs hp71 hQ _ => ?_)
    obtain ⟨hI, o71, g71_0⟩ := hp71
    obtain ⟨v72, v73, v75, v77, v79, v80, w81, v82, v84, v85, v86, v87, v89, v91, v93, v95, v97, v98, v99, c100, b74, b76, b78, b83, b88, b90, b92, b94, b96⟩ := invM_0 hI
    have c100 : S71 0 = .inr (12, [.int v72, .ref (ad 1), .ref (ad 2), .ref (ad 3), .ref (ad 4), .ref (ad 5), .int v73, .int v75, .int v77, .int v79, .int v80, .long w81, .int v82, .int v84, .int v85, .int v86, .ref (ad 6), .ref (ad 7), .ref (ad 8), .ref (ad 9), .ref (ad 10), .ref (ad 11), .ref (ad 12), .ref (ad 13), .ref (ad 14), .ref (ad 15), .int v87, .int v89, .ref (ad 16), .int v91, .int v93, .int v95, .int v97, .int v98, .ref (ad 17), .ref (ad 18), .int v99, .ref (ad 19)]) := c100
    have q101 : fld (S71 0) 6 = v73.toInt := fld_of c100 rfl
    have b102 : Bd v73 (4) (1184) := ⟨by omega, by omega⟩
    refine lv_aload_n hx hb dX12_feed_25 rfl (lv_at hl 0 rfl) ?_
    refine lv_iload_n hx hb dX12_feed_26 rfl (lv_at hl 2 rfl) ?_
    refine xcVv E hs hQ hml hl.1 0 (gX12_four_0 l g ad hD S71 hI a2 (by omega)) mX12_four q1609 (by decide) c100 rfl rfl ⟨(Nat.le_of_ble_eq_true rfl), (Nat.le_of_ble_eq_true rfl)⟩ ⟨(Nat.le_of_ble_eq_true rfl), (Nat.le_of_ble_eq_true rfl)⟩ (Nat.le_of_ble_eq_true rfl) rfl dX12_feed_27 (fun S103 H locs hp103 hQ _ => ?_)
    obtain ⟨hI, o103, g103_0⟩ := hp103
    obtain ⟨v104, v105, v107, v109, v111, v112, w113, v114, v116, v117, v118, v119, v121, v123, v125, v127, v129, v130, v131, c132, b106, b108, b110, b115, b120, b122, b124, b126, b128⟩ := invM_0 hI
    have c132 : S103 0 = .inr (12, [.int v104, .ref (ad 1), .ref (ad 2), .ref (ad 3), .ref (ad 4), .ref (ad 5), .int v105, .int v107, .int v109, .int v111, .int v112, .long w113, .int v114, .int v116, .int v117, .int v118, .ref (ad 6), .ref (ad 7), .ref (ad 8), .ref (ad 9), .ref (ad 10), .ref (ad 11), .ref (ad 12), .ref (ad 13), .ref (ad 14), .ref (ad 15), .int v119, .int v121, .ref (ad 16), .int v123, .int v125, .int v127, .int v129, .int v130, .ref (ad 17), .ref (ad 18), .int v131, .ref (ad 19)]) := c132
    have q133 : fld (S103 0) 6 = v105.toInt := fld_of c132 rfl
    have b134 : Bd v105 (8) (1188) := ⟨by omega, by omega⟩
    refine lv_aload_n hx hb dX12_feed_30 rfl (lv_at hl 0 rfl) ?_
    refine lv_iload_n hx hb dX12_feed_31 rfl (lv_at hl 3 rfl) ?_
    refine xcVv E hs hQ hml hl.1 0 (gX12_four_0 l g ad hD S103 hI a3 (by omega)) mX12_four q1609 (by decide) c132 rfl rfl ⟨(Nat.le_of_ble_eq_true rfl), (Nat.le_of_ble_eq_true rfl)⟩ ⟨(Nat.le_of_ble_eq_true rfl), (Nat.le_of_ble_eq_true rfl)⟩ (Nat.le_of_ble_eq_true rfl) rfl dX12_feed_32 (fun S135 H locs hp135 hQ _ => ?_)
    obtain ⟨hI, o135, g135_0⟩ := hp135
    obtain ⟨v136, v137, v139, v141, v143, v144, w145, v146, v148, v149, v150, v151, v153, v155, v157, v159, v161, v162, v163, c164, b138, b140, b142, b147, b152, b154, b156, b158, b160⟩ := invM_0 hI
    have c164 : S135 0 = .inr (12, [.int v136, .ref (ad 1), .ref (ad 2), .ref (ad 3), .ref (ad 4), .ref (ad 5), .int v137, .int v139, .int v141, .int v143, .int v144, .long w145, .int v146, .int v148, .int v149, .int v150, .ref (ad 6), .ref (ad 7), .ref (ad 8), .ref (ad 9), .ref (ad 10), .ref (ad 11), .ref (ad 12), .ref (ad 13), .ref (ad 14), .ref (ad 15), .int v151, .int v153, .ref (ad 16), .int v155, .int v157, .int v159, .int v161, .int v162, .ref (ad 17), .ref (ad 18), .int v163, .ref (ad 19)]) := c164
    have q165 : fld (S135 0) 6 = v137.toInt := fld_of c164 rfl
    have b166 : Bd v137 (12) (1192) := ⟨by omega, by omega⟩
    refine lv_aload_n hx hb dX12_feed_35 rfl (lv_at hl 0 rfl) ?_
    refine lv_iload hx hb dX12_feed_36 (lv_at hl 4 rfl) ?_
    refine xcVv E hs hQ hml hl.1 0 (gX12_four_0 l g ad hD S135 hI a4 (by omega)) mX12_four q1609 (by decide) c164 rfl rfl ⟨(Nat.le_of_ble_eq_true rfl), (Nat.le_of_ble_eq_true rfl)⟩ ⟨(Nat.le_of_ble_eq_true rfl), (Nat.le_of_ble_eq_true rfl)⟩ (Nat.le_of_ble_eq_true rfl) rfl dX12_feed_38 (fun S167 H locs hp167 hQ _ => ?_)
    obtain ⟨hI, o167, g167_0⟩ := hp167
    obtain ⟨v168, v169, v171, v173, v175, v176, w177, v178, v180, v181, v182, v183, v185, v187, v189, v191, v193, v194, v195, c196, b170, b172, b174, b179, b184, b186, b188, b190, b192⟩ := invM_0 hI
    have c196 : S167 0 = .inr (12, [.int v168, .ref (ad 1), .ref (ad 2), .ref (ad 3), .ref (ad 4), .ref (ad 5), .int v169, .int v171, .int v173, .int v175, .int v176, .long w177, .int v178, .int v180, .int v181, .int v182, .ref (ad 6), .ref (ad 7), .ref (ad 8), .ref (ad 9), .ref (ad 10), .ref (ad 11), .ref (ad 12), .ref (ad 13), .ref (ad 14), .ref (ad 15), .int v183, .int v185, .ref (ad 16), .int v187, .int v189, .int v191, .int v193, .int v194, .ref (ad 17), .ref (ad 18), .int v195, .ref (ad 19)]) := c196
    have q197 : fld (S167 0) 6 = v169.toInt := fld_of c196 rfl
    have b198 : Bd v169 (16) (1196) := ⟨by omega, by omega⟩
    refine lv_aload_n hx hb dX12_feed_41 rfl (lv_at hl 0 rfl) ?_
    refine lv_iload hx hb dX12_feed_42 (lv_at hl 5 rfl) ?_
    refine xcVv E hs hQ hml hl.1 0 (gX12_four_0 l g ad hD S167 hI a5 (by omega)) mX12_four q1609 (by decide) c196 rfl rfl ⟨(Nat.le_of_ble_eq_true rfl), (Nat.le_of_ble_eq_true rfl)⟩ ⟨(Nat.le_of_ble_eq_true rfl), (Nat.le_of_ble_eq_true rfl)⟩ (Nat.le_of_ble_eq_true rfl) rfl dX12_feed_44 (fun S199 H locs hp199 hQ _ => ?_)
    obtain ⟨hI, o199, g199_0⟩ := hp199
    obtain ⟨v200, v201, v203, v205, v207, v208, w209, v210, v212, v213, v214, v215, v217, v219, v221, v223, v225, v226, v227, c228, b202, b204, b206, b211, b216, b218, b220, b222, b224⟩ := invM_0 hI
    have c228 : S199 0 = .inr (12, [.int v200, .ref (ad 1), .ref (ad 2), .ref (ad 3), .ref (ad 4), .ref (ad 5), .int v201, .int v203, .int v205, .int v207, .int v208, .long w209, .int v210, .int v212, .int v213, .int v214, .ref (ad 6), .ref (ad 7), .ref (ad 8), .ref (ad 9), .ref (ad 10), .ref (ad 11), .ref (ad 12), .ref (ad 13), .ref (ad 14), .ref (ad 15), .int v215, .int v217, .ref (ad 16), .int v219, .int v221, .int v223, .int v225, .int v226, .ref (ad 17), .ref (ad 18), .int v227, .ref (ad 19)]) := c228
    have q229 : fld (S199 0) 6 = v201.toInt := fld_of c228 rfl
    have b230 : Bd v201 (20) (1200) := ⟨by omega, (b202).2⟩
    refine lv_aload_n hx hb dX12_feed_47 rfl (lv_at hl 0 rfl) ?_
    refine xget E hQ 0 (by decide) c228 rfl 6 (by decide) q1474 rfl dX12_feed_48 ?_
    exact xri E hr hlk hQ (⟨hI, (o_trans (o_trans (o_trans (o_trans (o_trans (up_o o_refl eS60 (by decide)) o71 (by decide)) o103 (by decide)) o135 (by decide)) o167 (by decide)) o199 (by decide)), (ib_wk b230 (by decide) (by decide))⟩) dX12_feed_51
  · have h231 := ib_nle k66
    have b232 : Bd z62 (1201) (1220) := ⟨((rf_lt (by decide : Bd 1200 (1200) (1200)) b65 h231).2).1, (b65).2⟩
    have b233 : Bd v32 (1181) (1200) := ⟨by omega, by omega⟩
    refine lv_iconst (v := (-1)) hx hb dX12_feed_18 (by decide) ?_
    exact xri E hr hlk hQ (⟨hI, (up_o o_refl eS60 (by decide)), (ib_wk (by decide : Bd (-1) (-1) (-1)) (by decide) (by decide))⟩) dX12_feed_19
set_option maxHeartbeats 4000000 in
set_option maxRecDepth 100000 in
theorem gX12_isByte_0 (l : Launch) (g : GG) (ad : Nat → Nat) (hD : Dj ad 20) (S : SS) (hI : InvM g ad S) (a1 : Int32) (a2 : Int32) (a3 : Int32) (ba1 : Bd a1 (0) (1200)) (ba2 : Bd a2 (-128) (127)) (ba3 : Bd a3 (-128) (127)) : Met l yX12_isByte (wG (.code yX12_isByte cX12_isByte 4 (some .boolean))) (Rm 0) (XPre g ad 20 S [.ref (ad 0), .int a1, .int a2, .int a3]) (va_Qi (fun r S' => S = S' ∧ Bd r (0) (1) ∧ ((r.toInt + (-1) < 0 ∨ (0 ≤ fld (S 0) 6 + (-1) * a1.toInt + (-1)))) ∧ (r = byF (fld (S 0) 6) (S 5) a1 a2 a3)) (QB g ad 20) (FA ad 20)) 0 0 (FA ad 20) := by
  refine xmet cX12_isByte "EbbWreckModel" (by decide) rfl (Nat.le_of_ble_eq_true rfl) (fun p e s m below meth c E hr hlk hml hQ ls hl => ?_)
  have hx := E.1
  have hb := E.2.1
  have hs : Sp ad 20 (FA ad 20) := Sp.fa hD
  have hl : lv_has ls 4 [(0, .ref (ad 0)), (1, .int a1), (2, .int a2), (3, .int a3)] := hl
  obtain ⟨v1, v2, v4, v6, v8, v9, w10, v11, v13, v14, v15, v16, v18, v20, v22, v24, v26, v27, v28, c29, b3, b5, b7, b12, b17, b19, b21, b23, b25⟩ := invM_0 hI
  have c29 : S 0 = .inr (12, [.int v1, .ref (ad 1), .ref (ad 2), .ref (ad 3), .ref (ad 4), .ref (ad 5), .int v2, .int v4, .int v6, .int v8, .int v9, .long w10, .int v11, .int v13, .int v14, .int v15, .ref (ad 6), .ref (ad 7), .ref (ad 8), .ref (ad 9), .ref (ad 10), .ref (ad 11), .ref (ad 12), .ref (ad 13), .ref (ad 14), .ref (ad 15), .int v16, .int v18, .ref (ad 16), .int v20, .int v22, .int v24, .int v26, .int v27, .ref (ad 17), .ref (ad 18), .int v28, .ref (ad 19)]) := c29
  refine lv_iload_n hx hb dX12_isByte_0 rfl (lv_at hl 1 rfl) ?_
  refine lv_aload_n hx hb dX12_isByte_1 rfl (lv_at hl 0 rfl) ?_
  refine xget E hQ 0 (by decide) c29 rfl 6 (by decide) q1474 rfl dX12_isByte_2 ?_
  refine lv_icmp_ge (tgt := 32) hx hb dX12_isByte_5 (by decide) (fun k30 => ?_) (fun k30 => ?_)
  · have h31 := ib_le k30
    refine lv_iconst (v := 0) hx hb dX12_isByte_32 (by decide) ?_
    have q32 : fld (S 0) 6 = v2.toInt := fld_of c29 rfl
    have q33 : (0 : Int32).toInt = 0 := by decide
    exact xrz E hr hlk hQ rfl (⟨rfl, (ib_wk (by decide : Bd 0 (0) (0)) (by decide) (by decide)), Or.inl (by omega), (by_0 (by omega))⟩) dX12_isByte_33
  · have h34 := ib_nle k30
    have b35 : Bd a1 (0) (1199) := ⟨(ba1).1, ((rf_lt ba1 b3 h34).1).2⟩
    have b36 : Bd v2 (1) (1200) := ⟨((rf_lt ba1 b3 h34).2).1, (b3).2⟩
    refine lv_aload_n hx hb dX12_isByte_8 rfl (lv_at hl 0 rfl) ?_
    refine xget E hQ 0 (by decide) c29 rfl 5 (by decide) q1473 rfl dX12_isByte_9 ?_
    refine lv_iload_n hx hb dX12_isByte_12 rfl (lv_at hl 1 rfl) ?_
    obtain ⟨f37, c38, b39⟩ := invM_5 hI
    refine xbald E hQ 5 (by decide) c38 (ib_in b35 (by decide) (by decide)) dX12_isByte_13 ?_
    refine lv_topi (fun z40 e41 => ?_)
    have b42 : Bd z40 (-128) (127) := (by rw [e41]; exact b39 _)
    refine lv_iload_n hx hb dX12_isByte_14 rfl (lv_at hl 2 rfl) ?_
    refine lv_icmp_lt (tgt := 32) hx hb dX12_isByte_15 (by decide) (fun k43 => ?_) (fun k43 => ?_)
    · have h44 := ib_lt k43
      have b45 : Bd z40 (-128) (126) := ⟨(b42).1, ((rf_lt b42 ba2 h44).1).2⟩
      have b46 : Bd a2 (-127) (127) := ⟨((rf_lt b42 ba2 h44).2).1, (ba2).2⟩
      refine lv_iconst (v := 0) hx hb dX12_isByte_32 (by decide) ?_
      have q47 : fld (S 0) 6 = v2.toInt := fld_of c29 rfl
      have q48 : (0 : Int32).toInt = 0 := by decide
      have hb49 := by_e (k := a1) c38 e41
      exact xrz E hr hlk hQ rfl (⟨rfl, (ib_wk (by decide : Bd 0 (0) (0)) (by decide) (by decide)), Or.inl (by omega), (by_0 (by omega))⟩) dX12_isByte_33
    · have h50 := ib_nlt k43
      refine lv_aload_n hx hb dX12_isByte_18 rfl (lv_at hl 0 rfl) ?_
      refine xget E hQ 0 (by decide) c29 rfl 5 (by decide) q1473 rfl dX12_isByte_19 ?_
      refine lv_iload_n hx hb dX12_isByte_22 rfl (lv_at hl 1 rfl) ?_
      refine xbald E hQ 5 (by decide) c38 (ib_in b35 (by decide) (by decide)) dX12_isByte_23 ?_
      refine lv_topi (fun z51 e52 => ?_)
      have b53 : Bd z51 (-128) (127) := (by rw [e52]; exact b39 _)
      have t54 : z51.toInt = z40.toInt := by rw [e52, e41]
      refine lv_iload_n hx hb dX12_isByte_24 rfl (lv_at hl 3 rfl) ?_
      refine lv_icmp_gt (tgt := 32) hx hb dX12_isByte_25 (by decide) (fun k55 => ?_) (fun k55 => ?_)
      · have h56 := ib_lt k55
        have b57 : Bd a3 (-128) (126) := ⟨(ba3).1, ((rf_lt ba3 b53 h56).1).2⟩
        have b58 : Bd z51 (-127) (127) := ⟨((rf_lt ba3 b53 h56).2).1, (b53).2⟩
        refine lv_iconst (v := 0) hx hb dX12_isByte_32 (by decide) ?_
        have q59 : fld (S 0) 6 = v2.toInt := fld_of c29 rfl
        have q60 : (0 : Int32).toInt = 0 := by decide
        have hb61 := by_e (k := a1) c38 e52
        exact xrz E hr hlk hQ rfl (⟨rfl, (ib_wk (by decide : Bd 0 (0) (0)) (by decide) (by decide)), Or.inl (by omega), (by_0 (by omega))⟩) dX12_isByte_33
      · have h62 := ib_nlt k55
        refine lv_iconst (v := 1) hx hb dX12_isByte_28 (by decide) ?_
        refine lv_goto (tgt := 33) hx hb dX12_isByte_29 (by decide) ?_
        have q63 : fld (S 0) 6 = v2.toInt := fld_of c29 rfl
        have q64 : (1 : Int32).toInt = 1 := by decide
        exact xrz E hr hlk hQ rfl (⟨rfl, (ib_wk (by decide : Bd 1 (1) (1)) (by decide) (by decide)), Or.inr (by omega), (by_1 c38 (by omega) e52 (by omega) (by omega))⟩) dX12_isByte_33
set_option maxHeartbeats 4000000 in
set_option maxRecDepth 100000 in
theorem gX12_next_0 (l : Launch) (g : GG) (ad : Nat → Nat) (hD : Dj ad 20) (S : SS) (hI : InvM g ad S) (hq1 : 0 ≤ fld (S 0) 6 + (-1) * fld (S 0) 7) : Met l yX12_next (wG (.code yX12_next cX12_next 2 none)) (Rm 1) (XPre g ad 20 S [.ref (ad 0)]) (va_Qv (fun S' => InvM g ad S' ∧ (∀ j, j ∉ ([0] : List Nat) → S' j = S j) ∧ (0 ≤ fld (S' 0) 6 + (-1) * fld (S' 0) 7) ∧ (0 ≤ fld (S 0) 6 + (-1) * fld (S' 0) 6 ∧ 0 ≤ fld (S' 0) 6 + (-1) * fld (S 0) 6) ∧ (0 ≤ fld (S 0) 12 + (-1) * fld (S' 0) 12 ∧ 0 ≤ fld (S' 0) 12 + (-1) * fld (S 0) 12) ∧ (0 ≤ fld (S' 0) 7 + (-1) * fld (S 0) 7) ∧ (0 ≤ 4 * fld (S' 0) 7 + (-4) * fld (S 0) 7 + (-1) * fld (S' 0) 8)) (QB g ad 20) (FA ad 20)) 0 0 (FA ad 20) := by
  refine xmet cX12_next "EbbWreckModel" (by decide) rfl (Nat.le_of_ble_eq_true rfl) (fun p e s m below meth c E hr hlk hml hQ ls hl => ?_)
  have hx := E.1
  have hb := E.2.1
  have hs : Sp ad 20 (FA ad 20) := Sp.fa hD
  have hl : lv_has ls 2 [(0, .ref (ad 0))] := hl
  obtain ⟨v1, v2, v4, v6, v8, v9, w10, v11, v13, v14, v15, v16, v18, v20, v22, v24, v26, v27, v28, c29, b3, b5, b7, b12, b17, b19, b21, b23, b25⟩ := invM_0 hI
  have c29 : S 0 = .inr (12, [.int v1, .ref (ad 1), .ref (ad 2), .ref (ad 3), .ref (ad 4), .ref (ad 5), .int v2, .int v4, .int v6, .int v8, .int v9, .long w10, .int v11, .int v13, .int v14, .int v15, .ref (ad 6), .ref (ad 7), .ref (ad 8), .ref (ad 9), .ref (ad 10), .ref (ad 11), .ref (ad 12), .ref (ad 13), .ref (ad 14), .ref (ad 15), .int v16, .int v18, .ref (ad 16), .int v20, .int v22, .int v24, .int v26, .int v27, .ref (ad 17), .ref (ad 18), .int v28, .ref (ad 19)]) := c29
  have q30 : fld (S 0) 6 = v2.toInt := fld_of c29 rfl
  have q31 : fld (S 0) 7 = v4.toInt := fld_of c29 rfl
  have loop0 : ∀ (n : Nat) (S_0 : SS) (H : Heap) (locs : List Loc) (ls : Array Slot) (y0_0_0 : Int32) (y0_0_6 : Int32) (y0_0_7 : Int32) (y0_0_8 : Int32) (y0_0_9 : Int32) (y0_0_10 : Int32) (wy0_0_11 : Int64) (y0_0_12 : Int32) (y0_0_13 : Int32) (y0_0_14 : Int32) (y0_0_15 : Int32) (y0_0_26 : Int32) (y0_0_27 : Int32) (y0_0_29 : Int32) (y0_0_30 : Int32) (y0_0_31 : Int32) (y0_0_32 : Int32) (y0_0_33 : Int32) (y0_0_36 : Int32), Bd y0_0_6 (0) (1200) → Bd y0_0_7 (0) (1200) → Bd y0_0_8 (0) (4) → Bd y0_0_12 (0) (3) → Bd y0_0_26 (0) (11) → Bd y0_0_27 (-1) (400) → Bd y0_0_29 (0) (2) → Bd y0_0_30 (0) (11) → Bd y0_0_31 (-1) (468) → 0 ≤ y0_0_6.toInt + (-1) * y0_0_7.toInt → 0 ≤ v2.toInt + (-1) * y0_0_6.toInt → 0 ≤ y0_0_6.toInt + (-1) * v2.toInt → 0 ≤ v11.toInt + (-1) * y0_0_12.toInt → 0 ≤ y0_0_12.toInt + (-1) * v11.toInt → 0 ≤ y0_0_7.toInt + (-1) * v4.toInt → (-1) * y0_0_7.toInt + 1200 < ((n : Nat) : Int) → InvM g ad S_0 → (∀ j, j ∉ ([0] : List Nat) → S_0 j = S j) → S_0 0 = .inr (12, [.int y0_0_0, .ref (ad 1), .ref (ad 2), .ref (ad 3), .ref (ad 4), .ref (ad 5), .int y0_0_6, .int y0_0_7, .int y0_0_8, .int y0_0_9, .int y0_0_10, .long wy0_0_11, .int y0_0_12, .int y0_0_13, .int y0_0_14, .int y0_0_15, .ref (ad 6), .ref (ad 7), .ref (ad 8), .ref (ad 9), .ref (ad 10), .ref (ad 11), .ref (ad 12), .ref (ad 13), .ref (ad 14), .ref (ad 15), .int y0_0_26, .int y0_0_27, .ref (ad 16), .int y0_0_29, .int y0_0_30, .int y0_0_31, .int y0_0_32, .int y0_0_33, .ref (ad 17), .ref (ad 18), .int y0_0_36, .ref (ad 19)]) → Hp g ad 20 S_0 (FA ad 20) s.heap H locs → lv_has ls 2 [(0, .ref (ad 0))] → W p l e (Rm 1) s m [.ref (ad 0)].toArray below meth c H locs 0 0 (MQ below (va_Qv (fun S' => InvM g ad S' ∧ (∀ j, j ∉ ([0] : List Nat) → S' j = S j) ∧ (0 ≤ fld (S' 0) 6 + (-1) * fld (S' 0) 7) ∧ (0 ≤ fld (S 0) 6 + (-1) * fld (S' 0) 6 ∧ 0 ≤ fld (S' 0) 6 + (-1) * fld (S 0) 6) ∧ (0 ≤ fld (S 0) 12 + (-1) * fld (S' 0) 12 ∧ 0 ≤ fld (S' 0) 12 + (-1) * fld (S 0) 12) ∧ (0 ≤ fld (S' 0) 7 + (-1) * fld (S 0) 7) ∧ (0 ≤ 4 * fld (S' 0) 7 + (-4) * fld (S 0) 7 + (-1) * fld (S' 0) 8)) (QB g ad 20) (FA ad 20)) [.ref (ad 0)].toArray s 0 0 (FA ad 20)) (F0 m 0 ls []) := by
    intro n
    induction n with
    | zero => intro S_0 H locs ls y0_0_0 y0_0_6 y0_0_7 y0_0_8 y0_0_9 y0_0_10 wy0_0_11 y0_0_12 y0_0_13 y0_0_14 y0_0_15 y0_0_26 y0_0_27 y0_0_29 y0_0_30 y0_0_31 y0_0_32 y0_0_33 y0_0_36 By0_0_6 By0_0_7 By0_0_8 By0_0_12 By0_0_26 By0_0_27 By0_0_29 By0_0_30 By0_0_31 C0_0 C0_1 C0_2 C0_3 C0_4 C0_5 hn0_ hI hf0 cl0_0 hQ hl; exfalso; have := (By0_0_7).2; omega
    | succ n0_ ih0 =>
      intro S_0 H locs ls y0_0_0 y0_0_6 y0_0_7 y0_0_8 y0_0_9 y0_0_10 wy0_0_11 y0_0_12 y0_0_13 y0_0_14 y0_0_15 y0_0_26 y0_0_27 y0_0_29 y0_0_30 y0_0_31 y0_0_32 y0_0_33 y0_0_36 By0_0_6 By0_0_7 By0_0_8 By0_0_12 By0_0_26 By0_0_27 By0_0_29 By0_0_30 By0_0_31 C0_0 C0_1 C0_2 C0_3 C0_4 C0_5 hn0_ hI hf0 cl0_0 hQ hl
      refine lv_aload_n hx hb dX12_next_0 rfl (lv_at hl 0 rfl) ?_
      refine lv_aload_n hx hb dX12_next_1 rfl (lv_at hl 0 rfl) ?_
      refine xget E hQ 0 (by decide) cl0_0 rfl 7 (by decide) q1475 rfl dX12_next_2 ?_
      refine lv_bipush (v := 32) hx hb dX12_next_5 (by decide) ?_
      refine lv_bipush (v := 32) hx hb dX12_next_7 (by decide) ?_
      have q32 : (32 : Int32).toInt = 32 := by decide
      refine xcVi E hs hQ hml hl.1 0 (gX12_isByte_0 l g ad hD S_0 hI y0_0_7 32 32 By0_0_7 (ib_wk (by decide : Bd 32 (32) (32)) (by decide) (by decide)) (ib_wk (by decide : Bd 32 (32) (32)) (by decide) (by decide))) mX12_isByte q1641 (by decide) cl0_0 rfl rfl ⟨(Nat.le_of_ble_eq_true rfl), (Nat.le_of_ble_eq_true rfl)⟩ ⟨(Nat.le_of_ble_eq_true rfl), (Nat.le_of_ble_eq_true rfl)⟩ (Nat.le_of_ble_eq_true rfl) rfl dX12_next_9 (fun r33 S33 H locs hp33 hQ _ => ?_)
      obtain ⟨rfl, b33, g33_0, u33_0⟩ := hp33
      have q34 : fld (S_0 0) 6 = y0_0_6.toInt := fld_of cl0_0 rfl
      refine lv_if_ne (tgt := 30) hx hb dX12_next_12 (by decide) (fun k35 => ?_) (fun k35 => ?_)
      · have h36 := ib_ne k35
        have b37 : Bd r33 (1) (1) := rf_nlo b33 (by decide : Bd 0 (0) (0)) h36
        have g38 := g33_0.resolve_left (by omega)
        clear g33_0
        have b39 : Bd y0_0_6 (1) (1200) := ⟨by omega, (By0_0_6).2⟩
        have b40 : Bd y0_0_7 (0) (1199) := ⟨(By0_0_7).1, by omega⟩
        refine lv_aload_n hx hb dX12_next_30 rfl (lv_at hl 0 rfl) ?_
        refine lv_dup hx hb dX12_next_31 rfl ?_
        refine xget E hQ 0 (by decide) cl0_0 rfl 7 (by decide) q1475 rfl dX12_next_32 ?_
        refine lv_iconst (v := 1) hx hb dX12_next_35 (by decide) ?_
        refine lv_iadd hx hb dX12_next_36 ?_
        refine lv_topi (fun z41 e42 => ?_)
        have t43 := ib_add e42 b40 (by decide : Bd 1 (1) (1)) (by decide) (by decide)
        have b44 : Bd z41 (1) (1200) := ib_addb t43 b40 (by decide : Bd 1 (1) (1))
        have t43 : z41.toInt = y0_0_7.toInt + 1 := fold_add t43 rfl (by decide)
        refine xputi E hs hQ 0 (by decide) cl0_0 rfl 7 (by decide) q1475 rfl rfl (Nat.le_of_ble_eq_true rfl) dX12_next_37 (fun H locs S45 eS45 hQ => ?_)
        have hI := invM_up_0 hI eS45 ⟨y0_0_0, y0_0_6, z41, y0_0_8, y0_0_9, y0_0_10, wy0_0_11, y0_0_12, y0_0_13, y0_0_14, y0_0_15, y0_0_26, y0_0_27, y0_0_29, y0_0_30, y0_0_31, y0_0_32, y0_0_33, y0_0_36, rfl, (ib_wk b39 (by decide) (by decide)), (ib_wk b44 (by decide) (by decide)), By0_0_8, By0_0_12, By0_0_26, By0_0_27, By0_0_29, By0_0_30, By0_0_31⟩
        have c46 : S45 0 = .inr (12, [.int y0_0_0, .ref (ad 1), .ref (ad 2), .ref (ad 3), .ref (ad 4), .ref (ad 5), .int y0_0_6, .int z41, .int y0_0_8, .int y0_0_9, .int y0_0_10, .long wy0_0_11, .int y0_0_12, .int y0_0_13, .int y0_0_14, .int y0_0_15, .ref (ad 6), .ref (ad 7), .ref (ad 8), .ref (ad 9), .ref (ad 10), .ref (ad 11), .ref (ad 12), .ref (ad 13), .ref (ad 14), .ref (ad 15), .int y0_0_26, .int y0_0_27, .ref (ad 16), .int y0_0_29, .int y0_0_30, .int y0_0_31, .int y0_0_32, .int y0_0_33, .ref (ad 17), .ref (ad 18), .int y0_0_36, .ref (ad 19)]) := up_at eS45 rfl
        refine lv_goto (tgt := 0) hx hb dX12_next_40 (by decide) ?_
        exact ih0 _ _ _ _ y0_0_0 y0_0_6 z41 y0_0_8 y0_0_9 y0_0_10 wy0_0_11 y0_0_12 y0_0_13 y0_0_14 y0_0_15 y0_0_26 y0_0_27 y0_0_29 y0_0_30 y0_0_31 y0_0_32 y0_0_33 y0_0_36 (ib_wk b39 (by decide) (by decide)) (ib_wk b44 (by decide) (by decide)) By0_0_8 By0_0_12 By0_0_26 By0_0_27 By0_0_29 By0_0_30 By0_0_31 (by omega) (by omega) (by omega) (by omega) (by omega) (by omega) (by omega) hI (up_o hf0 eS45 (by decide)) c46 hQ (lv_sub hl [0] rfl)
      · have h47 := ib_eq k35
        have b48 : Bd r33 (0) (0) := ⟨(b33).1, ((rf_eq b33 (by decide : Bd 0 (0) (0)) h47).1).2⟩
        clear g33_0
        refine lv_aload_n hx hb dX12_next_15 rfl (lv_at hl 0 rfl) ?_
        refine lv_aload_n hx hb dX12_next_16 rfl (lv_at hl 0 rfl) ?_
        refine xget E hQ 0 (by decide) cl0_0 rfl 7 (by decide) q1475 rfl dX12_next_17 ?_
        refine lv_bipush (v := 10) hx hb dX12_next_20 (by decide) ?_
        refine lv_bipush (v := 10) hx hb dX12_next_22 (by decide) ?_
        have q49 : (10 : Int32).toInt = 10 := by decide
        refine xcVi E hs hQ hml hl.1 0 (gX12_isByte_0 l g ad hD S_0 hI y0_0_7 10 10 By0_0_7 (ib_wk (by decide : Bd 10 (10) (10)) (by decide) (by decide)) (ib_wk (by decide : Bd 10 (10) (10)) (by decide) (by decide))) mX12_isByte q1641 (by decide) cl0_0 rfl rfl ⟨(Nat.le_of_ble_eq_true rfl), (Nat.le_of_ble_eq_true rfl)⟩ ⟨(Nat.le_of_ble_eq_true rfl), (Nat.le_of_ble_eq_true rfl)⟩ (Nat.le_of_ble_eq_true rfl) rfl dX12_next_24 (fun r50 S50 H locs hp50 hQ _ => ?_)
        obtain ⟨rfl, b50, g50_0, u50_0⟩ := hp50
        refine lv_if_eq (tgt := 43) hx hb dX12_next_27 (by decide) (fun k51 => ?_) (fun k51 => ?_)
        · have h52 := ib_eq k51
          have b53 : Bd r50 (0) (0) := ⟨(b50).1, ((rf_eq b50 (by decide : Bd 0 (0) (0)) h52).1).2⟩
          clear g50_0
          refine lv_aload_n hx hb dX12_next_43 rfl (lv_at hl 0 rfl) ?_
          refine lv_aload_n hx hb dX12_next_44 rfl (lv_at hl 0 rfl) ?_
          refine xget E hQ 0 (by decide) cl0_0 rfl 7 (by decide) q1475 rfl dX12_next_45 ?_
          refine xputi E hs hQ 0 (by decide) cl0_0 rfl 9 (by decide) q1477 rfl rfl (Nat.le_of_ble_eq_true rfl) dX12_next_48 (fun H locs S54 eS54 hQ => ?_)
          have hI := invM_up_0 hI eS54 ⟨y0_0_0, y0_0_6, y0_0_7, y0_0_8, y0_0_7, y0_0_10, wy0_0_11, y0_0_12, y0_0_13, y0_0_14, y0_0_15, y0_0_26, y0_0_27, y0_0_29, y0_0_30, y0_0_31, y0_0_32, y0_0_33, y0_0_36, rfl, By0_0_6, By0_0_7, By0_0_8, By0_0_12, By0_0_26, By0_0_27, By0_0_29, By0_0_30, By0_0_31⟩
          have c55 : S54 0 = .inr (12, [.int y0_0_0, .ref (ad 1), .ref (ad 2), .ref (ad 3), .ref (ad 4), .ref (ad 5), .int y0_0_6, .int y0_0_7, .int y0_0_8, .int y0_0_7, .int y0_0_10, .long wy0_0_11, .int y0_0_12, .int y0_0_13, .int y0_0_14, .int y0_0_15, .ref (ad 6), .ref (ad 7), .ref (ad 8), .ref (ad 9), .ref (ad 10), .ref (ad 11), .ref (ad 12), .ref (ad 13), .ref (ad 14), .ref (ad 15), .int y0_0_26, .int y0_0_27, .ref (ad 16), .int y0_0_29, .int y0_0_30, .int y0_0_31, .int y0_0_32, .int y0_0_33, .ref (ad 17), .ref (ad 18), .int y0_0_36, .ref (ad 19)]) := up_at eS54 rfl
          refine lv_aload_n hx hb dX12_next_51 rfl (lv_at hl 0 rfl) ?_
          refine lv_iconst (v := 0) hx hb dX12_next_52 (by decide) ?_
          refine xputi E hs hQ 0 (by decide) c55 rfl 10 (by decide) q1478 rfl rfl (Nat.le_of_ble_eq_true rfl) dX12_next_53 (fun H locs S56 eS56 hQ => ?_)
          have hI := invM_up_0 hI eS56 ⟨y0_0_0, y0_0_6, y0_0_7, y0_0_8, y0_0_7, 0, wy0_0_11, y0_0_12, y0_0_13, y0_0_14, y0_0_15, y0_0_26, y0_0_27, y0_0_29, y0_0_30, y0_0_31, y0_0_32, y0_0_33, y0_0_36, rfl, By0_0_6, By0_0_7, By0_0_8, By0_0_12, By0_0_26, By0_0_27, By0_0_29, By0_0_30, By0_0_31⟩
          have c57 : S56 0 = .inr (12, [.int y0_0_0, .ref (ad 1), .ref (ad 2), .ref (ad 3), .ref (ad 4), .ref (ad 5), .int y0_0_6, .int y0_0_7, .int y0_0_8, .int y0_0_7, .int 0, .long wy0_0_11, .int y0_0_12, .int y0_0_13, .int y0_0_14, .int y0_0_15, .ref (ad 6), .ref (ad 7), .ref (ad 8), .ref (ad 9), .ref (ad 10), .ref (ad 11), .ref (ad 12), .ref (ad 13), .ref (ad 14), .ref (ad 15), .int y0_0_26, .int y0_0_27, .ref (ad 16), .int y0_0_29, .int y0_0_30, .int y0_0_31, .int y0_0_32, .int y0_0_33, .ref (ad 17), .ref (ad 18), .int y0_0_36, .ref (ad 19)]) := up_at eS56 rfl
          refine lv_aload_n hx hb dX12_next_56 rfl (lv_at hl 0 rfl) ?_
          refine lv_lconst (v := 0) hx hb dX12_next_57 (by decide) ?_
          refine xput (ty := .long) E hs hQ 0 (by decide) c57 rfl 11 (by decide) q1479 rfl (by decide +kernel) rfl rfl (Nat.le_of_ble_eq_true rfl) dX12_next_58 (fun H locs S58 eS58 hQ => ?_)
          have hI := invM_up_0 hI eS58 ⟨y0_0_0, y0_0_6, y0_0_7, y0_0_8, y0_0_7, 0, 0, y0_0_12, y0_0_13, y0_0_14, y0_0_15, y0_0_26, y0_0_27, y0_0_29, y0_0_30, y0_0_31, y0_0_32, y0_0_33, y0_0_36, rfl, By0_0_6, By0_0_7, By0_0_8, By0_0_12, By0_0_26, By0_0_27, By0_0_29, By0_0_30, By0_0_31⟩
          have c59 : S58 0 = .inr (12, [.int y0_0_0, .ref (ad 1), .ref (ad 2), .ref (ad 3), .ref (ad 4), .ref (ad 5), .int y0_0_6, .int y0_0_7, .int y0_0_8, .int y0_0_7, .int 0, .long 0, .int y0_0_12, .int y0_0_13, .int y0_0_14, .int y0_0_15, .ref (ad 6), .ref (ad 7), .ref (ad 8), .ref (ad 9), .ref (ad 10), .ref (ad 11), .ref (ad 12), .ref (ad 13), .ref (ad 14), .ref (ad 15), .int y0_0_26, .int y0_0_27, .ref (ad 16), .int y0_0_29, .int y0_0_30, .int y0_0_31, .int y0_0_32, .int y0_0_33, .ref (ad 17), .ref (ad 18), .int y0_0_36, .ref (ad 19)]) := up_at eS58 rfl
          refine lv_aload_n hx hb dX12_next_61 rfl (lv_at hl 0 rfl) ?_
          refine xget E hQ 0 (by decide) c59 rfl 7 (by decide) q1475 rfl dX12_next_62 ?_
          refine lv_aload_n hx hb dX12_next_65 rfl (lv_at hl 0 rfl) ?_
          refine xget E hQ 0 (by decide) c59 rfl 6 (by decide) q1474 rfl dX12_next_66 ?_
          refine lv_icmp_ne (tgt := 80) hx hb dX12_next_69 (by decide) (fun k60 => ?_) (fun k60 => ?_)
          · have h61 := ib_ne k60
            refine lv_aload_n hx hb dX12_next_80 rfl (lv_at hl 0 rfl) ?_
            refine lv_aload_n hx hb dX12_next_81 rfl (lv_at hl 0 rfl) ?_
            refine xget E hQ 0 (by decide) c59 rfl 7 (by decide) q1475 rfl dX12_next_82 ?_
            refine lv_bipush (v := 97) hx hb dX12_next_85 (by decide) ?_
            refine lv_bipush (v := 122) hx hb dX12_next_87 (by decide) ?_
            have q62 : (97 : Int32).toInt = 97 := by decide
            have q63 : (122 : Int32).toInt = 122 := by decide
            refine xcVi E hs hQ hml hl.1 0 (gX12_isByte_0 l g ad hD S58 hI y0_0_7 97 122 By0_0_7 (ib_wk (by decide : Bd 97 (97) (97)) (by decide) (by decide)) (ib_wk (by decide : Bd 122 (122) (122)) (by decide) (by decide))) mX12_isByte q1641 (by decide) c59 rfl rfl ⟨(Nat.le_of_ble_eq_true rfl), (Nat.le_of_ble_eq_true rfl)⟩ ⟨(Nat.le_of_ble_eq_true rfl), (Nat.le_of_ble_eq_true rfl)⟩ (Nat.le_of_ble_eq_true rfl) rfl dX12_next_89 (fun r64 S64 H locs hp64 hQ _ => ?_)
            obtain ⟨rfl, b64, g64_0, u64_0⟩ := hp64
            have q65 : fld (S58 0) 6 = y0_0_6.toInt := fld_of c59 rfl
            refine lv_if_eq (tgt := 188) hx hb dX12_next_92 (by decide) (fun k66 => ?_) (fun k66 => ?_)
            · have h67 := ib_eq k66
              have b68 : Bd r64 (0) (0) := ⟨(b64).1, ((rf_eq b64 (by decide : Bd 0 (0) (0)) h67).1).2⟩
              clear g64_0
              refine lv_aload_n hx hb dX12_next_188 rfl (lv_at hl 0 rfl) ?_
              refine lv_aload_n hx hb dX12_next_189 rfl (lv_at hl 0 rfl) ?_
              refine xget E hQ 0 (by decide) c59 rfl 7 (by decide) q1475 rfl dX12_next_190 ?_
              refine lv_bipush (v := 48) hx hb dX12_next_193 (by decide) ?_
              refine lv_bipush (v := 57) hx hb dX12_next_195 (by decide) ?_
              have q69 : (48 : Int32).toInt = 48 := by decide
              have q70 : (57 : Int32).toInt = 57 := by decide
              refine xcVi E hs hQ hml hl.1 0 (gX12_isByte_0 l g ad hD S58 hI y0_0_7 48 57 By0_0_7 (ib_wk (by decide : Bd 48 (48) (48)) (by decide) (by decide)) (ib_wk (by decide : Bd 57 (57) (57)) (by decide) (by decide))) mX12_isByte q1641 (by decide) c59 rfl rfl ⟨(Nat.le_of_ble_eq_true rfl), (Nat.le_of_ble_eq_true rfl)⟩ ⟨(Nat.le_of_ble_eq_true rfl), (Nat.le_of_ble_eq_true rfl)⟩ (Nat.le_of_ble_eq_true rfl) rfl dX12_next_197 (fun r71 S71 H locs hp71 hQ _ => ?_)
              obtain ⟨rfl, b71, g71_0, u71_0⟩ := hp71
              refine lv_if_eq (tgt := 274) hx hb dX12_next_200 (by decide) (fun k72 => ?_) (fun k72 => ?_)
              · have h73 := ib_eq k72
                have b74 : Bd r71 (0) (0) := ⟨(b71).1, ((rf_eq b71 (by decide : Bd 0 (0) (0)) h73).1).2⟩
                clear g71_0
                refine lv_aload_n hx hb dX12_next_274 rfl (lv_at hl 0 rfl) ?_
                refine lv_aload_n hx hb dX12_next_275 rfl (lv_at hl 0 rfl) ?_
                refine xget E hQ 0 (by decide) c59 rfl 5 (by decide) q1473 rfl dX12_next_276 ?_
                refine lv_aload_n hx hb dX12_next_279 rfl (lv_at hl 0 rfl) ?_
                refine xget E hQ 0 (by decide) c59 rfl 7 (by decide) q1475 rfl dX12_next_280 ?_
                obtain ⟨f75, c76, b77⟩ := invM_5 hI
                refine xbald E hQ 5 (by decide) c76 (ib_inx (n := 1200) (by omega) (by omega)) dX12_next_283 ?_
                refine lv_topi (fun z78 e79 => ?_)
                have b80 : Bd z78 (-128) (127) := (by rw [e79]; exact b77 _)
                refine lv_bipush (v := 59) hx hb dX12_next_284 (by decide) ?_
                refine lv_icmp_ne (tgt := 293) hx hb dX12_next_286 (by decide) (fun k81 => ?_) (fun k81 => ?_)
                · have h82 := ib_ne k81
                  refine lv_iconst (v := 4) hx hb dX12_next_293 (by decide) ?_
                  refine xputi E hs hQ 0 (by decide) c59 rfl 8 (by decide) q1476 rfl rfl (Nat.le_of_ble_eq_true rfl) dX12_next_294 (fun H locs S83 eS83 hQ => ?_)
                  have hI := invM_up_0 hI eS83 ⟨y0_0_0, y0_0_6, y0_0_7, 4, y0_0_7, 0, 0, y0_0_12, y0_0_13, y0_0_14, y0_0_15, y0_0_26, y0_0_27, y0_0_29, y0_0_30, y0_0_31, y0_0_32, y0_0_33, y0_0_36, rfl, By0_0_6, By0_0_7, (ib_wk (by decide : Bd 4 (4) (4)) (by decide) (by decide)), By0_0_12, By0_0_26, By0_0_27, By0_0_29, By0_0_30, By0_0_31⟩
                  have c84 : S83 0 = .inr (12, [.int y0_0_0, .ref (ad 1), .ref (ad 2), .ref (ad 3), .ref (ad 4), .ref (ad 5), .int y0_0_6, .int y0_0_7, .int 4, .int y0_0_7, .int 0, .long 0, .int y0_0_12, .int y0_0_13, .int y0_0_14, .int y0_0_15, .ref (ad 6), .ref (ad 7), .ref (ad 8), .ref (ad 9), .ref (ad 10), .ref (ad 11), .ref (ad 12), .ref (ad 13), .ref (ad 14), .ref (ad 15), .int y0_0_26, .int y0_0_27, .ref (ad 16), .int y0_0_29, .int y0_0_30, .int y0_0_31, .int y0_0_32, .int y0_0_33, .ref (ad 17), .ref (ad 18), .int y0_0_36, .ref (ad 19)]) := up_at eS83 rfl
                  refine lv_aload_n hx hb dX12_next_297 rfl (lv_at hl 0 rfl) ?_
                  refine lv_dup hx hb dX12_next_298 rfl ?_
                  refine xget E hQ 0 (by decide) c84 rfl 7 (by decide) q1475 rfl dX12_next_299 ?_
                  refine lv_iconst (v := 1) hx hb dX12_next_302 (by decide) ?_
                  refine lv_iadd hx hb dX12_next_303 ?_
                  refine lv_topi (fun z85 e86 => ?_)
                  have t87 := ib_add e86 By0_0_7 (by decide : Bd 1 (1) (1)) (by decide) (by decide)
                  have b88 : Bd z85 (1) (1201) := ib_addb t87 By0_0_7 (by decide : Bd 1 (1) (1))
                  have t87 : z85.toInt = y0_0_7.toInt + 1 := fold_add t87 rfl (by decide)
                  refine xputi E hs hQ 0 (by decide) c84 rfl 7 (by decide) q1475 rfl rfl (Nat.le_of_ble_eq_true rfl) dX12_next_304 (fun H locs S89 eS89 hQ => ?_)
                  have hI := invM_up_0 hI eS89 ⟨y0_0_0, y0_0_6, z85, 4, y0_0_7, 0, 0, y0_0_12, y0_0_13, y0_0_14, y0_0_15, y0_0_26, y0_0_27, y0_0_29, y0_0_30, y0_0_31, y0_0_32, y0_0_33, y0_0_36, rfl, By0_0_6, (⟨by omega, by omega⟩ : Bd z85 (0) (1200)), (ib_wk (by decide : Bd 4 (4) (4)) (by decide) (by decide)), By0_0_12, By0_0_26, By0_0_27, By0_0_29, By0_0_30, By0_0_31⟩
                  have c90 : S89 0 = .inr (12, [.int y0_0_0, .ref (ad 1), .ref (ad 2), .ref (ad 3), .ref (ad 4), .ref (ad 5), .int y0_0_6, .int z85, .int 4, .int y0_0_7, .int 0, .long 0, .int y0_0_12, .int y0_0_13, .int y0_0_14, .int y0_0_15, .ref (ad 6), .ref (ad 7), .ref (ad 8), .ref (ad 9), .ref (ad 10), .ref (ad 11), .ref (ad 12), .ref (ad 13), .ref (ad 14), .ref (ad 15), .int y0_0_26, .int y0_0_27, .ref (ad 16), .int y0_0_29, .int y0_0_30, .int y0_0_31, .int y0_0_32, .int y0_0_33, .ref (ad 17), .ref (ad 18), .int y0_0_36, .ref (ad 19)]) := up_at eS89 rfl
                  have q91 : fld (S89 0) 6 = y0_0_6.toInt := fld_of c90 rfl
                  have q92 : fld (S89 0) 7 = z85.toInt := fld_of c90 rfl
                  have q93 : fld (S 0) 12 = v11.toInt := fld_of c29 rfl
                  have q94 : fld (S89 0) 12 = y0_0_12.toInt := fld_of c90 rfl
                  have q95 : fld (S89 0) 8 = (4 : Int32).toInt := fld_of c90 rfl
                  have q95 : fld (S89 0) 8 = 4 := q95.trans (by decide)
                  exact xrv E hr hlk hQ (⟨hI, (up_o (up_o (up_o (up_o (up_o (o_trans o_refl hf0 (by decide)) eS54 (by decide)) eS56 (by decide)) eS58 (by decide)) eS83 (by decide)) eS89 (by decide)), (by omega), ⟨by omega, by omega⟩, ⟨by omega, by omega⟩, (by omega), (by omega)⟩) dX12_next_307
                · have h96 := ib_eq k81
                  have b97 : Bd z78 (59) (59) := ⟨((rf_eq b80 (by decide : Bd 59 (59) (59)) h96).1).1, ((rf_eq b80 (by decide : Bd 59 (59) (59)) h96).1).2⟩
                  refine lv_iconst (v := 3) hx hb dX12_next_289 (by decide) ?_
                  refine lv_goto (tgt := 294) hx hb dX12_next_290 (by decide) ?_
                  refine xputi E hs hQ 0 (by decide) c59 rfl 8 (by decide) q1476 rfl rfl (Nat.le_of_ble_eq_true rfl) dX12_next_294 (fun H locs S98 eS98 hQ => ?_)
                  have hI := invM_up_0 hI eS98 ⟨y0_0_0, y0_0_6, y0_0_7, 3, y0_0_7, 0, 0, y0_0_12, y0_0_13, y0_0_14, y0_0_15, y0_0_26, y0_0_27, y0_0_29, y0_0_30, y0_0_31, y0_0_32, y0_0_33, y0_0_36, rfl, By0_0_6, By0_0_7, (ib_wk (by decide : Bd 3 (3) (3)) (by decide) (by decide)), By0_0_12, By0_0_26, By0_0_27, By0_0_29, By0_0_30, By0_0_31⟩
                  have c99 : S98 0 = .inr (12, [.int y0_0_0, .ref (ad 1), .ref (ad 2), .ref (ad 3), .ref (ad 4), .ref (ad 5), .int y0_0_6, .int y0_0_7, .int 3, .int y0_0_7, .int 0, .long 0, .int y0_0_12, .int y0_0_13, .int y0_0_14, .int y0_0_15, .ref (ad 6), .ref (ad 7), .ref (ad 8), .ref (ad 9), .ref (ad 10), .ref (ad 11), .ref (ad 12), .ref (ad 13), .ref (ad 14), .ref (ad 15), .int y0_0_26, .int y0_0_27, .ref (ad 16), .int y0_0_29, .int y0_0_30, .int y0_0_31, .int y0_0_32, .int y0_0_33, .ref (ad 17), .ref (ad 18), .int y0_0_36, .ref (ad 19)]) := up_at eS98 rfl
                  refine lv_aload_n hx hb dX12_next_297 rfl (lv_at hl 0 rfl) ?_
                  refine lv_dup hx hb dX12_next_298 rfl ?_
                  refine xget E hQ 0 (by decide) c99 rfl 7 (by decide) q1475 rfl dX12_next_299 ?_
                  refine lv_iconst (v := 1) hx hb dX12_next_302 (by decide) ?_
                  refine lv_iadd hx hb dX12_next_303 ?_
                  refine lv_topi (fun z100 e101 => ?_)
                  have t102 := ib_add e101 By0_0_7 (by decide : Bd 1 (1) (1)) (by decide) (by decide)
                  have b103 : Bd z100 (1) (1201) := ib_addb t102 By0_0_7 (by decide : Bd 1 (1) (1))
                  have t102 : z100.toInt = y0_0_7.toInt + 1 := fold_add t102 rfl (by decide)
                  refine xputi E hs hQ 0 (by decide) c99 rfl 7 (by decide) q1475 rfl rfl (Nat.le_of_ble_eq_true rfl) dX12_next_304 (fun H locs S104 eS104 hQ => ?_)
                  have hI := invM_up_0 hI eS104 ⟨y0_0_0, y0_0_6, z100, 3, y0_0_7, 0, 0, y0_0_12, y0_0_13, y0_0_14, y0_0_15, y0_0_26, y0_0_27, y0_0_29, y0_0_30, y0_0_31, y0_0_32, y0_0_33, y0_0_36, rfl, By0_0_6, (⟨by omega, by omega⟩ : Bd z100 (0) (1200)), (ib_wk (by decide : Bd 3 (3) (3)) (by decide) (by decide)), By0_0_12, By0_0_26, By0_0_27, By0_0_29, By0_0_30, By0_0_31⟩
                  have c105 : S104 0 = .inr (12, [.int y0_0_0, .ref (ad 1), .ref (ad 2), .ref (ad 3), .ref (ad 4), .ref (ad 5), .int y0_0_6, .int z100, .int 3, .int y0_0_7, .int 0, .long 0, .int y0_0_12, .int y0_0_13, .int y0_0_14, .int y0_0_15, .ref (ad 6), .ref (ad 7), .ref (ad 8), .ref (ad 9), .ref (ad 10), .ref (ad 11), .ref (ad 12), .ref (ad 13), .ref (ad 14), .ref (ad 15), .int y0_0_26, .int y0_0_27, .ref (ad 16), .int y0_0_29, .int y0_0_30, .int y0_0_31, .int y0_0_32, .int y0_0_33, .ref (ad 17), .ref (ad 18), .int y0_0_36, .ref (ad 19)]) := up_at eS104 rfl
                  have q106 : fld (S104 0) 6 = y0_0_6.toInt := fld_of c105 rfl
                  have q107 : fld (S104 0) 7 = z100.toInt := fld_of c105 rfl
                  have q108 : fld (S 0) 12 = v11.toInt := fld_of c29 rfl
                  have q109 : fld (S104 0) 12 = y0_0_12.toInt := fld_of c105 rfl
                  have q110 : fld (S104 0) 8 = (3 : Int32).toInt := fld_of c105 rfl
                  have q110 : fld (S104 0) 8 = 3 := q110.trans (by decide)
                  exact xrv E hr hlk hQ (⟨hI, (up_o (up_o (up_o (up_o (up_o (o_trans o_refl hf0 (by decide)) eS54 (by decide)) eS56 (by decide)) eS58 (by decide)) eS98 (by decide)) eS104 (by decide)), (by omega), ⟨by omega, by omega⟩, ⟨by omega, by omega⟩, (by omega), (by omega)⟩) dX12_next_307
              · have h111 := ib_ne k72
                have b112 : Bd r71 (1) (1) := rf_nlo b71 (by decide : Bd 0 (0) (0)) h111
                have g113 := g71_0.resolve_left (by omega)
                clear g71_0
                have b114 : Bd y0_0_6 (1) (1200) := ⟨by omega, (By0_0_6).2⟩
                have b115 : Bd y0_0_7 (0) (1199) := ⟨(By0_0_7).1, by omega⟩
                refine lv_aload_n hx hb dX12_next_203 rfl (lv_at hl 0 rfl) ?_
                refine lv_iconst (v := 2) hx hb dX12_next_204 (by decide) ?_
                refine xputi E hs hQ 0 (by decide) c59 rfl 8 (by decide) q1476 rfl rfl (Nat.le_of_ble_eq_true rfl) dX12_next_205 (fun H locs S116 eS116 hQ => ?_)
                have hI := invM_up_0 hI eS116 ⟨y0_0_0, y0_0_6, y0_0_7, 2, y0_0_7, 0, 0, y0_0_12, y0_0_13, y0_0_14, y0_0_15, y0_0_26, y0_0_27, y0_0_29, y0_0_30, y0_0_31, y0_0_32, y0_0_33, y0_0_36, rfl, (ib_wk b114 (by decide) (by decide)), (ib_wk b115 (by decide) (by decide)), (ib_wk (by decide : Bd 2 (2) (2)) (by decide) (by decide)), By0_0_12, By0_0_26, By0_0_27, By0_0_29, By0_0_30, By0_0_31⟩
                have c117 : S116 0 = .inr (12, [.int y0_0_0, .ref (ad 1), .ref (ad 2), .ref (ad 3), .ref (ad 4), .ref (ad 5), .int y0_0_6, .int y0_0_7, .int 2, .int y0_0_7, .int 0, .long 0, .int y0_0_12, .int y0_0_13, .int y0_0_14, .int y0_0_15, .ref (ad 6), .ref (ad 7), .ref (ad 8), .ref (ad 9), .ref (ad 10), .ref (ad 11), .ref (ad 12), .ref (ad 13), .ref (ad 14), .ref (ad 15), .int y0_0_26, .int y0_0_27, .ref (ad 16), .int y0_0_29, .int y0_0_30, .int y0_0_31, .int y0_0_32, .int y0_0_33, .ref (ad 17), .ref (ad 18), .int y0_0_36, .ref (ad 19)]) := up_at eS116 rfl
                have loop208 : ∀ (n : Nat) (S_208 : SS) (H : Heap) (locs : List Loc) (ls : Array Slot) (y208_0_0 : Int32) (y208_0_6 : Int32) (y208_0_7 : Int32) (y208_0_8 : Int32) (y208_0_9 : Int32) (y208_0_10 : Int32) (wy208_0_11 : Int64) (y208_0_12 : Int32) (y208_0_13 : Int32) (y208_0_14 : Int32) (y208_0_15 : Int32) (y208_0_26 : Int32) (y208_0_27 : Int32) (y208_0_29 : Int32) (y208_0_30 : Int32) (y208_0_31 : Int32) (y208_0_32 : Int32) (y208_0_33 : Int32) (y208_0_36 : Int32), Bd y208_0_6 (1) (1200) → Bd y208_0_7 (0) (1200) → Bd y208_0_8 (2) (2) → Bd y208_0_9 (0) (1199) → Bd y208_0_12 (0) (3) → Bd y208_0_26 (0) (11) → Bd y208_0_27 (-1) (400) → Bd y208_0_29 (0) (2) → Bd y208_0_30 (0) (11) → Bd y208_0_31 (-1) (468) → 0 ≤ y208_0_6.toInt + (-1) * y208_0_7.toInt → 0 ≤ v2.toInt + (-1) * y208_0_6.toInt → 0 ≤ y208_0_6.toInt + (-1) * v2.toInt → 0 ≤ v11.toInt + (-1) * y208_0_12.toInt → 0 ≤ y208_0_12.toInt + (-1) * v11.toInt → 0 ≤ y208_0_7.toInt + (-1) * y208_0_9.toInt → 0 ≤ y208_0_9.toInt + (-1) * v4.toInt → 0 ≤ (-1) * y208_0_8.toInt + 2 → 0 ≤ y208_0_8.toInt + (-2) → (-1) * y208_0_7.toInt + 1200 < ((n : Nat) : Int) → InvM g ad S_208 → (∀ j, j ∉ ([0] : List Nat) → S_208 j = S116 j) → S_208 0 = .inr (12, [.int y208_0_0, .ref (ad 1), .ref (ad 2), .ref (ad 3), .ref (ad 4), .ref (ad 5), .int y208_0_6, .int y208_0_7, .int y208_0_8, .int y208_0_9, .int y208_0_10, .long wy208_0_11, .int y208_0_12, .int y208_0_13, .int y208_0_14, .int y208_0_15, .ref (ad 6), .ref (ad 7), .ref (ad 8), .ref (ad 9), .ref (ad 10), .ref (ad 11), .ref (ad 12), .ref (ad 13), .ref (ad 14), .ref (ad 15), .int y208_0_26, .int y208_0_27, .ref (ad 16), .int y208_0_29, .int y208_0_30, .int y208_0_31, .int y208_0_32, .int y208_0_33, .ref (ad 17), .ref (ad 18), .int y208_0_36, .ref (ad 19)]) → (y208_0_9.toInt + 1 ≤ y208_0_7.toInt ∨ byF y208_0_6.toInt (S_208 5) y208_0_7 48 57 = 1) → Hp g ad 20 S_208 (FA ad 20) s.heap H locs → lv_has ls 2 [(0, .ref (ad 0))] → W p l e (Rm 1) s m [.ref (ad 0)].toArray below meth c H locs 0 0 (MQ below (va_Qv (fun S' => InvM g ad S' ∧ (∀ j, j ∉ ([0] : List Nat) → S' j = S j) ∧ (0 ≤ fld (S' 0) 6 + (-1) * fld (S' 0) 7) ∧ (0 ≤ fld (S 0) 6 + (-1) * fld (S' 0) 6 ∧ 0 ≤ fld (S' 0) 6 + (-1) * fld (S 0) 6) ∧ (0 ≤ fld (S 0) 12 + (-1) * fld (S' 0) 12 ∧ 0 ≤ fld (S' 0) 12 + (-1) * fld (S 0) 12) ∧ (0 ≤ fld (S' 0) 7 + (-1) * fld (S 0) 7) ∧ (0 ≤ 4 * fld (S' 0) 7 + (-4) * fld (S 0) 7 + (-1) * fld (S' 0) 8)) (QB g ad 20) (FA ad 20)) [.ref (ad 0)].toArray s 0 0 (FA ad 20)) (F0 m 208 ls []) := by
                  intro n
                  induction n with
                  | zero => intro S_208 H locs ls y208_0_0 y208_0_6 y208_0_7 y208_0_8 y208_0_9 y208_0_10 wy208_0_11 y208_0_12 y208_0_13 y208_0_14 y208_0_15 y208_0_26 y208_0_27 y208_0_29 y208_0_30 y208_0_31 y208_0_32 y208_0_33 y208_0_36 By208_0_6 By208_0_7 By208_0_8 By208_0_9 By208_0_12 By208_0_26 By208_0_27 By208_0_29 By208_0_30 By208_0_31 C208_0 C208_1 C208_2 C208_3 C208_4 C208_5 C208_6 C208_7 C208_8 hn208_ hI hf208 cl208_0 hC208 hQ hl; exfalso; have := (By208_0_7).2; omega
                  | succ n208_ ih208 =>
                    intro S_208 H locs ls y208_0_0 y208_0_6 y208_0_7 y208_0_8 y208_0_9 y208_0_10 wy208_0_11 y208_0_12 y208_0_13 y208_0_14 y208_0_15 y208_0_26 y208_0_27 y208_0_29 y208_0_30 y208_0_31 y208_0_32 y208_0_33 y208_0_36 By208_0_6 By208_0_7 By208_0_8 By208_0_9 By208_0_12 By208_0_26 By208_0_27 By208_0_29 By208_0_30 By208_0_31 C208_0 C208_1 C208_2 C208_3 C208_4 C208_5 C208_6 C208_7 C208_8 hn208_ hI hf208 cl208_0 hC208 hQ hl
                    refine lv_aload_n hx hb dX12_next_208 rfl (lv_at hl 0 rfl) ?_
                    refine lv_aload_n hx hb dX12_next_209 rfl (lv_at hl 0 rfl) ?_
                    refine xget E hQ 0 (by decide) cl208_0 rfl 7 (by decide) q1475 rfl dX12_next_210 ?_
                    refine lv_bipush (v := 48) hx hb dX12_next_213 (by decide) ?_
                    refine lv_bipush (v := 57) hx hb dX12_next_215 (by decide) ?_
                    refine xcVi E hs hQ hml hl.1 0 (gX12_isByte_0 l g ad hD S_208 hI y208_0_7 48 57 By208_0_7 (ib_wk (by decide : Bd 48 (48) (48)) (by decide) (by decide)) (ib_wk (by decide : Bd 57 (57) (57)) (by decide) (by decide))) mX12_isByte q1641 (by decide) cl208_0 rfl rfl ⟨(Nat.le_of_ble_eq_true rfl), (Nat.le_of_ble_eq_true rfl)⟩ ⟨(Nat.le_of_ble_eq_true rfl), (Nat.le_of_ble_eq_true rfl)⟩ (Nat.le_of_ble_eq_true rfl) rfl dX12_next_217 (fun r118 S118 H locs hp118 hQ _ => ?_)
                    obtain ⟨rfl, b118, g118_0, u118_0⟩ := hp118
                    have q119 : fld (S_208 0) 6 = y208_0_6.toInt := fld_of cl208_0 rfl
                    refine lv_if_eq (tgt := 307) hx hb dX12_next_220 (by decide) (fun k120 => ?_) (fun k120 => ?_)
                    · have h121 := ib_eq k120
                      have b122 : Bd r118 (0) (0) := ⟨(b118).1, ((rf_eq b118 (by decide : Bd 0 (0) (0)) h121).1).2⟩
                      clear g118_0
                      have pr123 : y208_0_9.toInt + 1 ≤ y208_0_7.toInt := by
                        rcases hC208 with h | h
                        · exact h
                        · exact (by_n (u118_0.trans (by rw [q119])) rfl b122 h).elim
                      have q124 : fld (S_208 0) 7 = y208_0_7.toInt := fld_of cl208_0 rfl
                      have q125 : fld (S 0) 12 = v11.toInt := fld_of c29 rfl
                      have q126 : fld (S_208 0) 12 = y208_0_12.toInt := fld_of cl208_0 rfl
                      have q127 : fld (S_208 0) 8 = y208_0_8.toInt := fld_of cl208_0 rfl
                      exact xrv E hr hlk hQ (⟨hI, (o_trans (up_o (up_o (up_o (up_o (o_trans o_refl hf0 (by decide)) eS54 (by decide)) eS56 (by decide)) eS58 (by decide)) eS116 (by decide)) hf208 (by decide)), (by omega), ⟨by omega, by omega⟩, ⟨by omega, by omega⟩, (by omega), (by omega)⟩) dX12_next_307
                    · have h128 := ib_ne k120
                      have b129 : Bd r118 (1) (1) := rf_nlo b118 (by decide : Bd 0 (0) (0)) h128
                      have g130 := g118_0.resolve_left (by omega)
                      clear g118_0
                      have b131 : Bd y208_0_7 (0) (1199) := ⟨(By208_0_7).1, by omega⟩
                      refine lv_aload_n hx hb dX12_next_223 rfl (lv_at hl 0 rfl) ?_
                      refine lv_aload_n hx hb dX12_next_224 rfl (lv_at hl 0 rfl) ?_
                      refine xget E hQ 0 (by decide) cl208_0 rfl 10 (by decide) q1478 rfl dX12_next_225 ?_
                      refine lv_ldc (v := 100000) hx hb E.2.2.1 (E.2.2.2.1 _ q1648) dX12_next_228 ?_
                      refine lv_icmp_le (tgt := 238) hx hb dX12_next_230 (by decide) (fun k132 => ?_) (fun k132 => ?_)
                      · have h133 := ib_le k132
                        have b134 : Bd y208_0_10 (-2147483648) (100000) := ⟨((ib_full y208_0_10)).1, ((rf_le (ib_full y208_0_10) (by decide : Bd 100000 (100000) (100000)) h133).1).2⟩
                        refine lv_bipush (v := 10) hx hb dX12_next_238 (by decide) ?_
                        refine lv_aload_n hx hb dX12_next_240 rfl (lv_at hl 0 rfl) ?_
                        refine xget E hQ 0 (by decide) cl208_0 rfl 10 (by decide) q1478 rfl dX12_next_241 ?_
                        refine lv_imul hx hb dX12_next_244 ?_
                        refine lv_topi (fun z135 e136 => ?_)
                        refine lv_aload_n hx hb dX12_next_245 rfl (lv_at hl 0 rfl) ?_
                        refine xget E hQ 0 (by decide) cl208_0 rfl 5 (by decide) q1473 rfl dX12_next_246 ?_
                        refine lv_aload_n hx hb dX12_next_249 rfl (lv_at hl 0 rfl) ?_
                        refine xget E hQ 0 (by decide) cl208_0 rfl 7 (by decide) q1475 rfl dX12_next_250 ?_
                        obtain ⟨f137, c138, b139⟩ := invM_5 hI
                        refine xbald E hQ 5 (by decide) c138 (ib_in b131 (by decide) (by decide)) dX12_next_253 ?_
                        refine lv_topi (fun z140 e141 => ?_)
                        have b142 : Bd z140 (-128) (127) := (by rw [e141]; exact b139 _)
                        refine lv_iadd hx hb dX12_next_254 ?_
                        refine lv_topi (fun z143 e144 => ?_)
                        refine lv_bipush (v := 48) hx hb dX12_next_255 (by decide) ?_
                        refine lv_isub hx hb dX12_next_257 ?_
                        refine lv_topi (fun z145 e146 => ?_)
                        refine xputi E hs hQ 0 (by decide) cl208_0 rfl 10 (by decide) q1478 rfl rfl (Nat.le_of_ble_eq_true rfl) dX12_next_258 (fun H locs S147 eS147 hQ => ?_)
                        have hI := invM_up_0 hI eS147 ⟨y208_0_0, y208_0_6, y208_0_7, y208_0_8, y208_0_9, z145, wy208_0_11, y208_0_12, y208_0_13, y208_0_14, y208_0_15, y208_0_26, y208_0_27, y208_0_29, y208_0_30, y208_0_31, y208_0_32, y208_0_33, y208_0_36, rfl, (ib_wk By208_0_6 (by decide) (by decide)), (ib_wk b131 (by decide) (by decide)), (ib_wk By208_0_8 (by decide) (by decide)), By208_0_12, By208_0_26, By208_0_27, By208_0_29, By208_0_30, By208_0_31⟩
                        have c148 : S147 0 = .inr (12, [.int y208_0_0, .ref (ad 1), .ref (ad 2), .ref (ad 3), .ref (ad 4), .ref (ad 5), .int y208_0_6, .int y208_0_7, .int y208_0_8, .int y208_0_9, .int z145, .long wy208_0_11, .int y208_0_12, .int y208_0_13, .int y208_0_14, .int y208_0_15, .ref (ad 6), .ref (ad 7), .ref (ad 8), .ref (ad 9), .ref (ad 10), .ref (ad 11), .ref (ad 12), .ref (ad 13), .ref (ad 14), .ref (ad 15), .int y208_0_26, .int y208_0_27, .ref (ad 16), .int y208_0_29, .int y208_0_30, .int y208_0_31, .int y208_0_32, .int y208_0_33, .ref (ad 17), .ref (ad 18), .int y208_0_36, .ref (ad 19)]) := up_at eS147 rfl
                        refine lv_aload_n hx hb dX12_next_261 rfl (lv_at hl 0 rfl) ?_
                        refine lv_dup hx hb dX12_next_262 rfl ?_
                        refine xget E hQ 0 (by decide) c148 rfl 7 (by decide) q1475 rfl dX12_next_263 ?_
                        refine lv_iconst (v := 1) hx hb dX12_next_266 (by decide) ?_
                        refine lv_iadd hx hb dX12_next_267 ?_
                        refine lv_topi (fun z149 e150 => ?_)
                        have t151 := ib_add e150 b131 (by decide : Bd 1 (1) (1)) (by decide) (by decide)
                        have b152 : Bd z149 (1) (1200) := ib_addb t151 b131 (by decide : Bd 1 (1) (1))
                        have t151 : z149.toInt = y208_0_7.toInt + 1 := fold_add t151 rfl (by decide)
                        refine xputi E hs hQ 0 (by decide) c148 rfl 7 (by decide) q1475 rfl rfl (Nat.le_of_ble_eq_true rfl) dX12_next_268 (fun H locs S153 eS153 hQ => ?_)
                        have hI := invM_up_0 hI eS153 ⟨y208_0_0, y208_0_6, z149, y208_0_8, y208_0_9, z145, wy208_0_11, y208_0_12, y208_0_13, y208_0_14, y208_0_15, y208_0_26, y208_0_27, y208_0_29, y208_0_30, y208_0_31, y208_0_32, y208_0_33, y208_0_36, rfl, (ib_wk By208_0_6 (by decide) (by decide)), (ib_wk b152 (by decide) (by decide)), (ib_wk By208_0_8 (by decide) (by decide)), By208_0_12, By208_0_26, By208_0_27, By208_0_29, By208_0_30, By208_0_31⟩
                        have c154 : S153 0 = .inr (12, [.int y208_0_0, .ref (ad 1), .ref (ad 2), .ref (ad 3), .ref (ad 4), .ref (ad 5), .int y208_0_6, .int z149, .int y208_0_8, .int y208_0_9, .int z145, .long wy208_0_11, .int y208_0_12, .int y208_0_13, .int y208_0_14, .int y208_0_15, .ref (ad 6), .ref (ad 7), .ref (ad 8), .ref (ad 9), .ref (ad 10), .ref (ad 11), .ref (ad 12), .ref (ad 13), .ref (ad 14), .ref (ad 15), .int y208_0_26, .int y208_0_27, .ref (ad 16), .int y208_0_29, .int y208_0_30, .int y208_0_31, .int y208_0_32, .int y208_0_33, .ref (ad 17), .ref (ad 18), .int y208_0_36, .ref (ad 19)]) := up_at eS153 rfl
                        refine lv_goto (tgt := 208) hx hb dX12_next_271 (by decide) ?_
                        exact ih208 _ _ _ _ y208_0_0 y208_0_6 z149 y208_0_8 y208_0_9 z145 wy208_0_11 y208_0_12 y208_0_13 y208_0_14 y208_0_15 y208_0_26 y208_0_27 y208_0_29 y208_0_30 y208_0_31 y208_0_32 y208_0_33 y208_0_36 By208_0_6 (ib_wk b152 (by decide) (by decide)) By208_0_8 By208_0_9 By208_0_12 By208_0_26 By208_0_27 By208_0_29 By208_0_30 By208_0_31 (by omega) (by omega) (by omega) (by omega) (by omega) (by omega) (by omega) (by omega) (by omega) (by omega) hI (up_o (up_o hf208 eS147 (by decide)) eS153 (by decide)) c154 (Or.inl (by omega)) hQ (lv_sub hl [0] rfl)
                      · have h155 := ib_nle k132
                        have b156 : Bd y208_0_10 (100001) (2147483647) := ⟨((rf_lt (by decide : Bd 100000 (100000) (100000)) (ib_full y208_0_10) h155).2).1, ((ib_full y208_0_10)).2⟩
                        refine lv_ldc (v := 1000000) hx hb E.2.2.1 (E.2.2.2.1 _ q1649) dX12_next_233 ?_
                        refine lv_goto (tgt := 258) hx hb dX12_next_235 (by decide) ?_
                        refine xputi E hs hQ 0 (by decide) cl208_0 rfl 10 (by decide) q1478 rfl rfl (Nat.le_of_ble_eq_true rfl) dX12_next_258 (fun H locs S157 eS157 hQ => ?_)
                        have hI := invM_up_0 hI eS157 ⟨y208_0_0, y208_0_6, y208_0_7, y208_0_8, y208_0_9, 1000000, wy208_0_11, y208_0_12, y208_0_13, y208_0_14, y208_0_15, y208_0_26, y208_0_27, y208_0_29, y208_0_30, y208_0_31, y208_0_32, y208_0_33, y208_0_36, rfl, (ib_wk By208_0_6 (by decide) (by decide)), (ib_wk b131 (by decide) (by decide)), (ib_wk By208_0_8 (by decide) (by decide)), By208_0_12, By208_0_26, By208_0_27, By208_0_29, By208_0_30, By208_0_31⟩
                        have c158 : S157 0 = .inr (12, [.int y208_0_0, .ref (ad 1), .ref (ad 2), .ref (ad 3), .ref (ad 4), .ref (ad 5), .int y208_0_6, .int y208_0_7, .int y208_0_8, .int y208_0_9, .int 1000000, .long wy208_0_11, .int y208_0_12, .int y208_0_13, .int y208_0_14, .int y208_0_15, .ref (ad 6), .ref (ad 7), .ref (ad 8), .ref (ad 9), .ref (ad 10), .ref (ad 11), .ref (ad 12), .ref (ad 13), .ref (ad 14), .ref (ad 15), .int y208_0_26, .int y208_0_27, .ref (ad 16), .int y208_0_29, .int y208_0_30, .int y208_0_31, .int y208_0_32, .int y208_0_33, .ref (ad 17), .ref (ad 18), .int y208_0_36, .ref (ad 19)]) := up_at eS157 rfl
                        refine lv_aload_n hx hb dX12_next_261 rfl (lv_at hl 0 rfl) ?_
                        refine lv_dup hx hb dX12_next_262 rfl ?_
                        refine xget E hQ 0 (by decide) c158 rfl 7 (by decide) q1475 rfl dX12_next_263 ?_
                        refine lv_iconst (v := 1) hx hb dX12_next_266 (by decide) ?_
                        refine lv_iadd hx hb dX12_next_267 ?_
                        refine lv_topi (fun z159 e160 => ?_)
                        have t161 := ib_add e160 b131 (by decide : Bd 1 (1) (1)) (by decide) (by decide)
                        have b162 : Bd z159 (1) (1200) := ib_addb t161 b131 (by decide : Bd 1 (1) (1))
                        have t161 : z159.toInt = y208_0_7.toInt + 1 := fold_add t161 rfl (by decide)
                        refine xputi E hs hQ 0 (by decide) c158 rfl 7 (by decide) q1475 rfl rfl (Nat.le_of_ble_eq_true rfl) dX12_next_268 (fun H locs S163 eS163 hQ => ?_)
                        have hI := invM_up_0 hI eS163 ⟨y208_0_0, y208_0_6, z159, y208_0_8, y208_0_9, 1000000, wy208_0_11, y208_0_12, y208_0_13, y208_0_14, y208_0_15, y208_0_26, y208_0_27, y208_0_29, y208_0_30, y208_0_31, y208_0_32, y208_0_33, y208_0_36, rfl, (ib_wk By208_0_6 (by decide) (by decide)), (ib_wk b162 (by decide) (by decide)), (ib_wk By208_0_8 (by decide) (by decide)), By208_0_12, By208_0_26, By208_0_27, By208_0_29, By208_0_30, By208_0_31⟩
                        have c164 : S163 0 = .inr (12, [.int y208_0_0, .ref (ad 1), .ref (ad 2), .ref (ad 3), .ref (ad 4), .ref (ad 5), .int y208_0_6, .int z159, .int y208_0_8, .int y208_0_9, .int 1000000, .long wy208_0_11, .int y208_0_12, .int y208_0_13, .int y208_0_14, .int y208_0_15, .ref (ad 6), .ref (ad 7), .ref (ad 8), .ref (ad 9), .ref (ad 10), .ref (ad 11), .ref (ad 12), .ref (ad 13), .ref (ad 14), .ref (ad 15), .int y208_0_26, .int y208_0_27, .ref (ad 16), .int y208_0_29, .int y208_0_30, .int y208_0_31, .int y208_0_32, .int y208_0_33, .ref (ad 17), .ref (ad 18), .int y208_0_36, .ref (ad 19)]) := up_at eS163 rfl
                        refine lv_goto (tgt := 208) hx hb dX12_next_271 (by decide) ?_
                        exact ih208 _ _ _ _ y208_0_0 y208_0_6 z159 y208_0_8 y208_0_9 1000000 wy208_0_11 y208_0_12 y208_0_13 y208_0_14 y208_0_15 y208_0_26 y208_0_27 y208_0_29 y208_0_30 y208_0_31 y208_0_32 y208_0_33 y208_0_36 By208_0_6 (ib_wk b162 (by decide) (by decide)) By208_0_8 By208_0_9 By208_0_12 By208_0_26 By208_0_27 By208_0_29 By208_0_30 By208_0_31 (by have : (1000000 : Int32).toInt = 1000000 := (by decide); omega) (by have : (1000000 : Int32).toInt = 1000000 := (by decide); omega) (by have : (1000000 : Int32).toInt = 1000000 := (by decide); omega) (by have : (1000000 : Int32).toInt = 1000000 := (by decide); omega) (by have : (1000000 : Int32).toInt = 1000000 := (by decide); omega) (by have : (1000000 : Int32).toInt = 1000000 := (by decide); omega) (by have : (1000000 : Int32).toInt = 1000000 := (by decide); omega) (by have : (1000000 : Int32).toInt = 1000000 := (by decide); omega) (by have : (1000000 : Int32).toInt = 1000000 := (by decide); omega) (by have : (1000000 : Int32).toInt = 1000000 := (by decide); omega) hI (up_o (up_o hf208 eS157 (by decide)) eS163 (by decide)) c164 (Or.inl (by omega)) hQ (lv_sub hl [0] rfl)
                obtain ⟨n208, hn208⟩ := fu_n ((-1) * y0_0_7.toInt + 1200)
                exact loop208 n208 _ _ _ _ y0_0_0 y0_0_6 y0_0_7 2 y0_0_7 0 0 y0_0_12 y0_0_13 y0_0_14 y0_0_15 y0_0_26 y0_0_27 y0_0_29 y0_0_30 y0_0_31 y0_0_32 y0_0_33 y0_0_36 b114 (ib_wk b115 (by decide) (by decide)) (by decide : Bd 2 (2) (2)) b115 By0_0_12 By0_0_26 By0_0_27 By0_0_29 By0_0_30 By0_0_31 (by have : (2 : Int32).toInt = 2 := (by decide); have : (0 : Int32).toInt = 0 := (by decide); omega) (by have : (2 : Int32).toInt = 2 := (by decide); have : (0 : Int32).toInt = 0 := (by decide); omega) (by have : (2 : Int32).toInt = 2 := (by decide); have : (0 : Int32).toInt = 0 := (by decide); omega) (by have : (2 : Int32).toInt = 2 := (by decide); have : (0 : Int32).toInt = 0 := (by decide); omega) (by have : (2 : Int32).toInt = 2 := (by decide); have : (0 : Int32).toInt = 0 := (by decide); omega) (by have : (2 : Int32).toInt = 2 := (by decide); have : (0 : Int32).toInt = 0 := (by decide); omega) (by have : (2 : Int32).toInt = 2 := (by decide); have : (0 : Int32).toInt = 0 := (by decide); omega) (by have : (2 : Int32).toInt = 2 := (by decide); have : (0 : Int32).toInt = 0 := (by decide); omega) (by have : (2 : Int32).toInt = 2 := (by decide); have : (0 : Int32).toInt = 0 := (by decide); omega) (by have : (2 : Int32).toInt = 2 := (by decide); have : (0 : Int32).toInt = 0 := (by decide); omega) hI o_refl c117 (Or.inr (by rw [(up_eq (j := 5) eS116 (by decide)), ← q65]; exact by_r u71_0 b112)) hQ (lv_sub hl [0] rfl)
            · have h165 := ib_ne k66
              have b166 : Bd r64 (1) (1) := rf_nlo b64 (by decide : Bd 0 (0) (0)) h165
              have g167 := g64_0.resolve_left (by omega)
              clear g64_0
              have b168 : Bd y0_0_6 (1) (1200) := ⟨by omega, (By0_0_6).2⟩
              have b169 : Bd y0_0_7 (0) (1199) := ⟨(By0_0_7).1, by omega⟩
              refine lv_aload_n hx hb dX12_next_95 rfl (lv_at hl 0 rfl) ?_
              refine lv_iconst (v := 1) hx hb dX12_next_96 (by decide) ?_
              refine xputi E hs hQ 0 (by decide) c59 rfl 8 (by decide) q1476 rfl rfl (Nat.le_of_ble_eq_true rfl) dX12_next_97 (fun H locs S170 eS170 hQ => ?_)
              have hI := invM_up_0 hI eS170 ⟨y0_0_0, y0_0_6, y0_0_7, 1, y0_0_7, 0, 0, y0_0_12, y0_0_13, y0_0_14, y0_0_15, y0_0_26, y0_0_27, y0_0_29, y0_0_30, y0_0_31, y0_0_32, y0_0_33, y0_0_36, rfl, (ib_wk b168 (by decide) (by decide)), (ib_wk b169 (by decide) (by decide)), (ib_wk (by decide : Bd 1 (1) (1)) (by decide) (by decide)), By0_0_12, By0_0_26, By0_0_27, By0_0_29, By0_0_30, By0_0_31⟩
              have c171 : S170 0 = .inr (12, [.int y0_0_0, .ref (ad 1), .ref (ad 2), .ref (ad 3), .ref (ad 4), .ref (ad 5), .int y0_0_6, .int y0_0_7, .int 1, .int y0_0_7, .int 0, .long 0, .int y0_0_12, .int y0_0_13, .int y0_0_14, .int y0_0_15, .ref (ad 6), .ref (ad 7), .ref (ad 8), .ref (ad 9), .ref (ad 10), .ref (ad 11), .ref (ad 12), .ref (ad 13), .ref (ad 14), .ref (ad 15), .int y0_0_26, .int y0_0_27, .ref (ad 16), .int y0_0_29, .int y0_0_30, .int y0_0_31, .int y0_0_32, .int y0_0_33, .ref (ad 17), .ref (ad 18), .int y0_0_36, .ref (ad 19)]) := up_at eS170 rfl
              refine lv_iconst (v := 0) hx hb dX12_next_100 (by decide) ?_
              refine lv_istore_n (lv' := [(1, .int 0), (0, .ref (ad 0))]) hx hb dX12_next_101 rfl hl (by decide) rfl (fun ls hl => ?_)
              have loop102 : ∀ (n : Nat) (S_102 : SS) (H : Heap) (locs : List Loc) (ls : Array Slot) (x102_1 : Int32) (y102_0_0 : Int32) (y102_0_6 : Int32) (y102_0_7 : Int32) (y102_0_8 : Int32) (y102_0_9 : Int32) (y102_0_10 : Int32) (wy102_0_11 : Int64) (y102_0_12 : Int32) (y102_0_13 : Int32) (y102_0_14 : Int32) (y102_0_15 : Int32) (y102_0_26 : Int32) (y102_0_27 : Int32) (y102_0_29 : Int32) (y102_0_30 : Int32) (y102_0_31 : Int32) (y102_0_32 : Int32) (y102_0_33 : Int32) (y102_0_36 : Int32), Bd y102_0_6 (1) (1200) → Bd y102_0_7 (0) (1200) → Bd y102_0_8 (1) (1) → Bd y102_0_9 (0) (1199) → Bd y102_0_10 (0) (0) → Bd y102_0_12 (0) (3) → Bd y102_0_26 (0) (11) → Bd y102_0_27 (-1) (400) → Bd y102_0_29 (0) (2) → Bd y102_0_30 (0) (11) → Bd y102_0_31 (-1) (468) → 0 ≤ y102_0_6.toInt + (-1) * y102_0_7.toInt → 0 ≤ v2.toInt + (-1) * y102_0_6.toInt → 0 ≤ y102_0_6.toInt + (-1) * v2.toInt → 0 ≤ v11.toInt + (-1) * y102_0_12.toInt → 0 ≤ y102_0_12.toInt + (-1) * v11.toInt → 0 ≤ y102_0_7.toInt + (-1) * y102_0_9.toInt → 0 ≤ y102_0_9.toInt + (-1) * v4.toInt → 0 ≤ (-1) * y102_0_8.toInt + 1 → 0 ≤ y102_0_8.toInt + (-1) → (-1) * y102_0_7.toInt + 1200 < ((n : Nat) : Int) → InvM g ad S_102 → (∀ j, j ∉ ([0] : List Nat) → S_102 j = S170 j) → S_102 0 = .inr (12, [.int y102_0_0, .ref (ad 1), .ref (ad 2), .ref (ad 3), .ref (ad 4), .ref (ad 5), .int y102_0_6, .int y102_0_7, .int y102_0_8, .int y102_0_9, .int y102_0_10, .long wy102_0_11, .int y102_0_12, .int y102_0_13, .int y102_0_14, .int y102_0_15, .ref (ad 6), .ref (ad 7), .ref (ad 8), .ref (ad 9), .ref (ad 10), .ref (ad 11), .ref (ad 12), .ref (ad 13), .ref (ad 14), .ref (ad 15), .int y102_0_26, .int y102_0_27, .ref (ad 16), .int y102_0_29, .int y102_0_30, .int y102_0_31, .int y102_0_32, .int y102_0_33, .ref (ad 17), .ref (ad 18), .int y102_0_36, .ref (ad 19)]) → (y102_0_9.toInt + 1 ≤ y102_0_7.toInt ∨ byF y102_0_6.toInt (S_102 5) y102_0_7 97 122 = 1) → Hp g ad 20 S_102 (FA ad 20) s.heap H locs → lv_has ls 2 [(1, .int x102_1), (0, .ref (ad 0))] → W p l e (Rm 1) s m [.ref (ad 0)].toArray below meth c H locs 0 0 (MQ below (va_Qv (fun S' => InvM g ad S' ∧ (∀ j, j ∉ ([0] : List Nat) → S' j = S j) ∧ (0 ≤ fld (S' 0) 6 + (-1) * fld (S' 0) 7) ∧ (0 ≤ fld (S 0) 6 + (-1) * fld (S' 0) 6 ∧ 0 ≤ fld (S' 0) 6 + (-1) * fld (S 0) 6) ∧ (0 ≤ fld (S 0) 12 + (-1) * fld (S' 0) 12 ∧ 0 ≤ fld (S' 0) 12 + (-1) * fld (S 0) 12) ∧ (0 ≤ fld (S' 0) 7 + (-1) * fld (S 0) 7) ∧ (0 ≤ 4 * fld (S' 0) 7 + (-4) * fld (S 0) 7 + (-1) * fld (S' 0) 8)) (QB g ad 20) (FA ad 20)) [.ref (ad 0)].toArray s 0 0 (FA ad 20)) (F0 m 102 ls []) := by
                intro n
                induction n with
                | zero => intro S_102 H locs ls x102_1 y102_0_0 y102_0_6 y102_0_7 y102_0_8 y102_0_9 y102_0_10 wy102_0_11 y102_0_12 y102_0_13 y102_0_14 y102_0_15 y102_0_26 y102_0_27 y102_0_29 y102_0_30 y102_0_31 y102_0_32 y102_0_33 y102_0_36 By102_0_6 By102_0_7 By102_0_8 By102_0_9 By102_0_10 By102_0_12 By102_0_26 By102_0_27 By102_0_29 By102_0_30 By102_0_31 C102_0 C102_1 C102_2 C102_3 C102_4 C102_5 C102_6 C102_7 C102_8 hn102_ hI hf102 cl102_0 hC102 hQ hl; exfalso; have := (By102_0_7).2; omega
                | succ n102_ ih102 =>
                  intro S_102 H locs ls x102_1 y102_0_0 y102_0_6 y102_0_7 y102_0_8 y102_0_9 y102_0_10 wy102_0_11 y102_0_12 y102_0_13 y102_0_14 y102_0_15 y102_0_26 y102_0_27 y102_0_29 y102_0_30 y102_0_31 y102_0_32 y102_0_33 y102_0_36 By102_0_6 By102_0_7 By102_0_8 By102_0_9 By102_0_10 By102_0_12 By102_0_26 By102_0_27 By102_0_29 By102_0_30 By102_0_31 C102_0 C102_1 C102_2 C102_3 C102_4 C102_5 C102_6 C102_7 C102_8 hn102_ hI hf102 cl102_0 hC102 hQ hl
                  refine lv_aload_n hx hb dX12_next_102 rfl (lv_at hl 1 rfl) ?_
                  refine lv_aload_n hx hb dX12_next_103 rfl (lv_at hl 1 rfl) ?_
                  refine xget E hQ 0 (by decide) cl102_0 rfl 7 (by decide) q1475 rfl dX12_next_104 ?_
                  refine lv_bipush (v := 97) hx hb dX12_next_107 (by decide) ?_
                  refine lv_bipush (v := 122) hx hb dX12_next_109 (by decide) ?_
                  refine xcVi E hs hQ hml hl.1 0 (gX12_isByte_0 l g ad hD S_102 hI y102_0_7 97 122 By102_0_7 (ib_wk (by decide : Bd 97 (97) (97)) (by decide) (by decide)) (ib_wk (by decide : Bd 122 (122) (122)) (by decide) (by decide))) mX12_isByte q1641 (by decide) cl102_0 rfl rfl ⟨(Nat.le_of_ble_eq_true rfl), (Nat.le_of_ble_eq_true rfl)⟩ ⟨(Nat.le_of_ble_eq_true rfl), (Nat.le_of_ble_eq_true rfl)⟩ (Nat.le_of_ble_eq_true rfl) rfl dX12_next_111 (fun r172 S172 H locs hp172 hQ _ => ?_)
                  obtain ⟨rfl, b172, g172_0, u172_0⟩ := hp172
                  have q173 : fld (S_102 0) 6 = y102_0_6.toInt := fld_of cl102_0 rfl
                  refine lv_if_eq (tgt := 185) hx hb dX12_next_114 (by decide) (fun k174 => ?_) (fun k174 => ?_)
                  · have h175 := ib_eq k174
                    have b176 : Bd r172 (0) (0) := ⟨(b172).1, ((rf_eq b172 (by decide : Bd 0 (0) (0)) h175).1).2⟩
                    clear g172_0
                    have pr177 : y102_0_9.toInt + 1 ≤ y102_0_7.toInt := by
                      rcases hC102 with h | h
                      · exact h
                      · exact (by_n (u172_0.trans (by rw [q173])) rfl b176 h).elim
                    refine lv_goto (tgt := 307) hx hb dX12_next_185 (by decide) ?_
                    have q178 : fld (S_102 0) 7 = y102_0_7.toInt := fld_of cl102_0 rfl
                    have q179 : fld (S 0) 12 = v11.toInt := fld_of c29 rfl
                    have q180 : fld (S_102 0) 12 = y102_0_12.toInt := fld_of cl102_0 rfl
                    have q181 : fld (S_102 0) 8 = y102_0_8.toInt := fld_of cl102_0 rfl
                    exact xrv E hr hlk hQ (⟨hI, (o_trans (up_o (up_o (up_o (up_o (o_trans o_refl hf0 (by decide)) eS54 (by decide)) eS56 (by decide)) eS58 (by decide)) eS170 (by decide)) hf102 (by decide)), (by omega), ⟨by omega, by omega⟩, ⟨by omega, by omega⟩, (by omega), (by omega)⟩) dX12_next_307
                  · have h182 := ib_ne k174
                    have b183 : Bd r172 (1) (1) := rf_nlo b172 (by decide : Bd 0 (0) (0)) h182
                    have g184 := g172_0.resolve_left (by omega)
                    clear g172_0
                    have b185 : Bd y102_0_7 (0) (1199) := ⟨(By102_0_7).1, by omega⟩
                    refine lv_aload_n hx hb dX12_next_117 rfl (lv_at hl 1 rfl) ?_
                    refine lv_iload_n hx hb dX12_next_118 rfl (lv_at hl 0 rfl) ?_
                    refine lv_bipush (v := 11) hx hb dX12_next_119 (by decide) ?_
                    refine lv_icmp_le (tgt := 130) hx hb dX12_next_121 (by decide) (fun k186 => ?_) (fun k186 => ?_)
                    · have h187 := ib_le k186
                      have b188 : Bd x102_1 (-2147483648) (11) := ⟨((ib_full x102_1)).1, ((rf_le (ib_full x102_1) (by decide : Bd 11 (11) (11)) h187).1).2⟩
                      refine lv_ldc2 (v := 27) hx hb E.2.2.1 (E.2.2.2.1 _ q1646) dX12_next_130 ?_
                      refine lv_aload_n hx hb dX12_next_133 rfl (lv_at hl 1 rfl) ?_
                      refine xget E hQ 0 (by decide) cl102_0 rfl 11 (by decide) q1479 rfl dX12_next_134 ?_
                      refine lv_lmul hx hb dX12_next_137 ?_
                      refine lv_topl (fun w189 e190 => ?_)
                      refine lv_aload_n hx hb dX12_next_138 rfl (lv_at hl 1 rfl) ?_
                      refine xget E hQ 0 (by decide) cl102_0 rfl 5 (by decide) q1473 rfl dX12_next_139 ?_
                      refine lv_aload_n hx hb dX12_next_142 rfl (lv_at hl 1 rfl) ?_
                      refine xget E hQ 0 (by decide) cl102_0 rfl 7 (by decide) q1475 rfl dX12_next_143 ?_
                      obtain ⟨f191, c192, b193⟩ := invM_5 hI
                      refine xbald E hQ 5 (by decide) c192 (ib_in b185 (by decide) (by decide)) dX12_next_146 ?_
                      refine lv_topi (fun z194 e195 => ?_)
                      have b196 : Bd z194 (-128) (127) := (by rw [e195]; exact b193 _)
                      refine lv_i2l hx hb dX12_next_147 rfl ?_
                      refine lv_topl (fun w197 e198 => ?_)
                      have t199 : w197.toInt = z194.toInt := by rw [e198]; exact i2l_i _
                      have b200 : BdL w197 (-128) (127) := (by have h1 := (b196).1; have h2 := (b196).2; exact ⟨by omega, by omega⟩)
                      refine lv_ladd hx hb dX12_next_148 ?_
                      refine lv_topl (fun w201 e202 => ?_)
                      refine lv_ldc2 (v := 96) hx hb E.2.2.1 (E.2.2.2.1 _ q1647) dX12_next_149 ?_
                      refine lv_lsub hx hb dX12_next_152 ?_
                      refine lv_topl (fun w203 e204 => ?_)
                      refine xput (ty := .long) E hs hQ 0 (by decide) cl102_0 rfl 11 (by decide) q1479 rfl (by decide +kernel) rfl rfl (Nat.le_of_ble_eq_true rfl) dX12_next_153 (fun H locs S205 eS205 hQ => ?_)
                      have hI := invM_up_0 hI eS205 ⟨y102_0_0, y102_0_6, y102_0_7, y102_0_8, y102_0_9, y102_0_10, w203, y102_0_12, y102_0_13, y102_0_14, y102_0_15, y102_0_26, y102_0_27, y102_0_29, y102_0_30, y102_0_31, y102_0_32, y102_0_33, y102_0_36, rfl, (ib_wk By102_0_6 (by decide) (by decide)), (ib_wk b185 (by decide) (by decide)), (ib_wk By102_0_8 (by decide) (by decide)), By102_0_12, By102_0_26, By102_0_27, By102_0_29, By102_0_30, By102_0_31⟩
                      have c206 : S205 0 = .inr (12, [.int y102_0_0, .ref (ad 1), .ref (ad 2), .ref (ad 3), .ref (ad 4), .ref (ad 5), .int y102_0_6, .int y102_0_7, .int y102_0_8, .int y102_0_9, .int y102_0_10, .long w203, .int y102_0_12, .int y102_0_13, .int y102_0_14, .int y102_0_15, .ref (ad 6), .ref (ad 7), .ref (ad 8), .ref (ad 9), .ref (ad 10), .ref (ad 11), .ref (ad 12), .ref (ad 13), .ref (ad 14), .ref (ad 15), .int y102_0_26, .int y102_0_27, .ref (ad 16), .int y102_0_29, .int y102_0_30, .int y102_0_31, .int y102_0_32, .int y102_0_33, .ref (ad 17), .ref (ad 18), .int y102_0_36, .ref (ad 19)]) := up_at eS205 rfl
                      refine lv_iload_n hx hb dX12_next_156 rfl (lv_at hl 0 rfl) ?_
                      refine lv_bipush (v := 11) hx hb dX12_next_157 (by decide) ?_
                      refine lv_icmp_le (tgt := 169) hx hb dX12_next_159 (by decide) (fun k207 => ?_) (fun k207 => ?_)
                      · have h208 := ib_le k207
                        refine lv_aload_n hx hb dX12_next_169 rfl (lv_at hl 1 rfl) ?_
                        refine lv_dup hx hb dX12_next_170 rfl ?_
                        refine xget E hQ 0 (by decide) c206 rfl 7 (by decide) q1475 rfl dX12_next_171 ?_
                        refine lv_iconst (v := 1) hx hb dX12_next_174 (by decide) ?_
                        refine lv_iadd hx hb dX12_next_175 ?_
                        refine lv_topi (fun z209 e210 => ?_)
                        have t211 := ib_add e210 b185 (by decide : Bd 1 (1) (1)) (by decide) (by decide)
                        have b212 : Bd z209 (1) (1200) := ib_addb t211 b185 (by decide : Bd 1 (1) (1))
                        have t211 : z209.toInt = y102_0_7.toInt + 1 := fold_add t211 rfl (by decide)
                        refine xputi E hs hQ 0 (by decide) c206 rfl 7 (by decide) q1475 rfl rfl (Nat.le_of_ble_eq_true rfl) dX12_next_176 (fun H locs S213 eS213 hQ => ?_)
                        have hI := invM_up_0 hI eS213 ⟨y102_0_0, y102_0_6, z209, y102_0_8, y102_0_9, y102_0_10, w203, y102_0_12, y102_0_13, y102_0_14, y102_0_15, y102_0_26, y102_0_27, y102_0_29, y102_0_30, y102_0_31, y102_0_32, y102_0_33, y102_0_36, rfl, (ib_wk By102_0_6 (by decide) (by decide)), (ib_wk b212 (by decide) (by decide)), (ib_wk By102_0_8 (by decide) (by decide)), By102_0_12, By102_0_26, By102_0_27, By102_0_29, By102_0_30, By102_0_31⟩
                        have c214 : S213 0 = .inr (12, [.int y102_0_0, .ref (ad 1), .ref (ad 2), .ref (ad 3), .ref (ad 4), .ref (ad 5), .int y102_0_6, .int z209, .int y102_0_8, .int y102_0_9, .int y102_0_10, .long w203, .int y102_0_12, .int y102_0_13, .int y102_0_14, .int y102_0_15, .ref (ad 6), .ref (ad 7), .ref (ad 8), .ref (ad 9), .ref (ad 10), .ref (ad 11), .ref (ad 12), .ref (ad 13), .ref (ad 14), .ref (ad 15), .int y102_0_26, .int y102_0_27, .ref (ad 16), .int y102_0_29, .int y102_0_30, .int y102_0_31, .int y102_0_32, .int y102_0_33, .ref (ad 17), .ref (ad 18), .int y102_0_36, .ref (ad 19)]) := up_at eS213 rfl
                        obtain ⟨z215, e216⟩ : ∃ z : Int32, z = x102_1 + 1 := ⟨_, rfl⟩
                        have t217 := ib_add e216 b188 (by decide : Bd 1 (1) (1)) (by decide) (by decide)
                        have b218 : Bd z215 (-2147483647) (12) := ib_addb t217 b188 (by decide : Bd 1 (1) (1))
                        have t217 : z215.toInt = x102_1.toInt + 1 := fold_add t217 rfl (by decide)
                        refine lv_iinc (v := z215) (lv' := [(1, .int z215), (0, .ref (ad 0))]) hx hb dX12_next_179 hl (k := 0) rfl (by rw [e216]; rfl) (by decide) rfl (fun ls hl => ?_)
                        refine lv_goto (tgt := 102) hx hb dX12_next_182 (by decide) ?_
                        exact ih102 _ _ _ _ z215 y102_0_0 y102_0_6 z209 y102_0_8 y102_0_9 y102_0_10 w203 y102_0_12 y102_0_13 y102_0_14 y102_0_15 y102_0_26 y102_0_27 y102_0_29 y102_0_30 y102_0_31 y102_0_32 y102_0_33 y102_0_36 By102_0_6 (ib_wk b212 (by decide) (by decide)) By102_0_8 By102_0_9 By102_0_10 By102_0_12 By102_0_26 By102_0_27 By102_0_29 By102_0_30 By102_0_31 (by omega) (by omega) (by omega) (by omega) (by omega) (by omega) (by omega) (by omega) (by omega) (by omega) hI (up_o (up_o hf102 eS205 (by decide)) eS213 (by decide)) c214 (Or.inl (by omega)) hQ (lv_sub hl [0, 1] rfl)
                      · have h219 := ib_nle k207
                        exact absurd (Int.le_trans ((by decide : Bd 11 (11) (11))).1 ((rf_lt (by decide : Bd 11 (11) (11)) b188 h219).1).2) (by decide)
                    · have h220 := ib_nle k186
                      have b221 : Bd x102_1 (12) (2147483647) := ⟨((rf_lt (by decide : Bd 11 (11) (11)) (ib_full x102_1) h220).2).1, ((ib_full x102_1)).2⟩
                      refine lv_ldc2 (v := (-1)) hx hb E.2.2.1 (E.2.2.2.1 _ q1645) dX12_next_124 ?_
                      refine lv_goto (tgt := 153) hx hb dX12_next_127 (by decide) ?_
                      refine xput (ty := .long) E hs hQ 0 (by decide) cl102_0 rfl 11 (by decide) q1479 rfl (by decide +kernel) rfl rfl (Nat.le_of_ble_eq_true rfl) dX12_next_153 (fun H locs S222 eS222 hQ => ?_)
                      have hI := invM_up_0 hI eS222 ⟨y102_0_0, y102_0_6, y102_0_7, y102_0_8, y102_0_9, y102_0_10, (-1), y102_0_12, y102_0_13, y102_0_14, y102_0_15, y102_0_26, y102_0_27, y102_0_29, y102_0_30, y102_0_31, y102_0_32, y102_0_33, y102_0_36, rfl, (ib_wk By102_0_6 (by decide) (by decide)), (ib_wk b185 (by decide) (by decide)), (ib_wk By102_0_8 (by decide) (by decide)), By102_0_12, By102_0_26, By102_0_27, By102_0_29, By102_0_30, By102_0_31⟩
                      have c223 : S222 0 = .inr (12, [.int y102_0_0, .ref (ad 1), .ref (ad 2), .ref (ad 3), .ref (ad 4), .ref (ad 5), .int y102_0_6, .int y102_0_7, .int y102_0_8, .int y102_0_9, .int y102_0_10, .long (-1), .int y102_0_12, .int y102_0_13, .int y102_0_14, .int y102_0_15, .ref (ad 6), .ref (ad 7), .ref (ad 8), .ref (ad 9), .ref (ad 10), .ref (ad 11), .ref (ad 12), .ref (ad 13), .ref (ad 14), .ref (ad 15), .int y102_0_26, .int y102_0_27, .ref (ad 16), .int y102_0_29, .int y102_0_30, .int y102_0_31, .int y102_0_32, .int y102_0_33, .ref (ad 17), .ref (ad 18), .int y102_0_36, .ref (ad 19)]) := up_at eS222 rfl
                      refine lv_iload_n hx hb dX12_next_156 rfl (lv_at hl 0 rfl) ?_
                      refine lv_bipush (v := 11) hx hb dX12_next_157 (by decide) ?_
                      refine lv_icmp_le (tgt := 169) hx hb dX12_next_159 (by decide) (fun k224 => ?_) (fun k224 => ?_)
                      · have h225 := ib_le k224
                        have b226 : Bd x102_1 (12) (11) := ⟨(b221).1, ((rf_le b221 (by decide : Bd 11 (11) (11)) h225).1).2⟩
                        exact absurd (Int.le_trans b226.1 b226.2) (by decide)
                      · have h227 := ib_nle k224
                        refine lv_aload_n hx hb dX12_next_162 rfl (lv_at hl 1 rfl) ?_
                        refine lv_ldc2 (v := (-1)) hx hb E.2.2.1 (E.2.2.2.1 _ q1645) dX12_next_163 ?_
                        refine xput (ty := .long) E hs hQ 0 (by decide) c223 rfl 11 (by decide) q1479 rfl (by decide +kernel) rfl rfl (Nat.le_of_ble_eq_true rfl) dX12_next_166 (fun H locs S228 eS228 hQ => ?_)
                        have hI := invM_up_0 hI eS228 ⟨y102_0_0, y102_0_6, y102_0_7, y102_0_8, y102_0_9, y102_0_10, (-1), y102_0_12, y102_0_13, y102_0_14, y102_0_15, y102_0_26, y102_0_27, y102_0_29, y102_0_30, y102_0_31, y102_0_32, y102_0_33, y102_0_36, rfl, (ib_wk By102_0_6 (by decide) (by decide)), (ib_wk b185 (by decide) (by decide)), (ib_wk By102_0_8 (by decide) (by decide)), By102_0_12, By102_0_26, By102_0_27, By102_0_29, By102_0_30, By102_0_31⟩
                        have c229 : S228 0 = .inr (12, [.int y102_0_0, .ref (ad 1), .ref (ad 2), .ref (ad 3), .ref (ad 4), .ref (ad 5), .int y102_0_6, .int y102_0_7, .int y102_0_8, .int y102_0_9, .int y102_0_10, .long (-1), .int y102_0_12, .int y102_0_13, .int y102_0_14, .int y102_0_15, .ref (ad 6), .ref (ad 7), .ref (ad 8), .ref (ad 9), .ref (ad 10), .ref (ad 11), .ref (ad 12), .ref (ad 13), .ref (ad 14), .ref (ad 15), .int y102_0_26, .int y102_0_27, .ref (ad 16), .int y102_0_29, .int y102_0_30, .int y102_0_31, .int y102_0_32, .int y102_0_33, .ref (ad 17), .ref (ad 18), .int y102_0_36, .ref (ad 19)]) := up_at eS228 rfl
                        refine lv_aload_n hx hb dX12_next_169 rfl (lv_at hl 1 rfl) ?_
                        refine lv_dup hx hb dX12_next_170 rfl ?_
                        refine xget E hQ 0 (by decide) c229 rfl 7 (by decide) q1475 rfl dX12_next_171 ?_
                        refine lv_iconst (v := 1) hx hb dX12_next_174 (by decide) ?_
                        refine lv_iadd hx hb dX12_next_175 ?_
                        refine lv_topi (fun z230 e231 => ?_)
                        have t232 := ib_add e231 b185 (by decide : Bd 1 (1) (1)) (by decide) (by decide)
                        have b233 : Bd z230 (1) (1200) := ib_addb t232 b185 (by decide : Bd 1 (1) (1))
                        have t232 : z230.toInt = y102_0_7.toInt + 1 := fold_add t232 rfl (by decide)
                        refine xputi E hs hQ 0 (by decide) c229 rfl 7 (by decide) q1475 rfl rfl (Nat.le_of_ble_eq_true rfl) dX12_next_176 (fun H locs S234 eS234 hQ => ?_)
                        have hI := invM_up_0 hI eS234 ⟨y102_0_0, y102_0_6, z230, y102_0_8, y102_0_9, y102_0_10, (-1), y102_0_12, y102_0_13, y102_0_14, y102_0_15, y102_0_26, y102_0_27, y102_0_29, y102_0_30, y102_0_31, y102_0_32, y102_0_33, y102_0_36, rfl, (ib_wk By102_0_6 (by decide) (by decide)), (ib_wk b233 (by decide) (by decide)), (ib_wk By102_0_8 (by decide) (by decide)), By102_0_12, By102_0_26, By102_0_27, By102_0_29, By102_0_30, By102_0_31⟩
                        have c235 : S234 0 = .inr (12, [.int y102_0_0, .ref (ad 1), .ref (ad 2), .ref (ad 3), .ref (ad 4), .ref (ad 5), .int y102_0_6, .int z230, .int y102_0_8, .int y102_0_9, .int y102_0_10, .long (-1), .int y102_0_12, .int y102_0_13, .int y102_0_14, .int y102_0_15, .ref (ad 6), .ref (ad 7), .ref (ad 8), .ref (ad 9), .ref (ad 10), .ref (ad 11), .ref (ad 12), .ref (ad 13), .ref (ad 14), .ref (ad 15), .int y102_0_26, .int y102_0_27, .ref (ad 16), .int y102_0_29, .int y102_0_30, .int y102_0_31, .int y102_0_32, .int y102_0_33, .ref (ad 17), .ref (ad 18), .int y102_0_36, .ref (ad 19)]) := up_at eS234 rfl
                        obtain ⟨z236, e237⟩ : ∃ z : Int32, z = x102_1 + 1 := ⟨_, rfl⟩
                        refine lv_iinc (v := z236) (lv' := [(1, .int z236), (0, .ref (ad 0))]) hx hb dX12_next_179 hl (k := 0) rfl (by rw [e237]; rfl) (by decide) rfl (fun ls hl => ?_)
                        refine lv_goto (tgt := 102) hx hb dX12_next_182 (by decide) ?_
                        exact ih102 _ _ _ _ z236 y102_0_0 y102_0_6 z230 y102_0_8 y102_0_9 y102_0_10 (-1) y102_0_12 y102_0_13 y102_0_14 y102_0_15 y102_0_26 y102_0_27 y102_0_29 y102_0_30 y102_0_31 y102_0_32 y102_0_33 y102_0_36 By102_0_6 (ib_wk b233 (by decide) (by decide)) By102_0_8 By102_0_9 By102_0_10 By102_0_12 By102_0_26 By102_0_27 By102_0_29 By102_0_30 By102_0_31 (by omega) (by omega) (by omega) (by omega) (by omega) (by omega) (by omega) (by omega) (by omega) (by omega) hI (up_o (up_o (up_o hf102 eS222 (by decide)) eS228 (by decide)) eS234 (by decide)) c235 (Or.inl (by omega)) hQ (lv_sub hl [0, 1] rfl)
              obtain ⟨n102, hn102⟩ := fu_n ((-1) * y0_0_7.toInt + 1200)
              exact loop102 n102 _ _ _ _ 0 y0_0_0 y0_0_6 y0_0_7 1 y0_0_7 0 0 y0_0_12 y0_0_13 y0_0_14 y0_0_15 y0_0_26 y0_0_27 y0_0_29 y0_0_30 y0_0_31 y0_0_32 y0_0_33 y0_0_36 b168 (ib_wk b169 (by decide) (by decide)) (by decide : Bd 1 (1) (1)) b169 (by decide : Bd 0 (0) (0)) By0_0_12 By0_0_26 By0_0_27 By0_0_29 By0_0_30 By0_0_31 (by have : (0 : Int32).toInt = 0 := (by decide); have : (1 : Int32).toInt = 1 := (by decide); omega) (by have : (0 : Int32).toInt = 0 := (by decide); have : (1 : Int32).toInt = 1 := (by decide); omega) (by have : (0 : Int32).toInt = 0 := (by decide); have : (1 : Int32).toInt = 1 := (by decide); omega) (by have : (0 : Int32).toInt = 0 := (by decide); have : (1 : Int32).toInt = 1 := (by decide); omega) (by have : (0 : Int32).toInt = 0 := (by decide); have : (1 : Int32).toInt = 1 := (by decide); omega) (by have : (0 : Int32).toInt = 0 := (by decide); have : (1 : Int32).toInt = 1 := (by decide); omega) (by have : (0 : Int32).toInt = 0 := (by decide); have : (1 : Int32).toInt = 1 := (by decide); omega) (by have : (0 : Int32).toInt = 0 := (by decide); have : (1 : Int32).toInt = 1 := (by decide); omega) (by have : (0 : Int32).toInt = 0 := (by decide); have : (1 : Int32).toInt = 1 := (by decide); omega) (by have : (0 : Int32).toInt = 0 := (by decide); have : (1 : Int32).toInt = 1 := (by decide); omega) hI o_refl c171 (Or.inr (by rw [(up_eq (j := 5) eS170 (by decide)), ← q65]; exact by_r u64_0 b166)) hQ (lv_sub hl [0, 1] rfl)
          · have h238 := ib_eq k60
            refine lv_aload_n hx hb dX12_next_72 rfl (lv_at hl 0 rfl) ?_
            refine lv_iconst (v := 0) hx hb dX12_next_73 (by decide) ?_
            refine xputi E hs hQ 0 (by decide) c59 rfl 8 (by decide) q1476 rfl rfl (Nat.le_of_ble_eq_true rfl) dX12_next_74 (fun H locs S239 eS239 hQ => ?_)
            have hI := invM_up_0 hI eS239 ⟨y0_0_0, y0_0_6, y0_0_7, 0, y0_0_7, 0, 0, y0_0_12, y0_0_13, y0_0_14, y0_0_15, y0_0_26, y0_0_27, y0_0_29, y0_0_30, y0_0_31, y0_0_32, y0_0_33, y0_0_36, rfl, By0_0_6, By0_0_7, (ib_wk (by decide : Bd 0 (0) (0)) (by decide) (by decide)), By0_0_12, By0_0_26, By0_0_27, By0_0_29, By0_0_30, By0_0_31⟩
            have c240 : S239 0 = .inr (12, [.int y0_0_0, .ref (ad 1), .ref (ad 2), .ref (ad 3), .ref (ad 4), .ref (ad 5), .int y0_0_6, .int y0_0_7, .int 0, .int y0_0_7, .int 0, .long 0, .int y0_0_12, .int y0_0_13, .int y0_0_14, .int y0_0_15, .ref (ad 6), .ref (ad 7), .ref (ad 8), .ref (ad 9), .ref (ad 10), .ref (ad 11), .ref (ad 12), .ref (ad 13), .ref (ad 14), .ref (ad 15), .int y0_0_26, .int y0_0_27, .ref (ad 16), .int y0_0_29, .int y0_0_30, .int y0_0_31, .int y0_0_32, .int y0_0_33, .ref (ad 17), .ref (ad 18), .int y0_0_36, .ref (ad 19)]) := up_at eS239 rfl
            refine lv_goto (tgt := 307) hx hb dX12_next_77 (by decide) ?_
            have q241 : fld (S239 0) 6 = y0_0_6.toInt := fld_of c240 rfl
            have q242 : fld (S239 0) 7 = y0_0_7.toInt := fld_of c240 rfl
            have q243 : fld (S 0) 12 = v11.toInt := fld_of c29 rfl
            have q244 : fld (S239 0) 12 = y0_0_12.toInt := fld_of c240 rfl
            have q245 : fld (S239 0) 8 = (0 : Int32).toInt := fld_of c240 rfl
            have q245 : fld (S239 0) 8 = 0 := q245.trans (by decide)
            exact xrv E hr hlk hQ (⟨hI, (up_o (up_o (up_o (up_o (o_trans o_refl hf0 (by decide)) eS54 (by decide)) eS56 (by decide)) eS58 (by decide)) eS239 (by decide)), (by omega), ⟨by omega, by omega⟩, ⟨by omega, by omega⟩, (by omega), (by omega)⟩) dX12_next_307
        · have h246 := ib_ne k51
          have b247 : Bd r50 (1) (1) := rf_nlo b50 (by decide : Bd 0 (0) (0)) h246
          have g248 := g50_0.resolve_left (by omega)
          clear g50_0
          have b249 : Bd y0_0_6 (1) (1200) := ⟨by omega, (By0_0_6).2⟩
          have b250 : Bd y0_0_7 (0) (1199) := ⟨(By0_0_7).1, by omega⟩
          refine lv_aload_n hx hb dX12_next_30 rfl (lv_at hl 0 rfl) ?_
          refine lv_dup hx hb dX12_next_31 rfl ?_
          refine xget E hQ 0 (by decide) cl0_0 rfl 7 (by decide) q1475 rfl dX12_next_32 ?_
          refine lv_iconst (v := 1) hx hb dX12_next_35 (by decide) ?_
          refine lv_iadd hx hb dX12_next_36 ?_
          refine lv_topi (fun z251 e252 => ?_)
          have t253 := ib_add e252 b250 (by decide : Bd 1 (1) (1)) (by decide) (by decide)
          have b254 : Bd z251 (1) (1200) := ib_addb t253 b250 (by decide : Bd 1 (1) (1))
          have t253 : z251.toInt = y0_0_7.toInt + 1 := fold_add t253 rfl (by decide)
          refine xputi E hs hQ 0 (by decide) cl0_0 rfl 7 (by decide) q1475 rfl rfl (Nat.le_of_ble_eq_true rfl) dX12_next_37 (fun H locs S255 eS255 hQ => ?_)
          have hI := invM_up_0 hI eS255 ⟨y0_0_0, y0_0_6, z251, y0_0_8, y0_0_9, y0_0_10, wy0_0_11, y0_0_12, y0_0_13, y0_0_14, y0_0_15, y0_0_26, y0_0_27, y0_0_29, y0_0_30, y0_0_31, y0_0_32, y0_0_33, y0_0_36, rfl, (ib_wk b249 (by decide) (by decide)), (ib_wk b254 (by decide) (by decide)), By0_0_8, By0_0_12, By0_0_26, By0_0_27, By0_0_29, By0_0_30, By0_0_31⟩
          have c256 : S255 0 = .inr (12, [.int y0_0_0, .ref (ad 1), .ref (ad 2), .ref (ad 3), .ref (ad 4), .ref (ad 5), .int y0_0_6, .int z251, .int y0_0_8, .int y0_0_9, .int y0_0_10, .long wy0_0_11, .int y0_0_12, .int y0_0_13, .int y0_0_14, .int y0_0_15, .ref (ad 6), .ref (ad 7), .ref (ad 8), .ref (ad 9), .ref (ad 10), .ref (ad 11), .ref (ad 12), .ref (ad 13), .ref (ad 14), .ref (ad 15), .int y0_0_26, .int y0_0_27, .ref (ad 16), .int y0_0_29, .int y0_0_30, .int y0_0_31, .int y0_0_32, .int y0_0_33, .ref (ad 17), .ref (ad 18), .int y0_0_36, .ref (ad 19)]) := up_at eS255 rfl
          refine lv_goto (tgt := 0) hx hb dX12_next_40 (by decide) ?_
          exact ih0 _ _ _ _ y0_0_0 y0_0_6 z251 y0_0_8 y0_0_9 y0_0_10 wy0_0_11 y0_0_12 y0_0_13 y0_0_14 y0_0_15 y0_0_26 y0_0_27 y0_0_29 y0_0_30 y0_0_31 y0_0_32 y0_0_33 y0_0_36 (ib_wk b249 (by decide) (by decide)) (ib_wk b254 (by decide) (by decide)) By0_0_8 By0_0_12 By0_0_26 By0_0_27 By0_0_29 By0_0_30 By0_0_31 (by omega) (by omega) (by omega) (by omega) (by omega) (by omega) (by omega) hI (up_o hf0 eS255 (by decide)) c256 hQ (lv_sub hl [0] rfl)
  obtain ⟨n0, hn0⟩ := fu_n ((-1) * v4.toInt + 1200)
  exact loop0 n0 _ _ _ _ v1 v2 v4 v6 v8 v9 w10 v11 v13 v14 v15 v16 v18 v20 v22 v24 v26 v27 v28 b3 b5 b7 b12 b17 b19 b21 b23 b25 (by omega) (by omega) (by omega) (by omega) (by omega) (by omega) (by omega) hI o_refl c29 hQ (lv_sub hl [0] rfl)
set_option maxHeartbeats 4000000 in
set_option maxRecDepth 100000 in
theorem gX12_isGood_0 (l : Launch) (g : GG) (ad : Nat → Nat) (hD : Dj ad 20) (S : SS) (hI : InvM g ad S) : Met l yX12_isGood (wG (.code yX12_isGood cX12_isGood 1 (some .boolean))) (Rm 0) (XPre g ad 20 S [.ref (ad 0)]) (va_Qi (fun r S' => S = S' ∧ Bd r (0) (1) ∧ ((r.toInt + (-1) < 0 ∨ (0 ≤ (-1) * fld (S 0) 12))) ∧ (((-1) * r.toInt < 0 ∨ (0 ≤ fld (S 0) 12 + (-1))))) (QB g ad 20) (FA ad 20)) 0 0 (FA ad 20) := by
  refine xmet cX12_isGood "EbbWreckModel" (by decide) rfl (Nat.le_of_ble_eq_true rfl) (fun p e s m below meth c E hr hlk hml hQ ls hl => ?_)
  have hx := E.1
  have hb := E.2.1
  have hs : Sp ad 20 (FA ad 20) := Sp.fa hD
  have hl : lv_has ls 1 [(0, .ref (ad 0))] := hl
  obtain ⟨v1, v2, v4, v6, v8, v9, w10, v11, v13, v14, v15, v16, v18, v20, v22, v24, v26, v27, v28, c29, b3, b5, b7, b12, b17, b19, b21, b23, b25⟩ := invM_0 hI
  have c29 : S 0 = .inr (12, [.int v1, .ref (ad 1), .ref (ad 2), .ref (ad 3), .ref (ad 4), .ref (ad 5), .int v2, .int v4, .int v6, .int v8, .int v9, .long w10, .int v11, .int v13, .int v14, .int v15, .ref (ad 6), .ref (ad 7), .ref (ad 8), .ref (ad 9), .ref (ad 10), .ref (ad 11), .ref (ad 12), .ref (ad 13), .ref (ad 14), .ref (ad 15), .int v16, .int v18, .ref (ad 16), .int v20, .int v22, .int v24, .int v26, .int v27, .ref (ad 17), .ref (ad 18), .int v28, .ref (ad 19)]) := c29
  refine lv_aload_n hx hb dX12_isGood_0 rfl (lv_at hl 0 rfl) ?_
  refine xget E hQ 0 (by decide) c29 rfl 12 (by decide) q1480 rfl dX12_isGood_1 ?_
  refine lv_if_ne (tgt := 11) hx hb dX12_isGood_4 (by decide) (fun k30 => ?_) (fun k30 => ?_)
  · have h31 := ib_ne k30
    have b32 : Bd v11 (1) (3) := rf_nlo b12 (by decide : Bd 0 (0) (0)) h31
    refine lv_iconst (v := 0) hx hb dX12_isGood_11 (by decide) ?_
    have q33 : fld (S 0) 12 = v11.toInt := fld_of c29 rfl
    have q34 : (0 : Int32).toInt = 0 := by decide
    have q35 : (0 : Int32).toInt = 0 := by decide
    exact xrz E hr hlk hQ rfl (⟨rfl, (ib_wk (by decide : Bd 0 (0) (0)) (by decide) (by decide)), Or.inl (by omega), Or.inr (by omega)⟩) dX12_isGood_12
  · have h36 := ib_eq k30
    have b37 : Bd v11 (0) (0) := ⟨(b12).1, ((rf_eq b12 (by decide : Bd 0 (0) (0)) h36).1).2⟩
    refine lv_iconst (v := 1) hx hb dX12_isGood_7 (by decide) ?_
    refine lv_goto (tgt := 12) hx hb dX12_isGood_8 (by decide) ?_
    have q38 : fld (S 0) 12 = v11.toInt := fld_of c29 rfl
    have q39 : (1 : Int32).toInt = 1 := by decide
    have q40 : (1 : Int32).toInt = 1 := by decide
    exact xrz E hr hlk hQ rfl (⟨rfl, (ib_wk (by decide : Bd 1 (1) (1)) (by decide) (by decide)), Or.inr (by omega), Or.inl (by omega)⟩) dX12_isGood_12
set_option maxHeartbeats 4000000 in
set_option maxRecDepth 100000 in
theorem gX12_fails_0 (l : Launch) (g : GG) (ad : Nat → Nat) (hD : Dj ad 20) (S : SS) (hI : InvM g ad S) (a1 : Int32) (ba1 : Bd a1 (1) (3)) : Met l yX12_fails (wG (.code yX12_fails cX12_fails 2 none)) (Rm 0) (XPre g ad 20 S [.ref (ad 0), .int a1]) (va_Qv (fun S' => InvM g ad S' ∧ (∀ j, j ∉ ([0] : List Nat) → S' j = S j) ∧ (0 ≤ fld (S' 0) 12 + (-1)) ∧ (0 ≤ fld (S 0) 6 + (-1) * fld (S' 0) 6 ∧ 0 ≤ fld (S' 0) 6 + (-1) * fld (S 0) 6) ∧ (0 ≤ fld (S 0) 7 + (-1) * fld (S' 0) 7 ∧ 0 ≤ fld (S' 0) 7 + (-1) * fld (S 0) 7) ∧ (0 ≤ fld (S 0) 8 + (-1) * fld (S' 0) 8 ∧ 0 ≤ fld (S' 0) 8 + (-1) * fld (S 0) 8)) (QB g ad 20) (FA ad 20)) 0 0 (FA ad 20) := by
  refine xmet cX12_fails "EbbWreckModel" (by decide) rfl (Nat.le_of_ble_eq_true rfl) (fun p e s m below meth c E hr hlk hml hQ ls hl => ?_)
  have hx := E.1
  have hb := E.2.1
  have hs : Sp ad 20 (FA ad 20) := Sp.fa hD
  have hl : lv_has ls 2 [(0, .ref (ad 0)), (1, .int a1)] := hl
  obtain ⟨v1, v2, v4, v6, v8, v9, w10, v11, v13, v14, v15, v16, v18, v20, v22, v24, v26, v27, v28, c29, b3, b5, b7, b12, b17, b19, b21, b23, b25⟩ := invM_0 hI
  have c29 : S 0 = .inr (12, [.int v1, .ref (ad 1), .ref (ad 2), .ref (ad 3), .ref (ad 4), .ref (ad 5), .int v2, .int v4, .int v6, .int v8, .int v9, .long w10, .int v11, .int v13, .int v14, .int v15, .ref (ad 6), .ref (ad 7), .ref (ad 8), .ref (ad 9), .ref (ad 10), .ref (ad 11), .ref (ad 12), .ref (ad 13), .ref (ad 14), .ref (ad 15), .int v16, .int v18, .ref (ad 16), .int v20, .int v22, .int v24, .int v26, .int v27, .ref (ad 17), .ref (ad 18), .int v28, .ref (ad 19)]) := c29
  refine lv_aload_n hx hb dX12_fails_0 rfl (lv_at hl 0 rfl) ?_
  refine xget E hQ 0 (by decide) c29 rfl 12 (by decide) q1480 rfl dX12_fails_1 ?_
  refine lv_if_eq (tgt := 8) hx hb dX12_fails_4 (by decide) (fun k30 => ?_) (fun k30 => ?_)
  · have h31 := ib_eq k30
    have b32 : Bd v11 (0) (0) := ⟨(b12).1, ((rf_eq b12 (by decide : Bd 0 (0) (0)) h31).1).2⟩
    refine lv_aload_n hx hb dX12_fails_8 rfl (lv_at hl 0 rfl) ?_
    refine lv_iload_n hx hb dX12_fails_9 rfl (lv_at hl 1 rfl) ?_
    refine xputi E hs hQ 0 (by decide) c29 rfl 12 (by decide) q1480 rfl rfl (Nat.le_of_ble_eq_true rfl) dX12_fails_10 (fun H locs S33 eS33 hQ => ?_)
    have hI := invM_up_0 hI eS33 ⟨v1, v2, v4, v6, v8, v9, w10, a1, v13, v14, v15, v16, v18, v20, v22, v24, v26, v27, v28, rfl, b3, b5, b7, (ib_wk ba1 (by decide) (by decide)), b17, b19, b21, b23, b25⟩
    have c34 : S33 0 = .inr (12, [.int v1, .ref (ad 1), .ref (ad 2), .ref (ad 3), .ref (ad 4), .ref (ad 5), .int v2, .int v4, .int v6, .int v8, .int v9, .long w10, .int a1, .int v13, .int v14, .int v15, .ref (ad 6), .ref (ad 7), .ref (ad 8), .ref (ad 9), .ref (ad 10), .ref (ad 11), .ref (ad 12), .ref (ad 13), .ref (ad 14), .ref (ad 15), .int v16, .int v18, .ref (ad 16), .int v20, .int v22, .int v24, .int v26, .int v27, .ref (ad 17), .ref (ad 18), .int v28, .ref (ad 19)]) := up_at eS33 rfl
    refine lv_aload_n hx hb dX12_fails_13 rfl (lv_at hl 0 rfl) ?_
    refine lv_aload_n hx hb dX12_fails_14 rfl (lv_at hl 0 rfl) ?_
    refine xget E hQ 0 (by decide) c34 rfl 9 (by decide) q1477 rfl dX12_fails_15 ?_
    refine xputi E hs hQ 0 (by decide) c34 rfl 13 (by decide) q1481 rfl rfl (Nat.le_of_ble_eq_true rfl) dX12_fails_18 (fun H locs S35 eS35 hQ => ?_)
    have hI := invM_up_0 hI eS35 ⟨v1, v2, v4, v6, v8, v9, w10, a1, v8, v14, v15, v16, v18, v20, v22, v24, v26, v27, v28, rfl, b3, b5, b7, (ib_wk ba1 (by decide) (by decide)), b17, b19, b21, b23, b25⟩
    have c36 : S35 0 = .inr (12, [.int v1, .ref (ad 1), .ref (ad 2), .ref (ad 3), .ref (ad 4), .ref (ad 5), .int v2, .int v4, .int v6, .int v8, .int v9, .long w10, .int a1, .int v8, .int v14, .int v15, .ref (ad 6), .ref (ad 7), .ref (ad 8), .ref (ad 9), .ref (ad 10), .ref (ad 11), .ref (ad 12), .ref (ad 13), .ref (ad 14), .ref (ad 15), .int v16, .int v18, .ref (ad 16), .int v20, .int v22, .int v24, .int v26, .int v27, .ref (ad 17), .ref (ad 18), .int v28, .ref (ad 19)]) := up_at eS35 rfl
    have q37 : fld (S35 0) 12 = a1.toInt := fld_of c36 rfl
    have q38 : fld (S 0) 6 = v2.toInt := fld_of c29 rfl
    have q39 : fld (S35 0) 6 = v2.toInt := fld_of c36 rfl
    have q40 : fld (S 0) 7 = v4.toInt := fld_of c29 rfl
    have q41 : fld (S35 0) 7 = v4.toInt := fld_of c36 rfl
    have q42 : fld (S 0) 8 = v6.toInt := fld_of c29 rfl
    have q43 : fld (S35 0) 8 = v6.toInt := fld_of c36 rfl
    exact xrv E hr hlk hQ (⟨hI, (up_o (up_o o_refl eS33 (by decide)) eS35 (by decide)), (by omega), ⟨by omega, by omega⟩, ⟨by omega, by omega⟩, ⟨by omega, by omega⟩⟩) dX12_fails_21
  · have h44 := ib_ne k30
    have b45 : Bd v11 (1) (3) := rf_nlo b12 (by decide : Bd 0 (0) (0)) h44
    have q46 : fld (S 0) 12 = v11.toInt := fld_of c29 rfl
    have q47 : fld (S 0) 6 = v2.toInt := fld_of c29 rfl
    have q48 : fld (S 0) 7 = v4.toInt := fld_of c29 rfl
    have q49 : fld (S 0) 8 = v6.toInt := fld_of c29 rfl
    exact xrv E hr hlk hQ (⟨hI, o_refl, (by omega), ⟨by omega, by omega⟩, ⟨by omega, by omega⟩, ⟨by omega, by omega⟩⟩) dX12_fails_7
set_option maxHeartbeats 4000000 in
set_option maxRecDepth 100000 in
theorem gX12_is_0 (l : Launch) (g : GG) (ad : Nat → Nat) (hD : Dj ad 20) (S : SS) (hI : InvM g ad S) (wa1 : Int64) : Met l yX12_is (wG (.code yX12_is cX12_is 3 (some .boolean))) (Rm 0) (XPre g ad 20 S [.ref (ad 0), .long wa1]) (va_Qi (fun r S' => S = S' ∧ Bd r (0) (1) ∧ ((r.toInt + (-1) < 0 ∨ (0 ≤ (-1) * fld (S 0) 12 ∧ 0 ≤ fld (S 0) 8 + (-1))))) (QB g ad 20) (FA ad 20)) 0 0 (FA ad 20) := by
  refine xmet cX12_is "EbbWreckModel" (by decide) rfl (Nat.le_of_ble_eq_true rfl) (fun p e s m below meth c E hr hlk hml hQ ls hl => ?_)
  have hx := E.1
  have hb := E.2.1
  have hs : Sp ad 20 (FA ad 20) := Sp.fa hD
  have hl : lv_has ls 3 [(0, .ref (ad 0)), (1, .long wa1)] := hl
  obtain ⟨v1, v2, v4, v6, v8, v9, w10, v11, v13, v14, v15, v16, v18, v20, v22, v24, v26, v27, v28, c29, b3, b5, b7, b12, b17, b19, b21, b23, b25⟩ := invM_0 hI
  have c29 : S 0 = .inr (12, [.int v1, .ref (ad 1), .ref (ad 2), .ref (ad 3), .ref (ad 4), .ref (ad 5), .int v2, .int v4, .int v6, .int v8, .int v9, .long w10, .int v11, .int v13, .int v14, .int v15, .ref (ad 6), .ref (ad 7), .ref (ad 8), .ref (ad 9), .ref (ad 10), .ref (ad 11), .ref (ad 12), .ref (ad 13), .ref (ad 14), .ref (ad 15), .int v16, .int v18, .ref (ad 16), .int v20, .int v22, .int v24, .int v26, .int v27, .ref (ad 17), .ref (ad 18), .int v28, .ref (ad 19)]) := c29
  refine lv_aload_n hx hb dX12_is_0 rfl (lv_at hl 0 rfl) ?_
  refine xget E hQ 0 (by decide) c29 rfl 12 (by decide) q1480 rfl dX12_is_1 ?_
  refine lv_if_ne (tgt := 28) hx hb dX12_is_4 (by decide) (fun k30 => ?_) (fun k30 => ?_)
  · have h31 := ib_ne k30
    have b32 : Bd v11 (1) (3) := rf_nlo b12 (by decide : Bd 0 (0) (0)) h31
    refine lv_iconst (v := 0) hx hb dX12_is_28 (by decide) ?_
    have q33 : fld (S 0) 12 = v11.toInt := fld_of c29 rfl
    have q34 : fld (S 0) 8 = v6.toInt := fld_of c29 rfl
    have q35 : (0 : Int32).toInt = 0 := by decide
    exact xrz E hr hlk hQ rfl (⟨rfl, (ib_wk (by decide : Bd 0 (0) (0)) (by decide) (by decide)), Or.inl (by omega)⟩) dX12_is_29
  · have h36 := ib_eq k30
    have b37 : Bd v11 (0) (0) := ⟨(b12).1, ((rf_eq b12 (by decide : Bd 0 (0) (0)) h36).1).2⟩
    refine lv_aload_n hx hb dX12_is_7 rfl (lv_at hl 0 rfl) ?_
    refine xget E hQ 0 (by decide) c29 rfl 8 (by decide) q1476 rfl dX12_is_8 ?_
    refine lv_iconst (v := 1) hx hb dX12_is_11 (by decide) ?_
    refine lv_icmp_ne (tgt := 28) hx hb dX12_is_12 (by decide) (fun k38 => ?_) (fun k38 => ?_)
    · have h39 := ib_ne k38
      refine lv_iconst (v := 0) hx hb dX12_is_28 (by decide) ?_
      have q40 : fld (S 0) 12 = v11.toInt := fld_of c29 rfl
      have q41 : fld (S 0) 8 = v6.toInt := fld_of c29 rfl
      have q42 : (0 : Int32).toInt = 0 := by decide
      exact xrz E hr hlk hQ rfl (⟨rfl, (ib_wk (by decide : Bd 0 (0) (0)) (by decide) (by decide)), Or.inl (by omega)⟩) dX12_is_29
    · have h43 := ib_eq k38
      have b44 : Bd v6 (1) (1) := ⟨((rf_eq b7 (by decide : Bd 1 (1) (1)) h43).1).1, ((rf_eq b7 (by decide : Bd 1 (1) (1)) h43).1).2⟩
      refine lv_aload_n hx hb dX12_is_15 rfl (lv_at hl 0 rfl) ?_
      refine xget E hQ 0 (by decide) c29 rfl 11 (by decide) q1479 rfl dX12_is_16 ?_
      refine lv_lload_n hx hb dX12_is_19 rfl (lv_at hl 1 rfl) ?_
      refine W.lcmp hx hb dX12_is_20 ?_
      refine lv_if_ne (tgt := 28) hx hb dX12_is_21 (by decide) (fun k45 => ?_) (fun k45 => ?_)
      · have h46 := lc_ne k45
        refine lv_iconst (v := 0) hx hb dX12_is_28 (by decide) ?_
        have q47 : fld (S 0) 12 = v11.toInt := fld_of c29 rfl
        have q48 : fld (S 0) 8 = v6.toInt := fld_of c29 rfl
        have q49 : (0 : Int32).toInt = 0 := by decide
        exact xrz E hr hlk hQ rfl (⟨rfl, (ib_wk (by decide : Bd 0 (0) (0)) (by decide) (by decide)), Or.inl (by omega)⟩) dX12_is_29
      · have h50 := lc_eq k45
        refine lv_iconst (v := 1) hx hb dX12_is_24 (by decide) ?_
        refine lv_goto (tgt := 29) hx hb dX12_is_25 (by decide) ?_
        have q51 : fld (S 0) 12 = v11.toInt := fld_of c29 rfl
        have q52 : fld (S 0) 8 = v6.toInt := fld_of c29 rfl
        have q53 : (1 : Int32).toInt = 1 := by decide
        exact xrz E hr hlk hQ rfl (⟨rfl, (ib_wk (by decide : Bd 1 (1) (1)) (by decide) (by decide)), Or.inr ⟨by omega, by omega⟩⟩) dX12_is_29
set_option maxHeartbeats 4000000 in
set_option maxRecDepth 100000 in
theorem gX12_takes_0 (l : Launch) (g : GG) (ad : Nat → Nat) (hD : Dj ad 20) (S : SS) (hI : InvM g ad S) (wa1 : Int64) (hq1 : 0 ≤ fld (S 0) 6 + (-1) * fld (S 0) 7) : Met l yX12_takes (wG (.code yX12_takes cX12_takes 3 (some .boolean))) (Rm 2) (XPre g ad 20 S [.ref (ad 0), .long wa1]) (va_Qi (fun r S' => InvM g ad S' ∧ (∀ j, j ∉ ([0] : List Nat) → S' j = S j) ∧ Bd r (0) (1) ∧ (0 ≤ fld (S' 0) 6 + (-1) * fld (S' 0) 7) ∧ (0 ≤ fld (S 0) 6 + (-1) * fld (S' 0) 6 ∧ 0 ≤ fld (S' 0) 6 + (-1) * fld (S 0) 6) ∧ (0 ≤ 4 * fld (S 0) 6 + (-4) * fld (S 0) 7 + fld (S 0) 8 + (-4) * fld (S' 0) 6 + 4 * fld (S' 0) 7 + (-1) * fld (S' 0) 8) ∧ (0 ≤ fld (S 0) 12 + (-1) * fld (S' 0) 12 ∧ 0 ≤ fld (S' 0) 12 + (-1) * fld (S 0) 12) ∧ ((r.toInt + (-1) < 0 ∨ (0 ≤ 4 * fld (S 0) 6 + (-4) * fld (S 0) 7 + fld (S 0) 8 + (-4) * fld (S' 0) 6 + 4 * fld (S' 0) 7 + (-1) * fld (S' 0) 8 + (-1))))) (QB g ad 20) (FA ad 20)) 0 0 (FA ad 20) := by
  refine xmet cX12_takes "EbbWreckModel" (by decide) rfl (Nat.le_of_ble_eq_true rfl) (fun p e s m below meth c E hr hlk hml hQ ls hl => ?_)
  have hx := E.1
  have hb := E.2.1
  have hs : Sp ad 20 (FA ad 20) := Sp.fa hD
  have hl : lv_has ls 3 [(0, .ref (ad 0)), (1, .long wa1)] := hl
  obtain ⟨v1, v2, v4, v6, v8, v9, w10, v11, v13, v14, v15, v16, v18, v20, v22, v24, v26, v27, v28, c29, b3, b5, b7, b12, b17, b19, b21, b23, b25⟩ := invM_0 hI
  have c29 : S 0 = .inr (12, [.int v1, .ref (ad 1), .ref (ad 2), .ref (ad 3), .ref (ad 4), .ref (ad 5), .int v2, .int v4, .int v6, .int v8, .int v9, .long w10, .int v11, .int v13, .int v14, .int v15, .ref (ad 6), .ref (ad 7), .ref (ad 8), .ref (ad 9), .ref (ad 10), .ref (ad 11), .ref (ad 12), .ref (ad 13), .ref (ad 14), .ref (ad 15), .int v16, .int v18, .ref (ad 16), .int v20, .int v22, .int v24, .int v26, .int v27, .ref (ad 17), .ref (ad 18), .int v28, .ref (ad 19)]) := c29
  have q30 : fld (S 0) 6 = v2.toInt := fld_of c29 rfl
  have q31 : fld (S 0) 7 = v4.toInt := fld_of c29 rfl
  refine lv_aload_n hx hb dX12_takes_0 rfl (lv_at hl 0 rfl) ?_
  refine lv_lload_n hx hb dX12_takes_1 rfl (lv_at hl 1 rfl) ?_
  refine xcVi E hs hQ hml hl.1 0 (gX12_is_0 l g ad hD S hI wa1) mX12_is q1663 (by decide) c29 rfl rfl ⟨(Nat.le_of_ble_eq_true rfl), (Nat.le_of_ble_eq_true rfl)⟩ ⟨(Nat.le_of_ble_eq_true rfl), (Nat.le_of_ble_eq_true rfl)⟩ (Nat.le_of_ble_eq_true rfl) rfl dX12_takes_2 (fun r32 S32 H locs hp32 hQ _ => ?_)
  obtain ⟨rfl, b32, g32_0⟩ := hp32
  have q33 : fld (S 0) 12 = v11.toInt := fld_of c29 rfl
  have q34 : fld (S 0) 8 = v6.toInt := fld_of c29 rfl
  refine lv_if_ne (tgt := 10) hx hb dX12_takes_5 (by decide) (fun k35 => ?_) (fun k35 => ?_)
  · have h36 := ib_ne k35
    have b37 : Bd r32 (1) (1) := rf_nlo b32 (by decide : Bd 0 (0) (0)) h36
    have g38 := g32_0.resolve_left (by omega)
    clear g32_0
    have b39 : Bd v11 (0) (0) := ⟨(b12).1, by omega⟩
    have b40 : Bd v6 (1) (4) := ⟨by omega, (b7).2⟩
    refine lv_aload_n hx hb dX12_takes_10 rfl (lv_at hl 0 rfl) ?_
    refine xcVv E hs hQ hml hl.1 0 (gX12_next_0 l g ad hD S hI (by omega)) mX12_next q1637 (by decide) c29 rfl rfl ⟨(Nat.le_of_ble_eq_true rfl), (Nat.le_of_ble_eq_true rfl)⟩ ⟨(Nat.le_of_ble_eq_true rfl), (Nat.le_of_ble_eq_true rfl)⟩ (Nat.le_of_ble_eq_true rfl) rfl dX12_takes_11 (fun S41 H locs hp41 hQ _ => ?_)
    obtain ⟨hI, o41, g41_0, g41_1, g41_2, g41_3, g41_4⟩ := hp41
    obtain ⟨v42, v43, v45, v47, v49, v50, w51, v52, v54, v55, v56, v57, v59, v61, v63, v65, v67, v68, v69, c70, b44, b46, b48, b53, b58, b60, b62, b64, b66⟩ := invM_0 hI
    have c70 : S41 0 = .inr (12, [.int v42, .ref (ad 1), .ref (ad 2), .ref (ad 3), .ref (ad 4), .ref (ad 5), .int v43, .int v45, .int v47, .int v49, .int v50, .long w51, .int v52, .int v54, .int v55, .int v56, .ref (ad 6), .ref (ad 7), .ref (ad 8), .ref (ad 9), .ref (ad 10), .ref (ad 11), .ref (ad 12), .ref (ad 13), .ref (ad 14), .ref (ad 15), .int v57, .int v59, .ref (ad 16), .int v61, .int v63, .int v65, .int v67, .int v68, .ref (ad 17), .ref (ad 18), .int v69, .ref (ad 19)]) := c70
    have q71 : fld (S41 0) 6 = v43.toInt := fld_of c70 rfl
    have q72 : fld (S41 0) 7 = v45.toInt := fld_of c70 rfl
    have q73 : fld (S41 0) 12 = v52.toInt := fld_of c70 rfl
    have b74 : Bd v52 (0) (0) := ⟨(b53).1, by omega⟩
    have q75 : fld (S41 0) 8 = v47.toInt := fld_of c70 rfl
    refine lv_iconst (v := 1) hx hb dX12_takes_14 (by decide) ?_
    have q76 : (1 : Int32).toInt = 1 := by decide
    exact xrz E hr hlk hQ rfl (⟨hI, (o_trans o_refl o41 (by decide)), (ib_wk (by decide : Bd 1 (1) (1)) (by decide) (by decide)), (by omega), ⟨by omega, by omega⟩, (by omega), ⟨by omega, by omega⟩, Or.inr (by omega)⟩) dX12_takes_15
  · have h77 := ib_eq k35
    have b78 : Bd r32 (0) (0) := ⟨(b32).1, ((rf_eq b32 (by decide : Bd 0 (0) (0)) h77).1).2⟩
    clear g32_0
    refine lv_iconst (v := 0) hx hb dX12_takes_8 (by decide) ?_
    have q79 : (0 : Int32).toInt = 0 := by decide
    exact xrz E hr hlk hQ rfl (⟨hI, o_refl, (ib_wk (by decide : Bd 0 (0) (0)) (by decide) (by decide)), (by omega), ⟨by omega, by omega⟩, (by omega), ⟨by omega, by omega⟩, Or.inl (by omega)⟩) dX12_takes_9
set_option maxHeartbeats 4000000 in
set_option maxRecDepth 100000 in
theorem gX12_asks_0 (l : Launch) (g : GG) (ad : Nat → Nat) (hD : Dj ad 20) (S : SS) (hI : InvM g ad S) (wa1 : Int64) (hq1 : 0 ≤ fld (S 0) 6 + (-1) * fld (S 0) 7) : Met l yX12_asks (wG (.code yX12_asks cX12_asks 3 none)) (Rm 3) (XPre g ad 20 S [.ref (ad 0), .long wa1]) (va_Qv (fun S' => InvM g ad S' ∧ (∀ j, j ∉ ([0] : List Nat) → S' j = S j) ∧ (0 ≤ fld (S' 0) 6 + (-1) * fld (S' 0) 7) ∧ (0 ≤ fld (S 0) 6 + (-1) * fld (S' 0) 6 ∧ 0 ≤ fld (S' 0) 6 + (-1) * fld (S 0) 6) ∧ (0 ≤ 4 * fld (S 0) 6 + (-4) * fld (S 0) 7 + fld (S 0) 8 + (-4) * fld (S' 0) 6 + 4 * fld (S' 0) 7 + (-1) * fld (S' 0) 8)) (QB g ad 20) (FA ad 20)) 0 0 (FA ad 20) := by
  refine xmet cX12_asks "EbbWreckModel" (by decide) rfl (Nat.le_of_ble_eq_true rfl) (fun p e s m below meth c E hr hlk hml hQ ls hl => ?_)
  have hx := E.1
  have hb := E.2.1
  have hs : Sp ad 20 (FA ad 20) := Sp.fa hD
  have hl : lv_has ls 3 [(0, .ref (ad 0)), (1, .long wa1)] := hl
  obtain ⟨v1, v2, v4, v6, v8, v9, w10, v11, v13, v14, v15, v16, v18, v20, v22, v24, v26, v27, v28, c29, b3, b5, b7, b12, b17, b19, b21, b23, b25⟩ := invM_0 hI
  have c29 : S 0 = .inr (12, [.int v1, .ref (ad 1), .ref (ad 2), .ref (ad 3), .ref (ad 4), .ref (ad 5), .int v2, .int v4, .int v6, .int v8, .int v9, .long w10, .int v11, .int v13, .int v14, .int v15, .ref (ad 6), .ref (ad 7), .ref (ad 8), .ref (ad 9), .ref (ad 10), .ref (ad 11), .ref (ad 12), .ref (ad 13), .ref (ad 14), .ref (ad 15), .int v16, .int v18, .ref (ad 16), .int v20, .int v22, .int v24, .int v26, .int v27, .ref (ad 17), .ref (ad 18), .int v28, .ref (ad 19)]) := c29
  have q30 : fld (S 0) 6 = v2.toInt := fld_of c29 rfl
  have q31 : fld (S 0) 7 = v4.toInt := fld_of c29 rfl
  refine lv_aload_n hx hb dX12_asks_0 rfl (lv_at hl 0 rfl) ?_
  refine lv_lload_n hx hb dX12_asks_1 rfl (lv_at hl 1 rfl) ?_
  refine xcVi E hs hQ hml hl.1 0 (gX12_takes_0 l g ad hD S hI wa1 (by omega)) mX12_takes q1659 (by decide) c29 rfl rfl ⟨(Nat.le_of_ble_eq_true rfl), (Nat.le_of_ble_eq_true rfl)⟩ ⟨(Nat.le_of_ble_eq_true rfl), (Nat.le_of_ble_eq_true rfl)⟩ (Nat.le_of_ble_eq_true rfl) rfl dX12_asks_2 (fun r32 S32 H locs hp32 hQ _ => ?_)
  obtain ⟨hI, o32, b32, g32_0, g32_1, g32_2, g32_3, g32_4⟩ := hp32
  obtain ⟨v33, v34, v36, v38, v40, v41, w42, v43, v45, v46, v47, v48, v50, v52, v54, v56, v58, v59, v60, c61, b35, b37, b39, b44, b49, b51, b53, b55, b57⟩ := invM_0 hI
  have c61 : S32 0 = .inr (12, [.int v33, .ref (ad 1), .ref (ad 2), .ref (ad 3), .ref (ad 4), .ref (ad 5), .int v34, .int v36, .int v38, .int v40, .int v41, .long w42, .int v43, .int v45, .int v46, .int v47, .ref (ad 6), .ref (ad 7), .ref (ad 8), .ref (ad 9), .ref (ad 10), .ref (ad 11), .ref (ad 12), .ref (ad 13), .ref (ad 14), .ref (ad 15), .int v48, .int v50, .ref (ad 16), .int v52, .int v54, .int v56, .int v58, .int v59, .ref (ad 17), .ref (ad 18), .int v60, .ref (ad 19)]) := c61
  have q62 : fld (S32 0) 6 = v34.toInt := fld_of c61 rfl
  have q63 : fld (S32 0) 7 = v36.toInt := fld_of c61 rfl
  have q64 : fld (S 0) 8 = v6.toInt := fld_of c29 rfl
  have q65 : fld (S32 0) 8 = v38.toInt := fld_of c61 rfl
  have q66 : fld (S 0) 12 = v11.toInt := fld_of c29 rfl
  have q67 : fld (S32 0) 12 = v43.toInt := fld_of c61 rfl
  refine lv_if_ne (tgt := 13) hx hb dX12_asks_5 (by decide) (fun k68 => ?_) (fun k68 => ?_)
  · have h69 := ib_ne k68
    have b70 : Bd r32 (1) (1) := rf_nlo b32 (by decide : Bd 0 (0) (0)) h69
    have g71 := g32_4.resolve_left (by omega)
    clear g32_4
    exact xrv E hr hlk hQ (⟨hI, (o_trans o_refl o32 (by decide)), (by omega), ⟨by omega, by omega⟩, (by omega)⟩) dX12_asks_13
  · have h72 := ib_eq k68
    have b73 : Bd r32 (0) (0) := ⟨(b32).1, ((rf_eq b32 (by decide : Bd 0 (0) (0)) h72).1).2⟩
    clear g32_4
    refine lv_aload_n hx hb dX12_asks_8 rfl (lv_at hl 0 rfl) ?_
    refine lv_iconst (v := 1) hx hb dX12_asks_9 (by decide) ?_
    refine xcVv E hs hQ hml hl.1 0 (gX12_fails_0 l g ad hD S32 hI 1 (ib_wk (by decide : Bd 1 (1) (1)) (by decide) (by decide))) mX12_fails q1667 (by decide) c61 rfl rfl ⟨(Nat.le_of_ble_eq_true rfl), (Nat.le_of_ble_eq_true rfl)⟩ ⟨(Nat.le_of_ble_eq_true rfl), (Nat.le_of_ble_eq_true rfl)⟩ (Nat.le_of_ble_eq_true rfl) rfl dX12_asks_10 (fun S74 H locs hp74 hQ _ => ?_)
    obtain ⟨hI, o74, g74_0, g74_1, g74_2, g74_3⟩ := hp74
    obtain ⟨v75, v76, v78, v80, v82, v83, w84, v85, v87, v88, v89, v90, v92, v94, v96, v98, v100, v101, v102, c103, b77, b79, b81, b86, b91, b93, b95, b97, b99⟩ := invM_0 hI
    have c103 : S74 0 = .inr (12, [.int v75, .ref (ad 1), .ref (ad 2), .ref (ad 3), .ref (ad 4), .ref (ad 5), .int v76, .int v78, .int v80, .int v82, .int v83, .long w84, .int v85, .int v87, .int v88, .int v89, .ref (ad 6), .ref (ad 7), .ref (ad 8), .ref (ad 9), .ref (ad 10), .ref (ad 11), .ref (ad 12), .ref (ad 13), .ref (ad 14), .ref (ad 15), .int v90, .int v92, .ref (ad 16), .int v94, .int v96, .int v98, .int v100, .int v101, .ref (ad 17), .ref (ad 18), .int v102, .ref (ad 19)]) := c103
    have q104 : fld (S74 0) 12 = v85.toInt := fld_of c103 rfl
    have b105 : Bd v85 (1) (3) := ⟨by omega, (b86).2⟩
    have q106 : fld (S74 0) 6 = v76.toInt := fld_of c103 rfl
    have q107 : fld (S74 0) 7 = v78.toInt := fld_of c103 rfl
    have q108 : fld (S74 0) 8 = v80.toInt := fld_of c103 rfl
    exact xrv E hr hlk hQ (⟨hI, (o_trans (o_trans o_refl o32 (by decide)) o74 (by decide)), (by omega), ⟨by omega, by omega⟩, (by omega)⟩) dX12_asks_13
set_option maxHeartbeats 4000000 in
set_option maxRecDepth 100000 in
theorem gX12_number_0 (l : Launch) (g : GG) (ad : Nat → Nat) (hD : Dj ad 20) (S : SS) (hI : InvM g ad S) (a1 : Int32) (a2 : Int32) (ba1 : Bd a1 (3) (3)) (ba2 : Bd a2 (12) (12)) (hq1 : 0 ≤ fld (S 0) 6 + (-1) * fld (S 0) 7) : Met l yX12_number (wG (.code yX12_number cX12_number 4 (some .int))) (Rm 2) (XPre g ad 20 S [.ref (ad 0), .int a1, .int a2]) (va_Qi (fun r S' => InvM g ad S' ∧ (∀ j, j ∉ ([0] : List Nat) → S' j = S j) ∧ Bd r (3) (12) ∧ (0 ≤ fld (S' 0) 6 + (-1) * fld (S' 0) 7) ∧ (0 ≤ fld (S 0) 6 + (-1) * fld (S' 0) 6 ∧ 0 ≤ fld (S' 0) 6 + (-1) * fld (S 0) 6) ∧ (0 ≤ 4 * fld (S 0) 6 + (-4) * fld (S 0) 7 + fld (S 0) 8 + (-4) * fld (S' 0) 6 + 4 * fld (S' 0) 7 + (-1) * fld (S' 0) 8)) (QB g ad 20) (FA ad 20)) 0 0 (FA ad 20) := by
  refine xmet cX12_number "EbbWreckModel" (by decide) rfl (Nat.le_of_ble_eq_true rfl) (fun p e s m below meth c E hr hlk hml hQ ls hl => ?_)
  have hx := E.1
  have hb := E.2.1
  have hs : Sp ad 20 (FA ad 20) := Sp.fa hD
  have hl : lv_has ls 4 [(0, .ref (ad 0)), (1, .int a1), (2, .int a2)] := hl
  obtain ⟨v1, v2, v4, v6, v8, v9, w10, v11, v13, v14, v15, v16, v18, v20, v22, v24, v26, v27, v28, c29, b3, b5, b7, b12, b17, b19, b21, b23, b25⟩ := invM_0 hI
  have c29 : S 0 = .inr (12, [.int v1, .ref (ad 1), .ref (ad 2), .ref (ad 3), .ref (ad 4), .ref (ad 5), .int v2, .int v4, .int v6, .int v8, .int v9, .long w10, .int v11, .int v13, .int v14, .int v15, .ref (ad 6), .ref (ad 7), .ref (ad 8), .ref (ad 9), .ref (ad 10), .ref (ad 11), .ref (ad 12), .ref (ad 13), .ref (ad 14), .ref (ad 15), .int v16, .int v18, .ref (ad 16), .int v20, .int v22, .int v24, .int v26, .int v27, .ref (ad 17), .ref (ad 18), .int v28, .ref (ad 19)]) := c29
  have q30 : fld (S 0) 6 = v2.toInt := fld_of c29 rfl
  have q31 : fld (S 0) 7 = v4.toInt := fld_of c29 rfl
  refine lv_aload_n hx hb dX12_number_0 rfl (lv_at hl 0 rfl) ?_
  refine xget E hQ 0 (by decide) c29 rfl 12 (by decide) q1480 rfl dX12_number_1 ?_
  refine lv_if_eq (tgt := 9) hx hb dX12_number_4 (by decide) (fun k32 => ?_) (fun k32 => ?_)
  · have h33 := ib_eq k32
    have b34 : Bd v11 (0) (0) := ⟨(b12).1, ((rf_eq b12 (by decide : Bd 0 (0) (0)) h33).1).2⟩
    refine lv_aload_n hx hb dX12_number_9 rfl (lv_at hl 0 rfl) ?_
    refine xget E hQ 0 (by decide) c29 rfl 8 (by decide) q1476 rfl dX12_number_10 ?_
    refine lv_iconst (v := 2) hx hb dX12_number_13 (by decide) ?_
    refine lv_icmp_eq (tgt := 24) hx hb dX12_number_14 (by decide) (fun k35 => ?_) (fun k35 => ?_)
    · have h36 := ib_eq k35
      have b37 : Bd v6 (2) (2) := ⟨((rf_eq b7 (by decide : Bd 2 (2) (2)) h36).1).1, ((rf_eq b7 (by decide : Bd 2 (2) (2)) h36).1).2⟩
      refine lv_aload_n hx hb dX12_number_24 rfl (lv_at hl 0 rfl) ?_
      refine xget E hQ 0 (by decide) c29 rfl 10 (by decide) q1478 rfl dX12_number_25 ?_
      refine lv_i2l hx hb dX12_number_28 rfl ?_
      refine lv_topl (fun w38 e39 => ?_)
      have t40 : w38.toInt = v9.toInt := by rw [e39]; exact i2l_i _
      have b41 : BdL w38 (-2147483648) (2147483647) := (by have h1 := ((ib_full v9)).1; have h2 := ((ib_full v9)).2; exact ⟨by omega, by omega⟩)
      refine lv_iload_n hx hb dX12_number_29 rfl (lv_at hl 1 rfl) ?_
      refine lv_i2l hx hb dX12_number_30 rfl ?_
      refine lv_topl (fun w42 e43 => ?_)
      have t44 : w42.toInt = a1.toInt := by rw [e43]; exact i2l_i _
      have b45 : BdL w42 (3) (3) := (by have h1 := (ba1).1; have h2 := (ba1).2; exact ⟨by omega, by omega⟩)
      refine lv_iload_n hx hb dX12_number_31 rfl (lv_at hl 2 rfl) ?_
      refine lv_i2l hx hb dX12_number_32 rfl ?_
      refine lv_topl (fun w46 e47 => ?_)
      have t48 : w46.toInt = a2.toInt := by rw [e47]; exact i2l_i _
      have b49 : BdL w46 (12) (12) := (by have h1 := (ba2).1; have h2 := (ba2).2; exact ⟨by omega, by omega⟩)
      refine xcSi E hs hQ hml hl.1 (gX12_in l g ad hD S hI w38 w42 w46) mX12_in q1591 rfl ⟨(Nat.le_of_ble_eq_true rfl), (Nat.le_of_ble_eq_true rfl)⟩ ⟨(Nat.le_of_ble_eq_true rfl), (Nat.le_of_ble_eq_true rfl)⟩ (Nat.le_of_ble_eq_true rfl) rfl dX12_number_33 (fun r50 S50 H locs hp50 hQ => ?_)
      obtain ⟨rfl, b50, g50_0, u50_0⟩ := hp50
      refine lv_if_ne (tgt := 46) hx hb dX12_number_36 (by decide) (fun k51 => ?_) (fun k51 => ?_)
      · have h52 := ib_ne k51
        have b53 : Bd r50 (1) (1) := rf_nlo b50 (by decide : Bd 0 (0) (0)) h52
        have g54 := g50_0.resolve_left (by omega)
        clear g50_0
        have b55 : BdL w38 (3) (12) := ⟨by omega, by omega⟩
        have b56 : Bd v9 (3) (12) := ⟨by omega, by omega⟩
        refine lv_aload_n hx hb dX12_number_46 rfl (lv_at hl 0 rfl) ?_
        refine xget E hQ 0 (by decide) c29 rfl 10 (by decide) q1478 rfl dX12_number_47 ?_
        refine lv_istore_n (lv' := [(3, .int v9), (0, .ref (ad 0)), (1, .int a1), (2, .int a2)]) hx hb dX12_number_50 rfl hl (by decide) rfl (fun ls hl => ?_)
        refine lv_aload_n hx hb dX12_number_51 rfl (lv_at hl 1 rfl) ?_
        refine xcVv E hs hQ hml hl.1 0 (gX12_next_0 l g ad hD S hI (by omega)) mX12_next q1637 (by decide) c29 rfl rfl ⟨(Nat.le_of_ble_eq_true rfl), (Nat.le_of_ble_eq_true rfl)⟩ ⟨(Nat.le_of_ble_eq_true rfl), (Nat.le_of_ble_eq_true rfl)⟩ (Nat.le_of_ble_eq_true rfl) rfl dX12_number_52 (fun S57 H locs hp57 hQ _ => ?_)
        obtain ⟨hI, o57, g57_0, g57_1, g57_2, g57_3, g57_4⟩ := hp57
        obtain ⟨v58, v59, v61, v63, v65, v66, w67, v68, v70, v71, v72, v73, v75, v77, v79, v81, v83, v84, v85, c86, b60, b62, b64, b69, b74, b76, b78, b80, b82⟩ := invM_0 hI
        have c86 : S57 0 = .inr (12, [.int v58, .ref (ad 1), .ref (ad 2), .ref (ad 3), .ref (ad 4), .ref (ad 5), .int v59, .int v61, .int v63, .int v65, .int v66, .long w67, .int v68, .int v70, .int v71, .int v72, .ref (ad 6), .ref (ad 7), .ref (ad 8), .ref (ad 9), .ref (ad 10), .ref (ad 11), .ref (ad 12), .ref (ad 13), .ref (ad 14), .ref (ad 15), .int v73, .int v75, .ref (ad 16), .int v77, .int v79, .int v81, .int v83, .int v84, .ref (ad 17), .ref (ad 18), .int v85, .ref (ad 19)]) := c86
        have q87 : fld (S57 0) 6 = v59.toInt := fld_of c86 rfl
        have q88 : fld (S57 0) 7 = v61.toInt := fld_of c86 rfl
        have q89 : fld (S 0) 12 = v11.toInt := fld_of c29 rfl
        have q90 : fld (S57 0) 12 = v68.toInt := fld_of c86 rfl
        have b91 : Bd v68 (0) (0) := ⟨(b69).1, by omega⟩
        have q92 : fld (S57 0) 8 = v63.toInt := fld_of c86 rfl
        refine lv_iload_n hx hb dX12_number_55 rfl (lv_at hl 0 rfl) ?_
        have q93 : fld (S 0) 8 = v6.toInt := fld_of c29 rfl
        exact xri E hr hlk hQ (⟨hI, (o_trans o_refl o57 (by decide)), b56, (by omega), ⟨by omega, by omega⟩, (by omega)⟩) dX12_number_56
      · have h94 := ib_eq k51
        have b95 : Bd r50 (0) (0) := ⟨(b50).1, ((rf_eq b50 (by decide : Bd 0 (0) (0)) h94).1).2⟩
        clear g50_0
        refine lv_aload_n hx hb dX12_number_39 rfl (lv_at hl 0 rfl) ?_
        refine lv_iconst (v := 2) hx hb dX12_number_40 (by decide) ?_
        refine xcVv E hs hQ hml hl.1 0 (gX12_fails_0 l g ad hD S hI 2 (ib_wk (by decide : Bd 2 (2) (2)) (by decide) (by decide))) mX12_fails q1667 (by decide) c29 rfl rfl ⟨(Nat.le_of_ble_eq_true rfl), (Nat.le_of_ble_eq_true rfl)⟩ ⟨(Nat.le_of_ble_eq_true rfl), (Nat.le_of_ble_eq_true rfl)⟩ (Nat.le_of_ble_eq_true rfl) rfl dX12_number_41 (fun S96 H locs hp96 hQ _ => ?_)
        obtain ⟨hI, o96, g96_0, g96_1, g96_2, g96_3⟩ := hp96
        obtain ⟨v97, v98, v100, v102, v104, v105, w106, v107, v109, v110, v111, v112, v114, v116, v118, v120, v122, v123, v124, c125, b99, b101, b103, b108, b113, b115, b117, b119, b121⟩ := invM_0 hI
        have c125 : S96 0 = .inr (12, [.int v97, .ref (ad 1), .ref (ad 2), .ref (ad 3), .ref (ad 4), .ref (ad 5), .int v98, .int v100, .int v102, .int v104, .int v105, .long w106, .int v107, .int v109, .int v110, .int v111, .ref (ad 6), .ref (ad 7), .ref (ad 8), .ref (ad 9), .ref (ad 10), .ref (ad 11), .ref (ad 12), .ref (ad 13), .ref (ad 14), .ref (ad 15), .int v112, .int v114, .ref (ad 16), .int v116, .int v118, .int v120, .int v122, .int v123, .ref (ad 17), .ref (ad 18), .int v124, .ref (ad 19)]) := c125
        have q126 : fld (S96 0) 12 = v107.toInt := fld_of c125 rfl
        have b127 : Bd v107 (1) (3) := ⟨by omega, (b108).2⟩
        have q128 : fld (S96 0) 6 = v98.toInt := fld_of c125 rfl
        have q129 : fld (S96 0) 7 = v100.toInt := fld_of c125 rfl
        have q130 : fld (S 0) 8 = v6.toInt := fld_of c29 rfl
        have q131 : fld (S96 0) 8 = v102.toInt := fld_of c125 rfl
        have b132 : Bd v102 (2) (2) := ⟨by omega, by omega⟩
        refine lv_iload_n hx hb dX12_number_44 rfl (lv_at hl 1 rfl) ?_
        exact xri E hr hlk hQ (⟨hI, (o_trans o_refl o96 (by decide)), (ib_wk ba1 (by decide) (by decide)), (by omega), ⟨by omega, by omega⟩, (by omega)⟩) dX12_number_45
    · have h133 := ib_ne k35
      refine lv_aload_n hx hb dX12_number_17 rfl (lv_at hl 0 rfl) ?_
      refine lv_iconst (v := 1) hx hb dX12_number_18 (by decide) ?_
      refine xcVv E hs hQ hml hl.1 0 (gX12_fails_0 l g ad hD S hI 1 (ib_wk (by decide : Bd 1 (1) (1)) (by decide) (by decide))) mX12_fails q1667 (by decide) c29 rfl rfl ⟨(Nat.le_of_ble_eq_true rfl), (Nat.le_of_ble_eq_true rfl)⟩ ⟨(Nat.le_of_ble_eq_true rfl), (Nat.le_of_ble_eq_true rfl)⟩ (Nat.le_of_ble_eq_true rfl) rfl dX12_number_19 (fun S134 H locs hp134 hQ _ => ?_)
      obtain ⟨hI, o134, g134_0, g134_1, g134_2, g134_3⟩ := hp134
      obtain ⟨v135, v136, v138, v140, v142, v143, w144, v145, v147, v148, v149, v150, v152, v154, v156, v158, v160, v161, v162, c163, b137, b139, b141, b146, b151, b153, b155, b157, b159⟩ := invM_0 hI
      have c163 : S134 0 = .inr (12, [.int v135, .ref (ad 1), .ref (ad 2), .ref (ad 3), .ref (ad 4), .ref (ad 5), .int v136, .int v138, .int v140, .int v142, .int v143, .long w144, .int v145, .int v147, .int v148, .int v149, .ref (ad 6), .ref (ad 7), .ref (ad 8), .ref (ad 9), .ref (ad 10), .ref (ad 11), .ref (ad 12), .ref (ad 13), .ref (ad 14), .ref (ad 15), .int v150, .int v152, .ref (ad 16), .int v154, .int v156, .int v158, .int v160, .int v161, .ref (ad 17), .ref (ad 18), .int v162, .ref (ad 19)]) := c163
      have q164 : fld (S134 0) 12 = v145.toInt := fld_of c163 rfl
      have b165 : Bd v145 (1) (3) := ⟨by omega, (b146).2⟩
      have q166 : fld (S134 0) 6 = v136.toInt := fld_of c163 rfl
      have q167 : fld (S134 0) 7 = v138.toInt := fld_of c163 rfl
      have q168 : fld (S 0) 8 = v6.toInt := fld_of c29 rfl
      have q169 : fld (S134 0) 8 = v140.toInt := fld_of c163 rfl
      refine lv_iload_n hx hb dX12_number_22 rfl (lv_at hl 1 rfl) ?_
      exact xri E hr hlk hQ (⟨hI, (o_trans o_refl o134 (by decide)), (ib_wk ba1 (by decide) (by decide)), (by omega), ⟨by omega, by omega⟩, (by omega)⟩) dX12_number_23
  · have h170 := ib_ne k32
    have b171 : Bd v11 (1) (3) := rf_nlo b12 (by decide : Bd 0 (0) (0)) h170
    refine lv_iload_n hx hb dX12_number_7 rfl (lv_at hl 1 rfl) ?_
    have q172 : fld (S 0) 8 = v6.toInt := fld_of c29 rfl
    exact xri E hr hlk hQ (⟨hI, o_refl, (ib_wk ba1 (by decide) (by decide)), (by omega), ⟨by omega, by omega⟩, (by omega)⟩) dX12_number_8
set_option maxHeartbeats 4000000 in
set_option maxRecDepth 100000 in
theorem gX12_number_1 (l : Launch) (g : GG) (ad : Nat → Nat) (hD : Dj ad 20) (S : SS) (hI : InvM g ad S) (a1 : Int32) (a2 : Int32) (ba1 : Bd a1 (1) (1)) (ba2 : Bd a2 (12) (12)) (hq1 : 0 ≤ fld (S 0) 6 + (-1) * fld (S 0) 7) : Met l yX12_number (wG (.code yX12_number cX12_number 4 (some .int))) (Rm 2) (XPre g ad 20 S [.ref (ad 0), .int a1, .int a2]) (va_Qi (fun r S' => InvM g ad S' ∧ (∀ j, j ∉ ([0] : List Nat) → S' j = S j) ∧ Bd r (1) (12) ∧ (0 ≤ fld (S' 0) 6 + (-1) * fld (S' 0) 7) ∧ (0 ≤ fld (S 0) 6 + (-1) * fld (S' 0) 6 ∧ 0 ≤ fld (S' 0) 6 + (-1) * fld (S 0) 6) ∧ (0 ≤ 4 * fld (S 0) 6 + (-4) * fld (S 0) 7 + fld (S 0) 8 + (-4) * fld (S' 0) 6 + 4 * fld (S' 0) 7 + (-1) * fld (S' 0) 8)) (QB g ad 20) (FA ad 20)) 0 0 (FA ad 20) := by
  refine xmet cX12_number "EbbWreckModel" (by decide) rfl (Nat.le_of_ble_eq_true rfl) (fun p e s m below meth c E hr hlk hml hQ ls hl => ?_)
  have hx := E.1
  have hb := E.2.1
  have hs : Sp ad 20 (FA ad 20) := Sp.fa hD
  have hl : lv_has ls 4 [(0, .ref (ad 0)), (1, .int a1), (2, .int a2)] := hl
  obtain ⟨v1, v2, v4, v6, v8, v9, w10, v11, v13, v14, v15, v16, v18, v20, v22, v24, v26, v27, v28, c29, b3, b5, b7, b12, b17, b19, b21, b23, b25⟩ := invM_0 hI
  have c29 : S 0 = .inr (12, [.int v1, .ref (ad 1), .ref (ad 2), .ref (ad 3), .ref (ad 4), .ref (ad 5), .int v2, .int v4, .int v6, .int v8, .int v9, .long w10, .int v11, .int v13, .int v14, .int v15, .ref (ad 6), .ref (ad 7), .ref (ad 8), .ref (ad 9), .ref (ad 10), .ref (ad 11), .ref (ad 12), .ref (ad 13), .ref (ad 14), .ref (ad 15), .int v16, .int v18, .ref (ad 16), .int v20, .int v22, .int v24, .int v26, .int v27, .ref (ad 17), .ref (ad 18), .int v28, .ref (ad 19)]) := c29
  have q30 : fld (S 0) 6 = v2.toInt := fld_of c29 rfl
  have q31 : fld (S 0) 7 = v4.toInt := fld_of c29 rfl
  refine lv_aload_n hx hb dX12_number_0 rfl (lv_at hl 0 rfl) ?_
  refine xget E hQ 0 (by decide) c29 rfl 12 (by decide) q1480 rfl dX12_number_1 ?_
  refine lv_if_eq (tgt := 9) hx hb dX12_number_4 (by decide) (fun k32 => ?_) (fun k32 => ?_)
  · have h33 := ib_eq k32
    have b34 : Bd v11 (0) (0) := ⟨(b12).1, ((rf_eq b12 (by decide : Bd 0 (0) (0)) h33).1).2⟩
    refine lv_aload_n hx hb dX12_number_9 rfl (lv_at hl 0 rfl) ?_
    refine xget E hQ 0 (by decide) c29 rfl 8 (by decide) q1476 rfl dX12_number_10 ?_
    refine lv_iconst (v := 2) hx hb dX12_number_13 (by decide) ?_
    refine lv_icmp_eq (tgt := 24) hx hb dX12_number_14 (by decide) (fun k35 => ?_) (fun k35 => ?_)
    · have h36 := ib_eq k35
      have b37 : Bd v6 (2) (2) := ⟨((rf_eq b7 (by decide : Bd 2 (2) (2)) h36).1).1, ((rf_eq b7 (by decide : Bd 2 (2) (2)) h36).1).2⟩
      refine lv_aload_n hx hb dX12_number_24 rfl (lv_at hl 0 rfl) ?_
      refine xget E hQ 0 (by decide) c29 rfl 10 (by decide) q1478 rfl dX12_number_25 ?_
      refine lv_i2l hx hb dX12_number_28 rfl ?_
      refine lv_topl (fun w38 e39 => ?_)
      have t40 : w38.toInt = v9.toInt := by rw [e39]; exact i2l_i _
      have b41 : BdL w38 (-2147483648) (2147483647) := (by have h1 := ((ib_full v9)).1; have h2 := ((ib_full v9)).2; exact ⟨by omega, by omega⟩)
      refine lv_iload_n hx hb dX12_number_29 rfl (lv_at hl 1 rfl) ?_
      refine lv_i2l hx hb dX12_number_30 rfl ?_
      refine lv_topl (fun w42 e43 => ?_)
      have t44 : w42.toInt = a1.toInt := by rw [e43]; exact i2l_i _
      have b45 : BdL w42 (1) (1) := (by have h1 := (ba1).1; have h2 := (ba1).2; exact ⟨by omega, by omega⟩)
      refine lv_iload_n hx hb dX12_number_31 rfl (lv_at hl 2 rfl) ?_
      refine lv_i2l hx hb dX12_number_32 rfl ?_
      refine lv_topl (fun w46 e47 => ?_)
      have t48 : w46.toInt = a2.toInt := by rw [e47]; exact i2l_i _
      have b49 : BdL w46 (12) (12) := (by have h1 := (ba2).1; have h2 := (ba2).2; exact ⟨by omega, by omega⟩)
      refine xcSi E hs hQ hml hl.1 (gX12_in l g ad hD S hI w38 w42 w46) mX12_in q1591 rfl ⟨(Nat.le_of_ble_eq_true rfl), (Nat.le_of_ble_eq_true rfl)⟩ ⟨(Nat.le_of_ble_eq_true rfl), (Nat.le_of_ble_eq_true rfl)⟩ (Nat.le_of_ble_eq_true rfl) rfl dX12_number_33 (fun r50 S50 H locs hp50 hQ => ?_)
      obtain ⟨rfl, b50, g50_0, u50_0⟩ := hp50
      refine lv_if_ne (tgt := 46) hx hb dX12_number_36 (by decide) (fun k51 => ?_) (fun k51 => ?_)
      · have h52 := ib_ne k51
        have b53 : Bd r50 (1) (1) := rf_nlo b50 (by decide : Bd 0 (0) (0)) h52
        have g54 := g50_0.resolve_left (by omega)
        clear g50_0
        have b55 : BdL w38 (1) (12) := ⟨by omega, by omega⟩
        have b56 : Bd v9 (1) (12) := ⟨by omega, by omega⟩
        refine lv_aload_n hx hb dX12_number_46 rfl (lv_at hl 0 rfl) ?_
        refine xget E hQ 0 (by decide) c29 rfl 10 (by decide) q1478 rfl dX12_number_47 ?_
        refine lv_istore_n (lv' := [(3, .int v9), (0, .ref (ad 0)), (1, .int a1), (2, .int a2)]) hx hb dX12_number_50 rfl hl (by decide) rfl (fun ls hl => ?_)
        refine lv_aload_n hx hb dX12_number_51 rfl (lv_at hl 1 rfl) ?_
        refine xcVv E hs hQ hml hl.1 0 (gX12_next_0 l g ad hD S hI (by omega)) mX12_next q1637 (by decide) c29 rfl rfl ⟨(Nat.le_of_ble_eq_true rfl), (Nat.le_of_ble_eq_true rfl)⟩ ⟨(Nat.le_of_ble_eq_true rfl), (Nat.le_of_ble_eq_true rfl)⟩ (Nat.le_of_ble_eq_true rfl) rfl dX12_number_52 (fun S57 H locs hp57 hQ _ => ?_)
        obtain ⟨hI, o57, g57_0, g57_1, g57_2, g57_3, g57_4⟩ := hp57
        obtain ⟨v58, v59, v61, v63, v65, v66, w67, v68, v70, v71, v72, v73, v75, v77, v79, v81, v83, v84, v85, c86, b60, b62, b64, b69, b74, b76, b78, b80, b82⟩ := invM_0 hI
        have c86 : S57 0 = .inr (12, [.int v58, .ref (ad 1), .ref (ad 2), .ref (ad 3), .ref (ad 4), .ref (ad 5), .int v59, .int v61, .int v63, .int v65, .int v66, .long w67, .int v68, .int v70, .int v71, .int v72, .ref (ad 6), .ref (ad 7), .ref (ad 8), .ref (ad 9), .ref (ad 10), .ref (ad 11), .ref (ad 12), .ref (ad 13), .ref (ad 14), .ref (ad 15), .int v73, .int v75, .ref (ad 16), .int v77, .int v79, .int v81, .int v83, .int v84, .ref (ad 17), .ref (ad 18), .int v85, .ref (ad 19)]) := c86
        have q87 : fld (S57 0) 6 = v59.toInt := fld_of c86 rfl
        have q88 : fld (S57 0) 7 = v61.toInt := fld_of c86 rfl
        have q89 : fld (S 0) 12 = v11.toInt := fld_of c29 rfl
        have q90 : fld (S57 0) 12 = v68.toInt := fld_of c86 rfl
        have b91 : Bd v68 (0) (0) := ⟨(b69).1, by omega⟩
        have q92 : fld (S57 0) 8 = v63.toInt := fld_of c86 rfl
        refine lv_iload_n hx hb dX12_number_55 rfl (lv_at hl 0 rfl) ?_
        have q93 : fld (S 0) 8 = v6.toInt := fld_of c29 rfl
        exact xri E hr hlk hQ (⟨hI, (o_trans o_refl o57 (by decide)), b56, (by omega), ⟨by omega, by omega⟩, (by omega)⟩) dX12_number_56
      · have h94 := ib_eq k51
        have b95 : Bd r50 (0) (0) := ⟨(b50).1, ((rf_eq b50 (by decide : Bd 0 (0) (0)) h94).1).2⟩
        clear g50_0
        refine lv_aload_n hx hb dX12_number_39 rfl (lv_at hl 0 rfl) ?_
        refine lv_iconst (v := 2) hx hb dX12_number_40 (by decide) ?_
        refine xcVv E hs hQ hml hl.1 0 (gX12_fails_0 l g ad hD S hI 2 (ib_wk (by decide : Bd 2 (2) (2)) (by decide) (by decide))) mX12_fails q1667 (by decide) c29 rfl rfl ⟨(Nat.le_of_ble_eq_true rfl), (Nat.le_of_ble_eq_true rfl)⟩ ⟨(Nat.le_of_ble_eq_true rfl), (Nat.le_of_ble_eq_true rfl)⟩ (Nat.le_of_ble_eq_true rfl) rfl dX12_number_41 (fun S96 H locs hp96 hQ _ => ?_)
        obtain ⟨hI, o96, g96_0, g96_1, g96_2, g96_3⟩ := hp96
        obtain ⟨v97, v98, v100, v102, v104, v105, w106, v107, v109, v110, v111, v112, v114, v116, v118, v120, v122, v123, v124, c125, b99, b101, b103, b108, b113, b115, b117, b119, b121⟩ := invM_0 hI
        have c125 : S96 0 = .inr (12, [.int v97, .ref (ad 1), .ref (ad 2), .ref (ad 3), .ref (ad 4), .ref (ad 5), .int v98, .int v100, .int v102, .int v104, .int v105, .long w106, .int v107, .int v109, .int v110, .int v111, .ref (ad 6), .ref (ad 7), .ref (ad 8), .ref (ad 9), .ref (ad 10), .ref (ad 11), .ref (ad 12), .ref (ad 13), .ref (ad 14), .ref (ad 15), .int v112, .int v114, .ref (ad 16), .int v116, .int v118, .int v120, .int v122, .int v123, .ref (ad 17), .ref (ad 18), .int v124, .ref (ad 19)]) := c125
        have q126 : fld (S96 0) 12 = v107.toInt := fld_of c125 rfl
        have b127 : Bd v107 (1) (3) := ⟨by omega, (b108).2⟩
        have q128 : fld (S96 0) 6 = v98.toInt := fld_of c125 rfl
        have q129 : fld (S96 0) 7 = v100.toInt := fld_of c125 rfl
        have q130 : fld (S 0) 8 = v6.toInt := fld_of c29 rfl
        have q131 : fld (S96 0) 8 = v102.toInt := fld_of c125 rfl
        have b132 : Bd v102 (2) (2) := ⟨by omega, by omega⟩
        refine lv_iload_n hx hb dX12_number_44 rfl (lv_at hl 1 rfl) ?_
        exact xri E hr hlk hQ (⟨hI, (o_trans o_refl o96 (by decide)), (ib_wk ba1 (by decide) (by decide)), (by omega), ⟨by omega, by omega⟩, (by omega)⟩) dX12_number_45
    · have h133 := ib_ne k35
      refine lv_aload_n hx hb dX12_number_17 rfl (lv_at hl 0 rfl) ?_
      refine lv_iconst (v := 1) hx hb dX12_number_18 (by decide) ?_
      refine xcVv E hs hQ hml hl.1 0 (gX12_fails_0 l g ad hD S hI 1 (ib_wk (by decide : Bd 1 (1) (1)) (by decide) (by decide))) mX12_fails q1667 (by decide) c29 rfl rfl ⟨(Nat.le_of_ble_eq_true rfl), (Nat.le_of_ble_eq_true rfl)⟩ ⟨(Nat.le_of_ble_eq_true rfl), (Nat.le_of_ble_eq_true rfl)⟩ (Nat.le_of_ble_eq_true rfl) rfl dX12_number_19 (fun S134 H locs hp134 hQ _ => ?_)
      obtain ⟨hI, o134, g134_0, g134_1, g134_2, g134_3⟩ := hp134
      obtain ⟨v135, v136, v138, v140, v142, v143, w144, v145, v147, v148, v149, v150, v152, v154, v156, v158, v160, v161, v162, c163, b137, b139, b141, b146, b151, b153, b155, b157, b159⟩ := invM_0 hI
      have c163 : S134 0 = .inr (12, [.int v135, .ref (ad 1), .ref (ad 2), .ref (ad 3), .ref (ad 4), .ref (ad 5), .int v136, .int v138, .int v140, .int v142, .int v143, .long w144, .int v145, .int v147, .int v148, .int v149, .ref (ad 6), .ref (ad 7), .ref (ad 8), .ref (ad 9), .ref (ad 10), .ref (ad 11), .ref (ad 12), .ref (ad 13), .ref (ad 14), .ref (ad 15), .int v150, .int v152, .ref (ad 16), .int v154, .int v156, .int v158, .int v160, .int v161, .ref (ad 17), .ref (ad 18), .int v162, .ref (ad 19)]) := c163
      have q164 : fld (S134 0) 12 = v145.toInt := fld_of c163 rfl
      have b165 : Bd v145 (1) (3) := ⟨by omega, (b146).2⟩
      have q166 : fld (S134 0) 6 = v136.toInt := fld_of c163 rfl
      have q167 : fld (S134 0) 7 = v138.toInt := fld_of c163 rfl
      have q168 : fld (S 0) 8 = v6.toInt := fld_of c29 rfl
      have q169 : fld (S134 0) 8 = v140.toInt := fld_of c163 rfl
      refine lv_iload_n hx hb dX12_number_22 rfl (lv_at hl 1 rfl) ?_
      exact xri E hr hlk hQ (⟨hI, (o_trans o_refl o134 (by decide)), (ib_wk ba1 (by decide) (by decide)), (by omega), ⟨by omega, by omega⟩, (by omega)⟩) dX12_number_23
  · have h170 := ib_ne k32
    have b171 : Bd v11 (1) (3) := rf_nlo b12 (by decide : Bd 0 (0) (0)) h170
    refine lv_iload_n hx hb dX12_number_7 rfl (lv_at hl 1 rfl) ?_
    have q172 : fld (S 0) 8 = v6.toInt := fld_of c29 rfl
    exact xri E hr hlk hQ (⟨hI, o_refl, (ib_wk ba1 (by decide) (by decide)), (by omega), ⟨by omega, by omega⟩, (by omega)⟩) dX12_number_8
set_option maxHeartbeats 4000000 in
set_option maxRecDepth 100000 in
theorem gX12_number_2 (l : Launch) (g : GG) (ad : Nat → Nat) (hD : Dj ad 20) (S : SS) (hI : InvM g ad S) (a1 : Int32) (a2 : Int32) (ba1 : Bd a1 (0) (0)) (ba2 : Bd a2 (6) (6)) (hq1 : 0 ≤ fld (S 0) 6 + (-1) * fld (S 0) 7) : Met l yX12_number (wG (.code yX12_number cX12_number 4 (some .int))) (Rm 2) (XPre g ad 20 S [.ref (ad 0), .int a1, .int a2]) (va_Qi (fun r S' => InvM g ad S' ∧ (∀ j, j ∉ ([0] : List Nat) → S' j = S j) ∧ Bd r (0) (6) ∧ (0 ≤ fld (S' 0) 6 + (-1) * fld (S' 0) 7) ∧ (0 ≤ fld (S 0) 6 + (-1) * fld (S' 0) 6 ∧ 0 ≤ fld (S' 0) 6 + (-1) * fld (S 0) 6) ∧ (0 ≤ 4 * fld (S 0) 6 + (-4) * fld (S 0) 7 + fld (S 0) 8 + (-4) * fld (S' 0) 6 + 4 * fld (S' 0) 7 + (-1) * fld (S' 0) 8)) (QB g ad 20) (FA ad 20)) 0 0 (FA ad 20) := by
  refine xmet cX12_number "EbbWreckModel" (by decide) rfl (Nat.le_of_ble_eq_true rfl) (fun p e s m below meth c E hr hlk hml hQ ls hl => ?_)
  have hx := E.1
  have hb := E.2.1
  have hs : Sp ad 20 (FA ad 20) := Sp.fa hD
  have hl : lv_has ls 4 [(0, .ref (ad 0)), (1, .int a1), (2, .int a2)] := hl
  obtain ⟨v1, v2, v4, v6, v8, v9, w10, v11, v13, v14, v15, v16, v18, v20, v22, v24, v26, v27, v28, c29, b3, b5, b7, b12, b17, b19, b21, b23, b25⟩ := invM_0 hI
  have c29 : S 0 = .inr (12, [.int v1, .ref (ad 1), .ref (ad 2), .ref (ad 3), .ref (ad 4), .ref (ad 5), .int v2, .int v4, .int v6, .int v8, .int v9, .long w10, .int v11, .int v13, .int v14, .int v15, .ref (ad 6), .ref (ad 7), .ref (ad 8), .ref (ad 9), .ref (ad 10), .ref (ad 11), .ref (ad 12), .ref (ad 13), .ref (ad 14), .ref (ad 15), .int v16, .int v18, .ref (ad 16), .int v20, .int v22, .int v24, .int v26, .int v27, .ref (ad 17), .ref (ad 18), .int v28, .ref (ad 19)]) := c29
  have q30 : fld (S 0) 6 = v2.toInt := fld_of c29 rfl
  have q31 : fld (S 0) 7 = v4.toInt := fld_of c29 rfl
  refine lv_aload_n hx hb dX12_number_0 rfl (lv_at hl 0 rfl) ?_
  refine xget E hQ 0 (by decide) c29 rfl 12 (by decide) q1480 rfl dX12_number_1 ?_
  refine lv_if_eq (tgt := 9) hx hb dX12_number_4 (by decide) (fun k32 => ?_) (fun k32 => ?_)
  · have h33 := ib_eq k32
    have b34 : Bd v11 (0) (0) := ⟨(b12).1, ((rf_eq b12 (by decide : Bd 0 (0) (0)) h33).1).2⟩
    refine lv_aload_n hx hb dX12_number_9 rfl (lv_at hl 0 rfl) ?_
    refine xget E hQ 0 (by decide) c29 rfl 8 (by decide) q1476 rfl dX12_number_10 ?_
    refine lv_iconst (v := 2) hx hb dX12_number_13 (by decide) ?_
    refine lv_icmp_eq (tgt := 24) hx hb dX12_number_14 (by decide) (fun k35 => ?_) (fun k35 => ?_)
    · have h36 := ib_eq k35
      have b37 : Bd v6 (2) (2) := ⟨((rf_eq b7 (by decide : Bd 2 (2) (2)) h36).1).1, ((rf_eq b7 (by decide : Bd 2 (2) (2)) h36).1).2⟩
      refine lv_aload_n hx hb dX12_number_24 rfl (lv_at hl 0 rfl) ?_
      refine xget E hQ 0 (by decide) c29 rfl 10 (by decide) q1478 rfl dX12_number_25 ?_
      refine lv_i2l hx hb dX12_number_28 rfl ?_
      refine lv_topl (fun w38 e39 => ?_)
      have t40 : w38.toInt = v9.toInt := by rw [e39]; exact i2l_i _
      have b41 : BdL w38 (-2147483648) (2147483647) := (by have h1 := ((ib_full v9)).1; have h2 := ((ib_full v9)).2; exact ⟨by omega, by omega⟩)
      refine lv_iload_n hx hb dX12_number_29 rfl (lv_at hl 1 rfl) ?_
      refine lv_i2l hx hb dX12_number_30 rfl ?_
      refine lv_topl (fun w42 e43 => ?_)
      have t44 : w42.toInt = a1.toInt := by rw [e43]; exact i2l_i _
      have b45 : BdL w42 (0) (0) := (by have h1 := (ba1).1; have h2 := (ba1).2; exact ⟨by omega, by omega⟩)
      refine lv_iload_n hx hb dX12_number_31 rfl (lv_at hl 2 rfl) ?_
      refine lv_i2l hx hb dX12_number_32 rfl ?_
      refine lv_topl (fun w46 e47 => ?_)
      have t48 : w46.toInt = a2.toInt := by rw [e47]; exact i2l_i _
      have b49 : BdL w46 (6) (6) := (by have h1 := (ba2).1; have h2 := (ba2).2; exact ⟨by omega, by omega⟩)
      refine xcSi E hs hQ hml hl.1 (gX12_in l g ad hD S hI w38 w42 w46) mX12_in q1591 rfl ⟨(Nat.le_of_ble_eq_true rfl), (Nat.le_of_ble_eq_true rfl)⟩ ⟨(Nat.le_of_ble_eq_true rfl), (Nat.le_of_ble_eq_true rfl)⟩ (Nat.le_of_ble_eq_true rfl) rfl dX12_number_33 (fun r50 S50 H locs hp50 hQ => ?_)
      obtain ⟨rfl, b50, g50_0, u50_0⟩ := hp50
      refine lv_if_ne (tgt := 46) hx hb dX12_number_36 (by decide) (fun k51 => ?_) (fun k51 => ?_)
      · have h52 := ib_ne k51
        have b53 : Bd r50 (1) (1) := rf_nlo b50 (by decide : Bd 0 (0) (0)) h52
        have g54 := g50_0.resolve_left (by omega)
        clear g50_0
        have b55 : BdL w38 (0) (6) := ⟨by omega, by omega⟩
        have b56 : Bd v9 (0) (6) := ⟨by omega, by omega⟩
        refine lv_aload_n hx hb dX12_number_46 rfl (lv_at hl 0 rfl) ?_
        refine xget E hQ 0 (by decide) c29 rfl 10 (by decide) q1478 rfl dX12_number_47 ?_
        refine lv_istore_n (lv' := [(3, .int v9), (0, .ref (ad 0)), (1, .int a1), (2, .int a2)]) hx hb dX12_number_50 rfl hl (by decide) rfl (fun ls hl => ?_)
        refine lv_aload_n hx hb dX12_number_51 rfl (lv_at hl 1 rfl) ?_
        refine xcVv E hs hQ hml hl.1 0 (gX12_next_0 l g ad hD S hI (by omega)) mX12_next q1637 (by decide) c29 rfl rfl ⟨(Nat.le_of_ble_eq_true rfl), (Nat.le_of_ble_eq_true rfl)⟩ ⟨(Nat.le_of_ble_eq_true rfl), (Nat.le_of_ble_eq_true rfl)⟩ (Nat.le_of_ble_eq_true rfl) rfl dX12_number_52 (fun S57 H locs hp57 hQ _ => ?_)
        obtain ⟨hI, o57, g57_0, g57_1, g57_2, g57_3, g57_4⟩ := hp57
        obtain ⟨v58, v59, v61, v63, v65, v66, w67, v68, v70, v71, v72, v73, v75, v77, v79, v81, v83, v84, v85, c86, b60, b62, b64, b69, b74, b76, b78, b80, b82⟩ := invM_0 hI
        have c86 : S57 0 = .inr (12, [.int v58, .ref (ad 1), .ref (ad 2), .ref (ad 3), .ref (ad 4), .ref (ad 5), .int v59, .int v61, .int v63, .int v65, .int v66, .long w67, .int v68, .int v70, .int v71, .int v72, .ref (ad 6), .ref (ad 7), .ref (ad 8), .ref (ad 9), .ref (ad 10), .ref (ad 11), .ref (ad 12), .ref (ad 13), .ref (ad 14), .ref (ad 15), .int v73, .int v75, .ref (ad 16), .int v77, .int v79, .int v81, .int v83, .int v84, .ref (ad 17), .ref (ad 18), .int v85, .ref (ad 19)]) := c86
        have q87 : fld (S57 0) 6 = v59.toInt := fld_of c86 rfl
        have q88 : fld (S57 0) 7 = v61.toInt := fld_of c86 rfl
        have q89 : fld (S 0) 12 = v11.toInt := fld_of c29 rfl
        have q90 : fld (S57 0) 12 = v68.toInt := fld_of c86 rfl
        have b91 : Bd v68 (0) (0) := ⟨(b69).1, by omega⟩
        have q92 : fld (S57 0) 8 = v63.toInt := fld_of c86 rfl
        refine lv_iload_n hx hb dX12_number_55 rfl (lv_at hl 0 rfl) ?_
        have q93 : fld (S 0) 8 = v6.toInt := fld_of c29 rfl
        exact xri E hr hlk hQ (⟨hI, (o_trans o_refl o57 (by decide)), b56, (by omega), ⟨by omega, by omega⟩, (by omega)⟩) dX12_number_56
      · have h94 := ib_eq k51
        have b95 : Bd r50 (0) (0) := ⟨(b50).1, ((rf_eq b50 (by decide : Bd 0 (0) (0)) h94).1).2⟩
        clear g50_0
        refine lv_aload_n hx hb dX12_number_39 rfl (lv_at hl 0 rfl) ?_
        refine lv_iconst (v := 2) hx hb dX12_number_40 (by decide) ?_
        refine xcVv E hs hQ hml hl.1 0 (gX12_fails_0 l g ad hD S hI 2 (ib_wk (by decide : Bd 2 (2) (2)) (by decide) (by decide))) mX12_fails q1667 (by decide) c29 rfl rfl ⟨(Nat.le_of_ble_eq_true rfl), (Nat.le_of_ble_eq_true rfl)⟩ ⟨(Nat.le_of_ble_eq_true rfl), (Nat.le_of_ble_eq_true rfl)⟩ (Nat.le_of_ble_eq_true rfl) rfl dX12_number_41 (fun S96 H locs hp96 hQ _ => ?_)
        obtain ⟨hI, o96, g96_0, g96_1, g96_2, g96_3⟩ := hp96
        obtain ⟨v97, v98, v100, v102, v104, v105, w106, v107, v109, v110, v111, v112, v114, v116, v118, v120, v122, v123, v124, c125, b99, b101, b103, b108, b113, b115, b117, b119, b121⟩ := invM_0 hI
        have c125 : S96 0 = .inr (12, [.int v97, .ref (ad 1), .ref (ad 2), .ref (ad 3), .ref (ad 4), .ref (ad 5), .int v98, .int v100, .int v102, .int v104, .int v105, .long w106, .int v107, .int v109, .int v110, .int v111, .ref (ad 6), .ref (ad 7), .ref (ad 8), .ref (ad 9), .ref (ad 10), .ref (ad 11), .ref (ad 12), .ref (ad 13), .ref (ad 14), .ref (ad 15), .int v112, .int v114, .ref (ad 16), .int v116, .int v118, .int v120, .int v122, .int v123, .ref (ad 17), .ref (ad 18), .int v124, .ref (ad 19)]) := c125
        have q126 : fld (S96 0) 12 = v107.toInt := fld_of c125 rfl
        have b127 : Bd v107 (1) (3) := ⟨by omega, (b108).2⟩
        have q128 : fld (S96 0) 6 = v98.toInt := fld_of c125 rfl
        have q129 : fld (S96 0) 7 = v100.toInt := fld_of c125 rfl
        have q130 : fld (S 0) 8 = v6.toInt := fld_of c29 rfl
        have q131 : fld (S96 0) 8 = v102.toInt := fld_of c125 rfl
        have b132 : Bd v102 (2) (2) := ⟨by omega, by omega⟩
        refine lv_iload_n hx hb dX12_number_44 rfl (lv_at hl 1 rfl) ?_
        exact xri E hr hlk hQ (⟨hI, (o_trans o_refl o96 (by decide)), (ib_wk ba1 (by decide) (by decide)), (by omega), ⟨by omega, by omega⟩, (by omega)⟩) dX12_number_45
    · have h133 := ib_ne k35
      refine lv_aload_n hx hb dX12_number_17 rfl (lv_at hl 0 rfl) ?_
      refine lv_iconst (v := 1) hx hb dX12_number_18 (by decide) ?_
      refine xcVv E hs hQ hml hl.1 0 (gX12_fails_0 l g ad hD S hI 1 (ib_wk (by decide : Bd 1 (1) (1)) (by decide) (by decide))) mX12_fails q1667 (by decide) c29 rfl rfl ⟨(Nat.le_of_ble_eq_true rfl), (Nat.le_of_ble_eq_true rfl)⟩ ⟨(Nat.le_of_ble_eq_true rfl), (Nat.le_of_ble_eq_true rfl)⟩ (Nat.le_of_ble_eq_true rfl) rfl dX12_number_19 (fun S134 H locs hp134 hQ _ => ?_)
      obtain ⟨hI, o134, g134_0, g134_1, g134_2, g134_3⟩ := hp134
      obtain ⟨v135, v136, v138, v140, v142, v143, w144, v145, v147, v148, v149, v150, v152, v154, v156, v158, v160, v161, v162, c163, b137, b139, b141, b146, b151, b153, b155, b157, b159⟩ := invM_0 hI
      have c163 : S134 0 = .inr (12, [.int v135, .ref (ad 1), .ref (ad 2), .ref (ad 3), .ref (ad 4), .ref (ad 5), .int v136, .int v138, .int v140, .int v142, .int v143, .long w144, .int v145, .int v147, .int v148, .int v149, .ref (ad 6), .ref (ad 7), .ref (ad 8), .ref (ad 9), .ref (ad 10), .ref (ad 11), .ref (ad 12), .ref (ad 13), .ref (ad 14), .ref (ad 15), .int v150, .int v152, .ref (ad 16), .int v154, .int v156, .int v158, .int v160, .int v161, .ref (ad 17), .ref (ad 18), .int v162, .ref (ad 19)]) := c163
      have q164 : fld (S134 0) 12 = v145.toInt := fld_of c163 rfl
      have b165 : Bd v145 (1) (3) := ⟨by omega, (b146).2⟩
      have q166 : fld (S134 0) 6 = v136.toInt := fld_of c163 rfl
      have q167 : fld (S134 0) 7 = v138.toInt := fld_of c163 rfl
      have q168 : fld (S 0) 8 = v6.toInt := fld_of c29 rfl
      have q169 : fld (S134 0) 8 = v140.toInt := fld_of c163 rfl
      refine lv_iload_n hx hb dX12_number_22 rfl (lv_at hl 1 rfl) ?_
      exact xri E hr hlk hQ (⟨hI, (o_trans o_refl o134 (by decide)), (ib_wk ba1 (by decide) (by decide)), (by omega), ⟨by omega, by omega⟩, (by omega)⟩) dX12_number_23
  · have h170 := ib_ne k32
    have b171 : Bd v11 (1) (3) := rf_nlo b12 (by decide : Bd 0 (0) (0)) h170
    refine lv_iload_n hx hb dX12_number_7 rfl (lv_at hl 1 rfl) ?_
    have q172 : fld (S 0) 8 = v6.toInt := fld_of c29 rfl
    exact xri E hr hlk hQ (⟨hI, o_refl, (ib_wk ba1 (by decide) (by decide)), (by omega), ⟨by omega, by omega⟩, (by omega)⟩) dX12_number_8
set_option maxHeartbeats 4000000 in
set_option maxRecDepth 100000 in
theorem gX12_number_3 (l : Launch) (g : GG) (ad : Nat → Nat) (hD : Dj ad 20) (S : SS) (hI : InvM g ad S) (a1 : Int32) (a2 : Int32) (ba1 : Bd a1 (0) (0)) (ba2 : Bd a2 (100) (100)) (hq1 : 0 ≤ fld (S 0) 6 + (-1) * fld (S 0) 7) : Met l yX12_number (wG (.code yX12_number cX12_number 4 (some .int))) (Rm 2) (XPre g ad 20 S [.ref (ad 0), .int a1, .int a2]) (va_Qi (fun r S' => InvM g ad S' ∧ (∀ j, j ∉ ([0] : List Nat) → S' j = S j) ∧ Bd r (0) (100) ∧ (0 ≤ fld (S' 0) 6 + (-1) * fld (S' 0) 7) ∧ (0 ≤ fld (S 0) 6 + (-1) * fld (S' 0) 6 ∧ 0 ≤ fld (S' 0) 6 + (-1) * fld (S 0) 6) ∧ (0 ≤ 4 * fld (S 0) 6 + (-4) * fld (S 0) 7 + fld (S 0) 8 + (-4) * fld (S' 0) 6 + 4 * fld (S' 0) 7 + (-1) * fld (S' 0) 8)) (QB g ad 20) (FA ad 20)) 0 0 (FA ad 20) := by
  refine xmet cX12_number "EbbWreckModel" (by decide) rfl (Nat.le_of_ble_eq_true rfl) (fun p e s m below meth c E hr hlk hml hQ ls hl => ?_)
  have hx := E.1
  have hb := E.2.1
  have hs : Sp ad 20 (FA ad 20) := Sp.fa hD
  have hl : lv_has ls 4 [(0, .ref (ad 0)), (1, .int a1), (2, .int a2)] := hl
  obtain ⟨v1, v2, v4, v6, v8, v9, w10, v11, v13, v14, v15, v16, v18, v20, v22, v24, v26, v27, v28, c29, b3, b5, b7, b12, b17, b19, b21, b23, b25⟩ := invM_0 hI
  have c29 : S 0 = .inr (12, [.int v1, .ref (ad 1), .ref (ad 2), .ref (ad 3), .ref (ad 4), .ref (ad 5), .int v2, .int v4, .int v6, .int v8, .int v9, .long w10, .int v11, .int v13, .int v14, .int v15, .ref (ad 6), .ref (ad 7), .ref (ad 8), .ref (ad 9), .ref (ad 10), .ref (ad 11), .ref (ad 12), .ref (ad 13), .ref (ad 14), .ref (ad 15), .int v16, .int v18, .ref (ad 16), .int v20, .int v22, .int v24, .int v26, .int v27, .ref (ad 17), .ref (ad 18), .int v28, .ref (ad 19)]) := c29
  have q30 : fld (S 0) 6 = v2.toInt := fld_of c29 rfl
  have q31 : fld (S 0) 7 = v4.toInt := fld_of c29 rfl
  refine lv_aload_n hx hb dX12_number_0 rfl (lv_at hl 0 rfl) ?_
  refine xget E hQ 0 (by decide) c29 rfl 12 (by decide) q1480 rfl dX12_number_1 ?_
  refine lv_if_eq (tgt := 9) hx hb dX12_number_4 (by decide) (fun k32 => ?_) (fun k32 => ?_)
  · have h33 := ib_eq k32
    have b34 : Bd v11 (0) (0) := ⟨(b12).1, ((rf_eq b12 (by decide : Bd 0 (0) (0)) h33).1).2⟩
    refine lv_aload_n hx hb dX12_number_9 rfl (lv_at hl 0 rfl) ?_
    refine xget E hQ 0 (by decide) c29 rfl 8 (by decide) q1476 rfl dX12_number_10 ?_
    refine lv_iconst (v := 2) hx hb dX12_number_13 (by decide) ?_
    refine lv_icmp_eq (tgt := 24) hx hb dX12_number_14 (by decide) (fun k35 => ?_) (fun k35 => ?_)
    · have h36 := ib_eq k35
      have b37 : Bd v6 (2) (2) := ⟨((rf_eq b7 (by decide : Bd 2 (2) (2)) h36).1).1, ((rf_eq b7 (by decide : Bd 2 (2) (2)) h36).1).2⟩
      refine lv_aload_n hx hb dX12_number_24 rfl (lv_at hl 0 rfl) ?_
      refine xget E hQ 0 (by decide) c29 rfl 10 (by decide) q1478 rfl dX12_number_25 ?_
      refine lv_i2l hx hb dX12_number_28 rfl ?_
      refine lv_topl (fun w38 e39 => ?_)
      have t40 : w38.toInt = v9.toInt := by rw [e39]; exact i2l_i _
      have b41 : BdL w38 (-2147483648) (2147483647) := (by have h1 := ((ib_full v9)).1; have h2 := ((ib_full v9)).2; exact ⟨by omega, by omega⟩)
      refine lv_iload_n hx hb dX12_number_29 rfl (lv_at hl 1 rfl) ?_
      refine lv_i2l hx hb dX12_number_30 rfl ?_
      refine lv_topl (fun w42 e43 => ?_)
      have t44 : w42.toInt = a1.toInt := by rw [e43]; exact i2l_i _
      have b45 : BdL w42 (0) (0) := (by have h1 := (ba1).1; have h2 := (ba1).2; exact ⟨by omega, by omega⟩)
      refine lv_iload_n hx hb dX12_number_31 rfl (lv_at hl 2 rfl) ?_
      refine lv_i2l hx hb dX12_number_32 rfl ?_
      refine lv_topl (fun w46 e47 => ?_)
      have t48 : w46.toInt = a2.toInt := by rw [e47]; exact i2l_i _
      have b49 : BdL w46 (100) (100) := (by have h1 := (ba2).1; have h2 := (ba2).2; exact ⟨by omega, by omega⟩)
      refine xcSi E hs hQ hml hl.1 (gX12_in l g ad hD S hI w38 w42 w46) mX12_in q1591 rfl ⟨(Nat.le_of_ble_eq_true rfl), (Nat.le_of_ble_eq_true rfl)⟩ ⟨(Nat.le_of_ble_eq_true rfl), (Nat.le_of_ble_eq_true rfl)⟩ (Nat.le_of_ble_eq_true rfl) rfl dX12_number_33 (fun r50 S50 H locs hp50 hQ => ?_)
      obtain ⟨rfl, b50, g50_0, u50_0⟩ := hp50
      refine lv_if_ne (tgt := 46) hx hb dX12_number_36 (by decide) (fun k51 => ?_) (fun k51 => ?_)
      · have h52 := ib_ne k51
        have b53 : Bd r50 (1) (1) := rf_nlo b50 (by decide : Bd 0 (0) (0)) h52
        have g54 := g50_0.resolve_left (by omega)
        clear g50_0
        have b55 : BdL w38 (0) (100) := ⟨by omega, by omega⟩
        have b56 : Bd v9 (0) (100) := ⟨by omega, by omega⟩
        refine lv_aload_n hx hb dX12_number_46 rfl (lv_at hl 0 rfl) ?_
        refine xget E hQ 0 (by decide) c29 rfl 10 (by decide) q1478 rfl dX12_number_47 ?_
        refine lv_istore_n (lv' := [(3, .int v9), (0, .ref (ad 0)), (1, .int a1), (2, .int a2)]) hx hb dX12_number_50 rfl hl (by decide) rfl (fun ls hl => ?_)
        refine lv_aload_n hx hb dX12_number_51 rfl (lv_at hl 1 rfl) ?_
        refine xcVv E hs hQ hml hl.1 0 (gX12_next_0 l g ad hD S hI (by omega)) mX12_next q1637 (by decide) c29 rfl rfl ⟨(Nat.le_of_ble_eq_true rfl), (Nat.le_of_ble_eq_true rfl)⟩ ⟨(Nat.le_of_ble_eq_true rfl), (Nat.le_of_ble_eq_true rfl)⟩ (Nat.le_of_ble_eq_true rfl) rfl dX12_number_52 (fun S57 H locs hp57 hQ _ => ?_)
        obtain ⟨hI, o57, g57_0, g57_1, g57_2, g57_3, g57_4⟩ := hp57
        obtain ⟨v58, v59, v61, v63, v65, v66, w67, v68, v70, v71, v72, v73, v75, v77, v79, v81, v83, v84, v85, c86, b60, b62, b64, b69, b74, b76, b78, b80, b82⟩ := invM_0 hI
        have c86 : S57 0 = .inr (12, [.int v58, .ref (ad 1), .ref (ad 2), .ref (ad 3), .ref (ad 4), .ref (ad 5), .int v59, .int v61, .int v63, .int v65, .int v66, .long w67, .int v68, .int v70, .int v71, .int v72, .ref (ad 6), .ref (ad 7), .ref (ad 8), .ref (ad 9), .ref (ad 10), .ref (ad 11), .ref (ad 12), .ref (ad 13), .ref (ad 14), .ref (ad 15), .int v73, .int v75, .ref (ad 16), .int v77, .int v79, .int v81, .int v83, .int v84, .ref (ad 17), .ref (ad 18), .int v85, .ref (ad 19)]) := c86
        have q87 : fld (S57 0) 6 = v59.toInt := fld_of c86 rfl
        have q88 : fld (S57 0) 7 = v61.toInt := fld_of c86 rfl
        have q89 : fld (S 0) 12 = v11.toInt := fld_of c29 rfl
        have q90 : fld (S57 0) 12 = v68.toInt := fld_of c86 rfl
        have b91 : Bd v68 (0) (0) := ⟨(b69).1, by omega⟩
        have q92 : fld (S57 0) 8 = v63.toInt := fld_of c86 rfl
        refine lv_iload_n hx hb dX12_number_55 rfl (lv_at hl 0 rfl) ?_
        have q93 : fld (S 0) 8 = v6.toInt := fld_of c29 rfl
        exact xri E hr hlk hQ (⟨hI, (o_trans o_refl o57 (by decide)), b56, (by omega), ⟨by omega, by omega⟩, (by omega)⟩) dX12_number_56
      · have h94 := ib_eq k51
        have b95 : Bd r50 (0) (0) := ⟨(b50).1, ((rf_eq b50 (by decide : Bd 0 (0) (0)) h94).1).2⟩
        clear g50_0
        refine lv_aload_n hx hb dX12_number_39 rfl (lv_at hl 0 rfl) ?_
        refine lv_iconst (v := 2) hx hb dX12_number_40 (by decide) ?_
        refine xcVv E hs hQ hml hl.1 0 (gX12_fails_0 l g ad hD S hI 2 (ib_wk (by decide : Bd 2 (2) (2)) (by decide) (by decide))) mX12_fails q1667 (by decide) c29 rfl rfl ⟨(Nat.le_of_ble_eq_true rfl), (Nat.le_of_ble_eq_true rfl)⟩ ⟨(Nat.le_of_ble_eq_true rfl), (Nat.le_of_ble_eq_true rfl)⟩ (Nat.le_of_ble_eq_true rfl) rfl dX12_number_41 (fun S96 H locs hp96 hQ _ => ?_)
        obtain ⟨hI, o96, g96_0, g96_1, g96_2, g96_3⟩ := hp96
        obtain ⟨v97, v98, v100, v102, v104, v105, w106, v107, v109, v110, v111, v112, v114, v116, v118, v120, v122, v123, v124, c125, b99, b101, b103, b108, b113, b115, b117, b119, b121⟩ := invM_0 hI
        have c125 : S96 0 = .inr (12, [.int v97, .ref (ad 1), .ref (ad 2), .ref (ad 3), .ref (ad 4), .ref (ad 5), .int v98, .int v100, .int v102, .int v104, .int v105, .long w106, .int v107, .int v109, .int v110, .int v111, .ref (ad 6), .ref (ad 7), .ref (ad 8), .ref (ad 9), .ref (ad 10), .ref (ad 11), .ref (ad 12), .ref (ad 13), .ref (ad 14), .ref (ad 15), .int v112, .int v114, .ref (ad 16), .int v116, .int v118, .int v120, .int v122, .int v123, .ref (ad 17), .ref (ad 18), .int v124, .ref (ad 19)]) := c125
        have q126 : fld (S96 0) 12 = v107.toInt := fld_of c125 rfl
        have b127 : Bd v107 (1) (3) := ⟨by omega, (b108).2⟩
        have q128 : fld (S96 0) 6 = v98.toInt := fld_of c125 rfl
        have q129 : fld (S96 0) 7 = v100.toInt := fld_of c125 rfl
        have q130 : fld (S 0) 8 = v6.toInt := fld_of c29 rfl
        have q131 : fld (S96 0) 8 = v102.toInt := fld_of c125 rfl
        have b132 : Bd v102 (2) (2) := ⟨by omega, by omega⟩
        refine lv_iload_n hx hb dX12_number_44 rfl (lv_at hl 1 rfl) ?_
        exact xri E hr hlk hQ (⟨hI, (o_trans o_refl o96 (by decide)), (ib_wk ba1 (by decide) (by decide)), (by omega), ⟨by omega, by omega⟩, (by omega)⟩) dX12_number_45
    · have h133 := ib_ne k35
      refine lv_aload_n hx hb dX12_number_17 rfl (lv_at hl 0 rfl) ?_
      refine lv_iconst (v := 1) hx hb dX12_number_18 (by decide) ?_
      refine xcVv E hs hQ hml hl.1 0 (gX12_fails_0 l g ad hD S hI 1 (ib_wk (by decide : Bd 1 (1) (1)) (by decide) (by decide))) mX12_fails q1667 (by decide) c29 rfl rfl ⟨(Nat.le_of_ble_eq_true rfl), (Nat.le_of_ble_eq_true rfl)⟩ ⟨(Nat.le_of_ble_eq_true rfl), (Nat.le_of_ble_eq_true rfl)⟩ (Nat.le_of_ble_eq_true rfl) rfl dX12_number_19 (fun S134 H locs hp134 hQ _ => ?_)
      obtain ⟨hI, o134, g134_0, g134_1, g134_2, g134_3⟩ := hp134
      obtain ⟨v135, v136, v138, v140, v142, v143, w144, v145, v147, v148, v149, v150, v152, v154, v156, v158, v160, v161, v162, c163, b137, b139, b141, b146, b151, b153, b155, b157, b159⟩ := invM_0 hI
      have c163 : S134 0 = .inr (12, [.int v135, .ref (ad 1), .ref (ad 2), .ref (ad 3), .ref (ad 4), .ref (ad 5), .int v136, .int v138, .int v140, .int v142, .int v143, .long w144, .int v145, .int v147, .int v148, .int v149, .ref (ad 6), .ref (ad 7), .ref (ad 8), .ref (ad 9), .ref (ad 10), .ref (ad 11), .ref (ad 12), .ref (ad 13), .ref (ad 14), .ref (ad 15), .int v150, .int v152, .ref (ad 16), .int v154, .int v156, .int v158, .int v160, .int v161, .ref (ad 17), .ref (ad 18), .int v162, .ref (ad 19)]) := c163
      have q164 : fld (S134 0) 12 = v145.toInt := fld_of c163 rfl
      have b165 : Bd v145 (1) (3) := ⟨by omega, (b146).2⟩
      have q166 : fld (S134 0) 6 = v136.toInt := fld_of c163 rfl
      have q167 : fld (S134 0) 7 = v138.toInt := fld_of c163 rfl
      have q168 : fld (S 0) 8 = v6.toInt := fld_of c29 rfl
      have q169 : fld (S134 0) 8 = v140.toInt := fld_of c163 rfl
      refine lv_iload_n hx hb dX12_number_22 rfl (lv_at hl 1 rfl) ?_
      exact xri E hr hlk hQ (⟨hI, (o_trans o_refl o134 (by decide)), (ib_wk ba1 (by decide) (by decide)), (by omega), ⟨by omega, by omega⟩, (by omega)⟩) dX12_number_23
  · have h170 := ib_ne k32
    have b171 : Bd v11 (1) (3) := rf_nlo b12 (by decide : Bd 0 (0) (0)) h170
    refine lv_iload_n hx hb dX12_number_7 rfl (lv_at hl 1 rfl) ?_
    have q172 : fld (S 0) 8 = v6.toInt := fld_of c29 rfl
    exact xri E hr hlk hQ (⟨hI, o_refl, (ib_wk ba1 (by decide) (by decide)), (by omega), ⟨by omega, by omega⟩, (by omega)⟩) dX12_number_8
set_option maxHeartbeats 4000000 in
set_option maxRecDepth 100000 in
theorem gX12_number_4 (l : Launch) (g : GG) (ad : Nat → Nat) (hD : Dj ad 20) (S : SS) (hI : InvM g ad S) (a1 : Int32) (a2 : Int32) (ba1 : Bd a1 (0) (0)) (ba2 : Bd a2 (3) (3)) (hq1 : 0 ≤ fld (S 0) 6 + (-1) * fld (S 0) 7) : Met l yX12_number (wG (.code yX12_number cX12_number 4 (some .int))) (Rm 2) (XPre g ad 20 S [.ref (ad 0), .int a1, .int a2]) (va_Qi (fun r S' => InvM g ad S' ∧ (∀ j, j ∉ ([0] : List Nat) → S' j = S j) ∧ Bd r (0) (3) ∧ (0 ≤ fld (S' 0) 6 + (-1) * fld (S' 0) 7) ∧ (0 ≤ fld (S 0) 6 + (-1) * fld (S' 0) 6 ∧ 0 ≤ fld (S' 0) 6 + (-1) * fld (S 0) 6) ∧ (0 ≤ 4 * fld (S 0) 6 + (-4) * fld (S 0) 7 + fld (S 0) 8 + (-4) * fld (S' 0) 6 + 4 * fld (S' 0) 7 + (-1) * fld (S' 0) 8)) (QB g ad 20) (FA ad 20)) 0 0 (FA ad 20) := by
  refine xmet cX12_number "EbbWreckModel" (by decide) rfl (Nat.le_of_ble_eq_true rfl) (fun p e s m below meth c E hr hlk hml hQ ls hl => ?_)
  have hx := E.1
  have hb := E.2.1
  have hs : Sp ad 20 (FA ad 20) := Sp.fa hD
  have hl : lv_has ls 4 [(0, .ref (ad 0)), (1, .int a1), (2, .int a2)] := hl
  obtain ⟨v1, v2, v4, v6, v8, v9, w10, v11, v13, v14, v15, v16, v18, v20, v22, v24, v26, v27, v28, c29, b3, b5, b7, b12, b17, b19, b21, b23, b25⟩ := invM_0 hI
  have c29 : S 0 = .inr (12, [.int v1, .ref (ad 1), .ref (ad 2), .ref (ad 3), .ref (ad 4), .ref (ad 5), .int v2, .int v4, .int v6, .int v8, .int v9, .long w10, .int v11, .int v13, .int v14, .int v15, .ref (ad 6), .ref (ad 7), .ref (ad 8), .ref (ad 9), .ref (ad 10), .ref (ad 11), .ref (ad 12), .ref (ad 13), .ref (ad 14), .ref (ad 15), .int v16, .int v18, .ref (ad 16), .int v20, .int v22, .int v24, .int v26, .int v27, .ref (ad 17), .ref (ad 18), .int v28, .ref (ad 19)]) := c29
  have q30 : fld (S 0) 6 = v2.toInt := fld_of c29 rfl
  have q31 : fld (S 0) 7 = v4.toInt := fld_of c29 rfl
  refine lv_aload_n hx hb dX12_number_0 rfl (lv_at hl 0 rfl) ?_
  refine xget E hQ 0 (by decide) c29 rfl 12 (by decide) q1480 rfl dX12_number_1 ?_
  refine lv_if_eq (tgt := 9) hx hb dX12_number_4 (by decide) (fun k32 => ?_) (fun k32 => ?_)
  · have h33 := ib_eq k32
    have b34 : Bd v11 (0) (0) := ⟨(b12).1, ((rf_eq b12 (by decide : Bd 0 (0) (0)) h33).1).2⟩
    refine lv_aload_n hx hb dX12_number_9 rfl (lv_at hl 0 rfl) ?_
    refine xget E hQ 0 (by decide) c29 rfl 8 (by decide) q1476 rfl dX12_number_10 ?_
    refine lv_iconst (v := 2) hx hb dX12_number_13 (by decide) ?_
    refine lv_icmp_eq (tgt := 24) hx hb dX12_number_14 (by decide) (fun k35 => ?_) (fun k35 => ?_)
    · have h36 := ib_eq k35
      have b37 : Bd v6 (2) (2) := ⟨((rf_eq b7 (by decide : Bd 2 (2) (2)) h36).1).1, ((rf_eq b7 (by decide : Bd 2 (2) (2)) h36).1).2⟩
      refine lv_aload_n hx hb dX12_number_24 rfl (lv_at hl 0 rfl) ?_
      refine xget E hQ 0 (by decide) c29 rfl 10 (by decide) q1478 rfl dX12_number_25 ?_
      refine lv_i2l hx hb dX12_number_28 rfl ?_
      refine lv_topl (fun w38 e39 => ?_)
      have t40 : w38.toInt = v9.toInt := by rw [e39]; exact i2l_i _
      have b41 : BdL w38 (-2147483648) (2147483647) := (by have h1 := ((ib_full v9)).1; have h2 := ((ib_full v9)).2; exact ⟨by omega, by omega⟩)
      refine lv_iload_n hx hb dX12_number_29 rfl (lv_at hl 1 rfl) ?_
      refine lv_i2l hx hb dX12_number_30 rfl ?_
      refine lv_topl (fun w42 e43 => ?_)
      have t44 : w42.toInt = a1.toInt := by rw [e43]; exact i2l_i _
      have b45 : BdL w42 (0) (0) := (by have h1 := (ba1).1; have h2 := (ba1).2; exact ⟨by omega, by omega⟩)
      refine lv_iload_n hx hb dX12_number_31 rfl (lv_at hl 2 rfl) ?_
      refine lv_i2l hx hb dX12_number_32 rfl ?_
      refine lv_topl (fun w46 e47 => ?_)
      have t48 : w46.toInt = a2.toInt := by rw [e47]; exact i2l_i _
      have b49 : BdL w46 (3) (3) := (by have h1 := (ba2).1; have h2 := (ba2).2; exact ⟨by omega, by omega⟩)
      refine xcSi E hs hQ hml hl.1 (gX12_in l g ad hD S hI w38 w42 w46) mX12_in q1591 rfl ⟨(Nat.le_of_ble_eq_true rfl), (Nat.le_of_ble_eq_true rfl)⟩ ⟨(Nat.le_of_ble_eq_true rfl), (Nat.le_of_ble_eq_true rfl)⟩ (Nat.le_of_ble_eq_true rfl) rfl dX12_number_33 (fun r50 S50 H locs hp50 hQ => ?_)
      obtain ⟨rfl, b50, g50_0, u50_0⟩ := hp50
      refine lv_if_ne (tgt := 46) hx hb dX12_number_36 (by decide) (fun k51 => ?_) (fun k51 => ?_)
      · have h52 := ib_ne k51
        have b53 : Bd r50 (1) (1) := rf_nlo b50 (by decide : Bd 0 (0) (0)) h52
        have g54 := g50_0.resolve_left (by omega)
        clear g50_0
        have b55 : BdL w38 (0) (3) := ⟨by omega, by omega⟩
        have b56 : Bd v9 (0) (3) := ⟨by omega, by omega⟩
        refine lv_aload_n hx hb dX12_number_46 rfl (lv_at hl 0 rfl) ?_
        refine xget E hQ 0 (by decide) c29 rfl 10 (by decide) q1478 rfl dX12_number_47 ?_
        refine lv_istore_n (lv' := [(3, .int v9), (0, .ref (ad 0)), (1, .int a1), (2, .int a2)]) hx hb dX12_number_50 rfl hl (by decide) rfl (fun ls hl => ?_)
        refine lv_aload_n hx hb dX12_number_51 rfl (lv_at hl 1 rfl) ?_
        refine xcVv E hs hQ hml hl.1 0 (gX12_next_0 l g ad hD S hI (by omega)) mX12_next q1637 (by decide) c29 rfl rfl ⟨(Nat.le_of_ble_eq_true rfl), (Nat.le_of_ble_eq_true rfl)⟩ ⟨(Nat.le_of_ble_eq_true rfl), (Nat.le_of_ble_eq_true rfl)⟩ (Nat.le_of_ble_eq_true rfl) rfl dX12_number_52 (fun S57 H locs hp57 hQ _ => ?_)
        obtain ⟨hI, o57, g57_0, g57_1, g57_2, g57_3, g57_4⟩ := hp57
        obtain ⟨v58, v59, v61, v63, v65, v66, w67, v68, v70, v71, v72, v73, v75, v77, v79, v81, v83, v84, v85, c86, b60, b62, b64, b69, b74, b76, b78, b80, b82⟩ := invM_0 hI
        have c86 : S57 0 = .inr (12, [.int v58, .ref (ad 1), .ref (ad 2), .ref (ad 3), .ref (ad 4), .ref (ad 5), .int v59, .int v61, .int v63, .int v65, .int v66, .long w67, .int v68, .int v70, .int v71, .int v72, .ref (ad 6), .ref (ad 7), .ref (ad 8), .ref (ad 9), .ref (ad 10), .ref (ad 11), .ref (ad 12), .ref (ad 13), .ref (ad 14), .ref (ad 15), .int v73, .int v75, .ref (ad 16), .int v77, .int v79, .int v81, .int v83, .int v84, .ref (ad 17), .ref (ad 18), .int v85, .ref (ad 19)]) := c86
        have q87 : fld (S57 0) 6 = v59.toInt := fld_of c86 rfl
        have q88 : fld (S57 0) 7 = v61.toInt := fld_of c86 rfl
        have q89 : fld (S 0) 12 = v11.toInt := fld_of c29 rfl
        have q90 : fld (S57 0) 12 = v68.toInt := fld_of c86 rfl
        have b91 : Bd v68 (0) (0) := ⟨(b69).1, by omega⟩
        have q92 : fld (S57 0) 8 = v63.toInt := fld_of c86 rfl
        refine lv_iload_n hx hb dX12_number_55 rfl (lv_at hl 0 rfl) ?_
        have q93 : fld (S 0) 8 = v6.toInt := fld_of c29 rfl
        exact xri E hr hlk hQ (⟨hI, (o_trans o_refl o57 (by decide)), b56, (by omega), ⟨by omega, by omega⟩, (by omega)⟩) dX12_number_56
      · have h94 := ib_eq k51
        have b95 : Bd r50 (0) (0) := ⟨(b50).1, ((rf_eq b50 (by decide : Bd 0 (0) (0)) h94).1).2⟩
        clear g50_0
        refine lv_aload_n hx hb dX12_number_39 rfl (lv_at hl 0 rfl) ?_
        refine lv_iconst (v := 2) hx hb dX12_number_40 (by decide) ?_
        refine xcVv E hs hQ hml hl.1 0 (gX12_fails_0 l g ad hD S hI 2 (ib_wk (by decide : Bd 2 (2) (2)) (by decide) (by decide))) mX12_fails q1667 (by decide) c29 rfl rfl ⟨(Nat.le_of_ble_eq_true rfl), (Nat.le_of_ble_eq_true rfl)⟩ ⟨(Nat.le_of_ble_eq_true rfl), (Nat.le_of_ble_eq_true rfl)⟩ (Nat.le_of_ble_eq_true rfl) rfl dX12_number_41 (fun S96 H locs hp96 hQ _ => ?_)
        obtain ⟨hI, o96, g96_0, g96_1, g96_2, g96_3⟩ := hp96
        obtain ⟨v97, v98, v100, v102, v104, v105, w106, v107, v109, v110, v111, v112, v114, v116, v118, v120, v122, v123, v124, c125, b99, b101, b103, b108, b113, b115, b117, b119, b121⟩ := invM_0 hI
        have c125 : S96 0 = .inr (12, [.int v97, .ref (ad 1), .ref (ad 2), .ref (ad 3), .ref (ad 4), .ref (ad 5), .int v98, .int v100, .int v102, .int v104, .int v105, .long w106, .int v107, .int v109, .int v110, .int v111, .ref (ad 6), .ref (ad 7), .ref (ad 8), .ref (ad 9), .ref (ad 10), .ref (ad 11), .ref (ad 12), .ref (ad 13), .ref (ad 14), .ref (ad 15), .int v112, .int v114, .ref (ad 16), .int v116, .int v118, .int v120, .int v122, .int v123, .ref (ad 17), .ref (ad 18), .int v124, .ref (ad 19)]) := c125
        have q126 : fld (S96 0) 12 = v107.toInt := fld_of c125 rfl
        have b127 : Bd v107 (1) (3) := ⟨by omega, (b108).2⟩
        have q128 : fld (S96 0) 6 = v98.toInt := fld_of c125 rfl
        have q129 : fld (S96 0) 7 = v100.toInt := fld_of c125 rfl
        have q130 : fld (S 0) 8 = v6.toInt := fld_of c29 rfl
        have q131 : fld (S96 0) 8 = v102.toInt := fld_of c125 rfl
        have b132 : Bd v102 (2) (2) := ⟨by omega, by omega⟩
        refine lv_iload_n hx hb dX12_number_44 rfl (lv_at hl 1 rfl) ?_
        exact xri E hr hlk hQ (⟨hI, (o_trans o_refl o96 (by decide)), (ib_wk ba1 (by decide) (by decide)), (by omega), ⟨by omega, by omega⟩, (by omega)⟩) dX12_number_45
    · have h133 := ib_ne k35
      refine lv_aload_n hx hb dX12_number_17 rfl (lv_at hl 0 rfl) ?_
      refine lv_iconst (v := 1) hx hb dX12_number_18 (by decide) ?_
      refine xcVv E hs hQ hml hl.1 0 (gX12_fails_0 l g ad hD S hI 1 (ib_wk (by decide : Bd 1 (1) (1)) (by decide) (by decide))) mX12_fails q1667 (by decide) c29 rfl rfl ⟨(Nat.le_of_ble_eq_true rfl), (Nat.le_of_ble_eq_true rfl)⟩ ⟨(Nat.le_of_ble_eq_true rfl), (Nat.le_of_ble_eq_true rfl)⟩ (Nat.le_of_ble_eq_true rfl) rfl dX12_number_19 (fun S134 H locs hp134 hQ _ => ?_)
      obtain ⟨hI, o134, g134_0, g134_1, g134_2, g134_3⟩ := hp134
      obtain ⟨v135, v136, v138, v140, v142, v143, w144, v145, v147, v148, v149, v150, v152, v154, v156, v158, v160, v161, v162, c163, b137, b139, b141, b146, b151, b153, b155, b157, b159⟩ := invM_0 hI
      have c163 : S134 0 = .inr (12, [.int v135, .ref (ad 1), .ref (ad 2), .ref (ad 3), .ref (ad 4), .ref (ad 5), .int v136, .int v138, .int v140, .int v142, .int v143, .long w144, .int v145, .int v147, .int v148, .int v149, .ref (ad 6), .ref (ad 7), .ref (ad 8), .ref (ad 9), .ref (ad 10), .ref (ad 11), .ref (ad 12), .ref (ad 13), .ref (ad 14), .ref (ad 15), .int v150, .int v152, .ref (ad 16), .int v154, .int v156, .int v158, .int v160, .int v161, .ref (ad 17), .ref (ad 18), .int v162, .ref (ad 19)]) := c163
      have q164 : fld (S134 0) 12 = v145.toInt := fld_of c163 rfl
      have b165 : Bd v145 (1) (3) := ⟨by omega, (b146).2⟩
      have q166 : fld (S134 0) 6 = v136.toInt := fld_of c163 rfl
      have q167 : fld (S134 0) 7 = v138.toInt := fld_of c163 rfl
      have q168 : fld (S 0) 8 = v6.toInt := fld_of c29 rfl
      have q169 : fld (S134 0) 8 = v140.toInt := fld_of c163 rfl
      refine lv_iload_n hx hb dX12_number_22 rfl (lv_at hl 1 rfl) ?_
      exact xri E hr hlk hQ (⟨hI, (o_trans o_refl o134 (by decide)), (ib_wk ba1 (by decide) (by decide)), (by omega), ⟨by omega, by omega⟩, (by omega)⟩) dX12_number_23
  · have h170 := ib_ne k32
    have b171 : Bd v11 (1) (3) := rf_nlo b12 (by decide : Bd 0 (0) (0)) h170
    refine lv_iload_n hx hb dX12_number_7 rfl (lv_at hl 1 rfl) ?_
    have q172 : fld (S 0) 8 = v6.toInt := fld_of c29 rfl
    exact xri E hr hlk hQ (⟨hI, o_refl, (ib_wk ba1 (by decide) (by decide)), (by omega), ⟨by omega, by omega⟩, (by omega)⟩) dX12_number_8
set_option maxHeartbeats 4000000 in
set_option maxRecDepth 100000 in
theorem gX12_number_5 (l : Launch) (g : GG) (ad : Nat → Nat) (hD : Dj ad 20) (S : SS) (hI : InvM g ad S) (a1 : Int32) (a2 : Int32) (ba1 : Bd a1 (0) (0)) (ba2 : Bd a2 (999) (999)) (hq1 : 0 ≤ fld (S 0) 6 + (-1) * fld (S 0) 7) : Met l yX12_number (wG (.code yX12_number cX12_number 4 (some .int))) (Rm 2) (XPre g ad 20 S [.ref (ad 0), .int a1, .int a2]) (va_Qi (fun r S' => InvM g ad S' ∧ (∀ j, j ∉ ([0] : List Nat) → S' j = S j) ∧ Bd r (0) (999) ∧ (0 ≤ fld (S' 0) 6 + (-1) * fld (S' 0) 7) ∧ (0 ≤ fld (S 0) 6 + (-1) * fld (S' 0) 6 ∧ 0 ≤ fld (S' 0) 6 + (-1) * fld (S 0) 6) ∧ (0 ≤ 4 * fld (S 0) 6 + (-4) * fld (S 0) 7 + fld (S 0) 8 + (-4) * fld (S' 0) 6 + 4 * fld (S' 0) 7 + (-1) * fld (S' 0) 8)) (QB g ad 20) (FA ad 20)) 0 0 (FA ad 20) := by
  refine xmet cX12_number "EbbWreckModel" (by decide) rfl (Nat.le_of_ble_eq_true rfl) (fun p e s m below meth c E hr hlk hml hQ ls hl => ?_)
  have hx := E.1
  have hb := E.2.1
  have hs : Sp ad 20 (FA ad 20) := Sp.fa hD
  have hl : lv_has ls 4 [(0, .ref (ad 0)), (1, .int a1), (2, .int a2)] := hl
  obtain ⟨v1, v2, v4, v6, v8, v9, w10, v11, v13, v14, v15, v16, v18, v20, v22, v24, v26, v27, v28, c29, b3, b5, b7, b12, b17, b19, b21, b23, b25⟩ := invM_0 hI
  have c29 : S 0 = .inr (12, [.int v1, .ref (ad 1), .ref (ad 2), .ref (ad 3), .ref (ad 4), .ref (ad 5), .int v2, .int v4, .int v6, .int v8, .int v9, .long w10, .int v11, .int v13, .int v14, .int v15, .ref (ad 6), .ref (ad 7), .ref (ad 8), .ref (ad 9), .ref (ad 10), .ref (ad 11), .ref (ad 12), .ref (ad 13), .ref (ad 14), .ref (ad 15), .int v16, .int v18, .ref (ad 16), .int v20, .int v22, .int v24, .int v26, .int v27, .ref (ad 17), .ref (ad 18), .int v28, .ref (ad 19)]) := c29
  have q30 : fld (S 0) 6 = v2.toInt := fld_of c29 rfl
  have q31 : fld (S 0) 7 = v4.toInt := fld_of c29 rfl
  refine lv_aload_n hx hb dX12_number_0 rfl (lv_at hl 0 rfl) ?_
  refine xget E hQ 0 (by decide) c29 rfl 12 (by decide) q1480 rfl dX12_number_1 ?_
  refine lv_if_eq (tgt := 9) hx hb dX12_number_4 (by decide) (fun k32 => ?_) (fun k32 => ?_)
  · have h33 := ib_eq k32
    have b34 : Bd v11 (0) (0) := ⟨(b12).1, ((rf_eq b12 (by decide : Bd 0 (0) (0)) h33).1).2⟩
    refine lv_aload_n hx hb dX12_number_9 rfl (lv_at hl 0 rfl) ?_
    refine xget E hQ 0 (by decide) c29 rfl 8 (by decide) q1476 rfl dX12_number_10 ?_
    refine lv_iconst (v := 2) hx hb dX12_number_13 (by decide) ?_
    refine lv_icmp_eq (tgt := 24) hx hb dX12_number_14 (by decide) (fun k35 => ?_) (fun k35 => ?_)
    · have h36 := ib_eq k35
      have b37 : Bd v6 (2) (2) := ⟨((rf_eq b7 (by decide : Bd 2 (2) (2)) h36).1).1, ((rf_eq b7 (by decide : Bd 2 (2) (2)) h36).1).2⟩
      refine lv_aload_n hx hb dX12_number_24 rfl (lv_at hl 0 rfl) ?_
      refine xget E hQ 0 (by decide) c29 rfl 10 (by decide) q1478 rfl dX12_number_25 ?_
      refine lv_i2l hx hb dX12_number_28 rfl ?_
      refine lv_topl (fun w38 e39 => ?_)
      have t40 : w38.toInt = v9.toInt := by rw [e39]; exact i2l_i _
      have b41 : BdL w38 (-2147483648) (2147483647) := (by have h1 := ((ib_full v9)).1; have h2 := ((ib_full v9)).2; exact ⟨by omega, by omega⟩)
      refine lv_iload_n hx hb dX12_number_29 rfl (lv_at hl 1 rfl) ?_
      refine lv_i2l hx hb dX12_number_30 rfl ?_
      refine lv_topl (fun w42 e43 => ?_)
      have t44 : w42.toInt = a1.toInt := by rw [e43]; exact i2l_i _
      have b45 : BdL w42 (0) (0) := (by have h1 := (ba1).1; have h2 := (ba1).2; exact ⟨by omega, by omega⟩)
      refine lv_iload_n hx hb dX12_number_31 rfl (lv_at hl 2 rfl) ?_
      refine lv_i2l hx hb dX12_number_32 rfl ?_
      refine lv_topl (fun w46 e47 => ?_)
      have t48 : w46.toInt = a2.toInt := by rw [e47]; exact i2l_i _
      have b49 : BdL w46 (999) (999) := (by have h1 := (ba2).1; have h2 := (ba2).2; exact ⟨by omega, by omega⟩)
      refine xcSi E hs hQ hml hl.1 (gX12_in l g ad hD S hI w38 w42 w46) mX12_in q1591 rfl ⟨(Nat.le_of_ble_eq_true rfl), (Nat.le_of_ble_eq_true rfl)⟩ ⟨(Nat.le_of_ble_eq_true rfl), (Nat.le_of_ble_eq_true rfl)⟩ (Nat.le_of_ble_eq_true rfl) rfl dX12_number_33 (fun r50 S50 H locs hp50 hQ => ?_)
      obtain ⟨rfl, b50, g50_0, u50_0⟩ := hp50
      refine lv_if_ne (tgt := 46) hx hb dX12_number_36 (by decide) (fun k51 => ?_) (fun k51 => ?_)
      · have h52 := ib_ne k51
        have b53 : Bd r50 (1) (1) := rf_nlo b50 (by decide : Bd 0 (0) (0)) h52
        have g54 := g50_0.resolve_left (by omega)
        clear g50_0
        have b55 : BdL w38 (0) (999) := ⟨by omega, by omega⟩
        have b56 : Bd v9 (0) (999) := ⟨by omega, by omega⟩
        refine lv_aload_n hx hb dX12_number_46 rfl (lv_at hl 0 rfl) ?_
        refine xget E hQ 0 (by decide) c29 rfl 10 (by decide) q1478 rfl dX12_number_47 ?_
        refine lv_istore_n (lv' := [(3, .int v9), (0, .ref (ad 0)), (1, .int a1), (2, .int a2)]) hx hb dX12_number_50 rfl hl (by decide) rfl (fun ls hl => ?_)
        refine lv_aload_n hx hb dX12_number_51 rfl (lv_at hl 1 rfl) ?_
        refine xcVv E hs hQ hml hl.1 0 (gX12_next_0 l g ad hD S hI (by omega)) mX12_next q1637 (by decide) c29 rfl rfl ⟨(Nat.le_of_ble_eq_true rfl), (Nat.le_of_ble_eq_true rfl)⟩ ⟨(Nat.le_of_ble_eq_true rfl), (Nat.le_of_ble_eq_true rfl)⟩ (Nat.le_of_ble_eq_true rfl) rfl dX12_number_52 (fun S57 H locs hp57 hQ _ => ?_)
        obtain ⟨hI, o57, g57_0, g57_1, g57_2, g57_3, g57_4⟩ := hp57
        obtain ⟨v58, v59, v61, v63, v65, v66, w67, v68, v70, v71, v72, v73, v75, v77, v79, v81, v83, v84, v85, c86, b60, b62, b64, b69, b74, b76, b78, b80, b82⟩ := invM_0 hI
        have c86 : S57 0 = .inr (12, [.int v58, .ref (ad 1), .ref (ad 2), .ref (ad 3), .ref (ad 4), .ref (ad 5), .int v59, .int v61, .int v63, .int v65, .int v66, .long w67, .int v68, .int v70, .int v71, .int v72, .ref (ad 6), .ref (ad 7), .ref (ad 8), .ref (ad 9), .ref (ad 10), .ref (ad 11), .ref (ad 12), .ref (ad 13), .ref (ad 14), .ref (ad 15), .int v73, .int v75, .ref (ad 16), .int v77, .int v79, .int v81, .int v83, .int v84, .ref (ad 17), .ref (ad 18), .int v85, .ref (ad 19)]) := c86
        have q87 : fld (S57 0) 6 = v59.toInt := fld_of c86 rfl
        have q88 : fld (S57 0) 7 = v61.toInt := fld_of c86 rfl
        have q89 : fld (S 0) 12 = v11.toInt := fld_of c29 rfl
        have q90 : fld (S57 0) 12 = v68.toInt := fld_of c86 rfl
        have b91 : Bd v68 (0) (0) := ⟨(b69).1, by omega⟩
        have q92 : fld (S57 0) 8 = v63.toInt := fld_of c86 rfl
        refine lv_iload_n hx hb dX12_number_55 rfl (lv_at hl 0 rfl) ?_
        have q93 : fld (S 0) 8 = v6.toInt := fld_of c29 rfl
        exact xri E hr hlk hQ (⟨hI, (o_trans o_refl o57 (by decide)), b56, (by omega), ⟨by omega, by omega⟩, (by omega)⟩) dX12_number_56
      · have h94 := ib_eq k51
        have b95 : Bd r50 (0) (0) := ⟨(b50).1, ((rf_eq b50 (by decide : Bd 0 (0) (0)) h94).1).2⟩
        clear g50_0
        refine lv_aload_n hx hb dX12_number_39 rfl (lv_at hl 0 rfl) ?_
        refine lv_iconst (v := 2) hx hb dX12_number_40 (by decide) ?_
        refine xcVv E hs hQ hml hl.1 0 (gX12_fails_0 l g ad hD S hI 2 (ib_wk (by decide : Bd 2 (2) (2)) (by decide) (by decide))) mX12_fails q1667 (by decide) c29 rfl rfl ⟨(Nat.le_of_ble_eq_true rfl), (Nat.le_of_ble_eq_true rfl)⟩ ⟨(Nat.le_of_ble_eq_true rfl), (Nat.le_of_ble_eq_true rfl)⟩ (Nat.le_of_ble_eq_true rfl) rfl dX12_number_41 (fun S96 H locs hp96 hQ _ => ?_)
        obtain ⟨hI, o96, g96_0, g96_1, g96_2, g96_3⟩ := hp96
        obtain ⟨v97, v98, v100, v102, v104, v105, w106, v107, v109, v110, v111, v112, v114, v116, v118, v120, v122, v123, v124, c125, b99, b101, b103, b108, b113, b115, b117, b119, b121⟩ := invM_0 hI
        have c125 : S96 0 = .inr (12, [.int v97, .ref (ad 1), .ref (ad 2), .ref (ad 3), .ref (ad 4), .ref (ad 5), .int v98, .int v100, .int v102, .int v104, .int v105, .long w106, .int v107, .int v109, .int v110, .int v111, .ref (ad 6), .ref (ad 7), .ref (ad 8), .ref (ad 9), .ref (ad 10), .ref (ad 11), .ref (ad 12), .ref (ad 13), .ref (ad 14), .ref (ad 15), .int v112, .int v114, .ref (ad 16), .int v116, .int v118, .int v120, .int v122, .int v123, .ref (ad 17), .ref (ad 18), .int v124, .ref (ad 19)]) := c125
        have q126 : fld (S96 0) 12 = v107.toInt := fld_of c125 rfl
        have b127 : Bd v107 (1) (3) := ⟨by omega, (b108).2⟩
        have q128 : fld (S96 0) 6 = v98.toInt := fld_of c125 rfl
        have q129 : fld (S96 0) 7 = v100.toInt := fld_of c125 rfl
        have q130 : fld (S 0) 8 = v6.toInt := fld_of c29 rfl
        have q131 : fld (S96 0) 8 = v102.toInt := fld_of c125 rfl
        have b132 : Bd v102 (2) (2) := ⟨by omega, by omega⟩
        refine lv_iload_n hx hb dX12_number_44 rfl (lv_at hl 1 rfl) ?_
        exact xri E hr hlk hQ (⟨hI, (o_trans o_refl o96 (by decide)), (ib_wk ba1 (by decide) (by decide)), (by omega), ⟨by omega, by omega⟩, (by omega)⟩) dX12_number_45
    · have h133 := ib_ne k35
      refine lv_aload_n hx hb dX12_number_17 rfl (lv_at hl 0 rfl) ?_
      refine lv_iconst (v := 1) hx hb dX12_number_18 (by decide) ?_
      refine xcVv E hs hQ hml hl.1 0 (gX12_fails_0 l g ad hD S hI 1 (ib_wk (by decide : Bd 1 (1) (1)) (by decide) (by decide))) mX12_fails q1667 (by decide) c29 rfl rfl ⟨(Nat.le_of_ble_eq_true rfl), (Nat.le_of_ble_eq_true rfl)⟩ ⟨(Nat.le_of_ble_eq_true rfl), (Nat.le_of_ble_eq_true rfl)⟩ (Nat.le_of_ble_eq_true rfl) rfl dX12_number_19 (fun S134 H locs hp134 hQ _ => ?_)
      obtain ⟨hI, o134, g134_0, g134_1, g134_2, g134_3⟩ := hp134
      obtain ⟨v135, v136, v138, v140, v142, v143, w144, v145, v147, v148, v149, v150, v152, v154, v156, v158, v160, v161, v162, c163, b137, b139, b141, b146, b151, b153, b155, b157, b159⟩ := invM_0 hI
      have c163 : S134 0 = .inr (12, [.int v135, .ref (ad 1), .ref (ad 2), .ref (ad 3), .ref (ad 4), .ref (ad 5), .int v136, .int v138, .int v140, .int v142, .int v143, .long w144, .int v145, .int v147, .int v148, .int v149, .ref (ad 6), .ref (ad 7), .ref (ad 8), .ref (ad 9), .ref (ad 10), .ref (ad 11), .ref (ad 12), .ref (ad 13), .ref (ad 14), .ref (ad 15), .int v150, .int v152, .ref (ad 16), .int v154, .int v156, .int v158, .int v160, .int v161, .ref (ad 17), .ref (ad 18), .int v162, .ref (ad 19)]) := c163
      have q164 : fld (S134 0) 12 = v145.toInt := fld_of c163 rfl
      have b165 : Bd v145 (1) (3) := ⟨by omega, (b146).2⟩
      have q166 : fld (S134 0) 6 = v136.toInt := fld_of c163 rfl
      have q167 : fld (S134 0) 7 = v138.toInt := fld_of c163 rfl
      have q168 : fld (S 0) 8 = v6.toInt := fld_of c29 rfl
      have q169 : fld (S134 0) 8 = v140.toInt := fld_of c163 rfl
      refine lv_iload_n hx hb dX12_number_22 rfl (lv_at hl 1 rfl) ?_
      exact xri E hr hlk hQ (⟨hI, (o_trans o_refl o134 (by decide)), (ib_wk ba1 (by decide) (by decide)), (by omega), ⟨by omega, by omega⟩, (by omega)⟩) dX12_number_23
  · have h170 := ib_ne k32
    have b171 : Bd v11 (1) (3) := rf_nlo b12 (by decide : Bd 0 (0) (0)) h170
    refine lv_iload_n hx hb dX12_number_7 rfl (lv_at hl 1 rfl) ?_
    have q172 : fld (S 0) 8 = v6.toInt := fld_of c29 rfl
    exact xri E hr hlk hQ (⟨hI, o_refl, (ib_wk ba1 (by decide) (by decide)), (by omega), ⟨by omega, by omega⟩, (by omega)⟩) dX12_number_8
set_option maxHeartbeats 4000000 in
set_option maxRecDepth 100000 in
theorem gX12_number_6 (l : Launch) (g : GG) (ad : Nat → Nat) (hD : Dj ad 20) (S : SS) (hI : InvM g ad S) (a1 : Int32) (a2 : Int32) (ba1 : Bd a1 (0) (0)) (ba2 : Bd a2 (99) (99)) (hq1 : 0 ≤ fld (S 0) 6 + (-1) * fld (S 0) 7) : Met l yX12_number (wG (.code yX12_number cX12_number 4 (some .int))) (Rm 2) (XPre g ad 20 S [.ref (ad 0), .int a1, .int a2]) (va_Qi (fun r S' => InvM g ad S' ∧ (∀ j, j ∉ ([0] : List Nat) → S' j = S j) ∧ Bd r (0) (99) ∧ (0 ≤ fld (S' 0) 6 + (-1) * fld (S' 0) 7) ∧ (0 ≤ fld (S 0) 6 + (-1) * fld (S' 0) 6 ∧ 0 ≤ fld (S' 0) 6 + (-1) * fld (S 0) 6) ∧ (0 ≤ 4 * fld (S 0) 6 + (-4) * fld (S 0) 7 + fld (S 0) 8 + (-4) * fld (S' 0) 6 + 4 * fld (S' 0) 7 + (-1) * fld (S' 0) 8)) (QB g ad 20) (FA ad 20)) 0 0 (FA ad 20) := by
  refine xmet cX12_number "EbbWreckModel" (by decide) rfl (Nat.le_of_ble_eq_true rfl) (fun p e s m below meth c E hr hlk hml hQ ls hl => ?_)
  have hx := E.1
  have hb := E.2.1
  have hs : Sp ad 20 (FA ad 20) := Sp.fa hD
  have hl : lv_has ls 4 [(0, .ref (ad 0)), (1, .int a1), (2, .int a2)] := hl
  obtain ⟨v1, v2, v4, v6, v8, v9, w10, v11, v13, v14, v15, v16, v18, v20, v22, v24, v26, v27, v28, c29, b3, b5, b7, b12, b17, b19, b21, b23, b25⟩ := invM_0 hI
  have c29 : S 0 = .inr (12, [.int v1, .ref (ad 1), .ref (ad 2), .ref (ad 3), .ref (ad 4), .ref (ad 5), .int v2, .int v4, .int v6, .int v8, .int v9, .long w10, .int v11, .int v13, .int v14, .int v15, .ref (ad 6), .ref (ad 7), .ref (ad 8), .ref (ad 9), .ref (ad 10), .ref (ad 11), .ref (ad 12), .ref (ad 13), .ref (ad 14), .ref (ad 15), .int v16, .int v18, .ref (ad 16), .int v20, .int v22, .int v24, .int v26, .int v27, .ref (ad 17), .ref (ad 18), .int v28, .ref (ad 19)]) := c29
  have q30 : fld (S 0) 6 = v2.toInt := fld_of c29 rfl
  have q31 : fld (S 0) 7 = v4.toInt := fld_of c29 rfl
  refine lv_aload_n hx hb dX12_number_0 rfl (lv_at hl 0 rfl) ?_
  refine xget E hQ 0 (by decide) c29 rfl 12 (by decide) q1480 rfl dX12_number_1 ?_
  refine lv_if_eq (tgt := 9) hx hb dX12_number_4 (by decide) (fun k32 => ?_) (fun k32 => ?_)
  · have h33 := ib_eq k32
    have b34 : Bd v11 (0) (0) := ⟨(b12).1, ((rf_eq b12 (by decide : Bd 0 (0) (0)) h33).1).2⟩
    refine lv_aload_n hx hb dX12_number_9 rfl (lv_at hl 0 rfl) ?_
    refine xget E hQ 0 (by decide) c29 rfl 8 (by decide) q1476 rfl dX12_number_10 ?_
    refine lv_iconst (v := 2) hx hb dX12_number_13 (by decide) ?_
    refine lv_icmp_eq (tgt := 24) hx hb dX12_number_14 (by decide) (fun k35 => ?_) (fun k35 => ?_)
    · have h36 := ib_eq k35
      have b37 : Bd v6 (2) (2) := ⟨((rf_eq b7 (by decide : Bd 2 (2) (2)) h36).1).1, ((rf_eq b7 (by decide : Bd 2 (2) (2)) h36).1).2⟩
      refine lv_aload_n hx hb dX12_number_24 rfl (lv_at hl 0 rfl) ?_
      refine xget E hQ 0 (by decide) c29 rfl 10 (by decide) q1478 rfl dX12_number_25 ?_
      refine lv_i2l hx hb dX12_number_28 rfl ?_
      refine lv_topl (fun w38 e39 => ?_)
      have t40 : w38.toInt = v9.toInt := by rw [e39]; exact i2l_i _
      have b41 : BdL w38 (-2147483648) (2147483647) := (by have h1 := ((ib_full v9)).1; have h2 := ((ib_full v9)).2; exact ⟨by omega, by omega⟩)
      refine lv_iload_n hx hb dX12_number_29 rfl (lv_at hl 1 rfl) ?_
      refine lv_i2l hx hb dX12_number_30 rfl ?_
      refine lv_topl (fun w42 e43 => ?_)
      have t44 : w42.toInt = a1.toInt := by rw [e43]; exact i2l_i _
      have b45 : BdL w42 (0) (0) := (by have h1 := (ba1).1; have h2 := (ba1).2; exact ⟨by omega, by omega⟩)
      refine lv_iload_n hx hb dX12_number_31 rfl (lv_at hl 2 rfl) ?_
      refine lv_i2l hx hb dX12_number_32 rfl ?_
      refine lv_topl (fun w46 e47 => ?_)
      have t48 : w46.toInt = a2.toInt := by rw [e47]; exact i2l_i _
      have b49 : BdL w46 (99) (99) := (by have h1 := (ba2).1; have h2 := (ba2).2; exact ⟨by omega, by omega⟩)
      refine xcSi E hs hQ hml hl.1 (gX12_in l g ad hD S hI w38 w42 w46) mX12_in q1591 rfl ⟨(Nat.le_of_ble_eq_true rfl), (Nat.le_of_ble_eq_true rfl)⟩ ⟨(Nat.le_of_ble_eq_true rfl), (Nat.le_of_ble_eq_true rfl)⟩ (Nat.le_of_ble_eq_true rfl) rfl dX12_number_33 (fun r50 S50 H locs hp50 hQ => ?_)
      obtain ⟨rfl, b50, g50_0, u50_0⟩ := hp50
      refine lv_if_ne (tgt := 46) hx hb dX12_number_36 (by decide) (fun k51 => ?_) (fun k51 => ?_)
      · have h52 := ib_ne k51
        have b53 : Bd r50 (1) (1) := rf_nlo b50 (by decide : Bd 0 (0) (0)) h52
        have g54 := g50_0.resolve_left (by omega)
        clear g50_0
        have b55 : BdL w38 (0) (99) := ⟨by omega, by omega⟩
        have b56 : Bd v9 (0) (99) := ⟨by omega, by omega⟩
        refine lv_aload_n hx hb dX12_number_46 rfl (lv_at hl 0 rfl) ?_
        refine xget E hQ 0 (by decide) c29 rfl 10 (by decide) q1478 rfl dX12_number_47 ?_
        refine lv_istore_n (lv' := [(3, .int v9), (0, .ref (ad 0)), (1, .int a1), (2, .int a2)]) hx hb dX12_number_50 rfl hl (by decide) rfl (fun ls hl => ?_)
        refine lv_aload_n hx hb dX12_number_51 rfl (lv_at hl 1 rfl) ?_
        refine xcVv E hs hQ hml hl.1 0 (gX12_next_0 l g ad hD S hI (by omega)) mX12_next q1637 (by decide) c29 rfl rfl ⟨(Nat.le_of_ble_eq_true rfl), (Nat.le_of_ble_eq_true rfl)⟩ ⟨(Nat.le_of_ble_eq_true rfl), (Nat.le_of_ble_eq_true rfl)⟩ (Nat.le_of_ble_eq_true rfl) rfl dX12_number_52 (fun S57 H locs hp57 hQ _ => ?_)
        obtain ⟨hI, o57, g57_0, g57_1, g57_2, g57_3, g57_4⟩ := hp57
        obtain ⟨v58, v59, v61, v63, v65, v66, w67, v68, v70, v71, v72, v73, v75, v77, v79, v81, v83, v84, v85, c86, b60, b62, b64, b69, b74, b76, b78, b80, b82⟩ := invM_0 hI
        have c86 : S57 0 = .inr (12, [.int v58, .ref (ad 1), .ref (ad 2), .ref (ad 3), .ref (ad 4), .ref (ad 5), .int v59, .int v61, .int v63, .int v65, .int v66, .long w67, .int v68, .int v70, .int v71, .int v72, .ref (ad 6), .ref (ad 7), .ref (ad 8), .ref (ad 9), .ref (ad 10), .ref (ad 11), .ref (ad 12), .ref (ad 13), .ref (ad 14), .ref (ad 15), .int v73, .int v75, .ref (ad 16), .int v77, .int v79, .int v81, .int v83, .int v84, .ref (ad 17), .ref (ad 18), .int v85, .ref (ad 19)]) := c86
        have q87 : fld (S57 0) 6 = v59.toInt := fld_of c86 rfl
        have q88 : fld (S57 0) 7 = v61.toInt := fld_of c86 rfl
        have q89 : fld (S 0) 12 = v11.toInt := fld_of c29 rfl
        have q90 : fld (S57 0) 12 = v68.toInt := fld_of c86 rfl
        have b91 : Bd v68 (0) (0) := ⟨(b69).1, by omega⟩
        have q92 : fld (S57 0) 8 = v63.toInt := fld_of c86 rfl
        refine lv_iload_n hx hb dX12_number_55 rfl (lv_at hl 0 rfl) ?_
        have q93 : fld (S 0) 8 = v6.toInt := fld_of c29 rfl
        exact xri E hr hlk hQ (⟨hI, (o_trans o_refl o57 (by decide)), b56, (by omega), ⟨by omega, by omega⟩, (by omega)⟩) dX12_number_56
      · have h94 := ib_eq k51
        have b95 : Bd r50 (0) (0) := ⟨(b50).1, ((rf_eq b50 (by decide : Bd 0 (0) (0)) h94).1).2⟩
        clear g50_0
        refine lv_aload_n hx hb dX12_number_39 rfl (lv_at hl 0 rfl) ?_
        refine lv_iconst (v := 2) hx hb dX12_number_40 (by decide) ?_
        refine xcVv E hs hQ hml hl.1 0 (gX12_fails_0 l g ad hD S hI 2 (ib_wk (by decide : Bd 2 (2) (2)) (by decide) (by decide))) mX12_fails q1667 (by decide) c29 rfl rfl ⟨(Nat.le_of_ble_eq_true rfl), (Nat.le_of_ble_eq_true rfl)⟩ ⟨(Nat.le_of_ble_eq_true rfl), (Nat.le_of_ble_eq_true rfl)⟩ (Nat.le_of_ble_eq_true rfl) rfl dX12_number_41 (fun S96 H locs hp96 hQ _ => ?_)
        obtain ⟨hI, o96, g96_0, g96_1, g96_2, g96_3⟩ := hp96
        obtain ⟨v97, v98, v100, v102, v104, v105, w106, v107, v109, v110, v111, v112, v114, v116, v118, v120, v122, v123, v124, c125, b99, b101, b103, b108, b113, b115, b117, b119, b121⟩ := invM_0 hI
        have c125 : S96 0 = .inr (12, [.int v97, .ref (ad 1), .ref (ad 2), .ref (ad 3), .ref (ad 4), .ref (ad 5), .int v98, .int v100, .int v102, .int v104, .int v105, .long w106, .int v107, .int v109, .int v110, .int v111, .ref (ad 6), .ref (ad 7), .ref (ad 8), .ref (ad 9), .ref (ad 10), .ref (ad 11), .ref (ad 12), .ref (ad 13), .ref (ad 14), .ref (ad 15), .int v112, .int v114, .ref (ad 16), .int v116, .int v118, .int v120, .int v122, .int v123, .ref (ad 17), .ref (ad 18), .int v124, .ref (ad 19)]) := c125
        have q126 : fld (S96 0) 12 = v107.toInt := fld_of c125 rfl
        have b127 : Bd v107 (1) (3) := ⟨by omega, (b108).2⟩
        have q128 : fld (S96 0) 6 = v98.toInt := fld_of c125 rfl
        have q129 : fld (S96 0) 7 = v100.toInt := fld_of c125 rfl
        have q130 : fld (S 0) 8 = v6.toInt := fld_of c29 rfl
        have q131 : fld (S96 0) 8 = v102.toInt := fld_of c125 rfl
        have b132 : Bd v102 (2) (2) := ⟨by omega, by omega⟩
        refine lv_iload_n hx hb dX12_number_44 rfl (lv_at hl 1 rfl) ?_
        exact xri E hr hlk hQ (⟨hI, (o_trans o_refl o96 (by decide)), (ib_wk ba1 (by decide) (by decide)), (by omega), ⟨by omega, by omega⟩, (by omega)⟩) dX12_number_45
    · have h133 := ib_ne k35
      refine lv_aload_n hx hb dX12_number_17 rfl (lv_at hl 0 rfl) ?_
      refine lv_iconst (v := 1) hx hb dX12_number_18 (by decide) ?_
      refine xcVv E hs hQ hml hl.1 0 (gX12_fails_0 l g ad hD S hI 1 (ib_wk (by decide : Bd 1 (1) (1)) (by decide) (by decide))) mX12_fails q1667 (by decide) c29 rfl rfl ⟨(Nat.le_of_ble_eq_true rfl), (Nat.le_of_ble_eq_true rfl)⟩ ⟨(Nat.le_of_ble_eq_true rfl), (Nat.le_of_ble_eq_true rfl)⟩ (Nat.le_of_ble_eq_true rfl) rfl dX12_number_19 (fun S134 H locs hp134 hQ _ => ?_)
      obtain ⟨hI, o134, g134_0, g134_1, g134_2, g134_3⟩ := hp134
      obtain ⟨v135, v136, v138, v140, v142, v143, w144, v145, v147, v148, v149, v150, v152, v154, v156, v158, v160, v161, v162, c163, b137, b139, b141, b146, b151, b153, b155, b157, b159⟩ := invM_0 hI
      have c163 : S134 0 = .inr (12, [.int v135, .ref (ad 1), .ref (ad 2), .ref (ad 3), .ref (ad 4), .ref (ad 5), .int v136, .int v138, .int v140, .int v142, .int v143, .long w144, .int v145, .int v147, .int v148, .int v149, .ref (ad 6), .ref (ad 7), .ref (ad 8), .ref (ad 9), .ref (ad 10), .ref (ad 11), .ref (ad 12), .ref (ad 13), .ref (ad 14), .ref (ad 15), .int v150, .int v152, .ref (ad 16), .int v154, .int v156, .int v158, .int v160, .int v161, .ref (ad 17), .ref (ad 18), .int v162, .ref (ad 19)]) := c163
      have q164 : fld (S134 0) 12 = v145.toInt := fld_of c163 rfl
      have b165 : Bd v145 (1) (3) := ⟨by omega, (b146).2⟩
      have q166 : fld (S134 0) 6 = v136.toInt := fld_of c163 rfl
      have q167 : fld (S134 0) 7 = v138.toInt := fld_of c163 rfl
      have q168 : fld (S 0) 8 = v6.toInt := fld_of c29 rfl
      have q169 : fld (S134 0) 8 = v140.toInt := fld_of c163 rfl
      refine lv_iload_n hx hb dX12_number_22 rfl (lv_at hl 1 rfl) ?_
      exact xri E hr hlk hQ (⟨hI, (o_trans o_refl o134 (by decide)), (ib_wk ba1 (by decide) (by decide)), (by omega), ⟨by omega, by omega⟩, (by omega)⟩) dX12_number_23
  · have h170 := ib_ne k32
    have b171 : Bd v11 (1) (3) := rf_nlo b12 (by decide : Bd 0 (0) (0)) h170
    refine lv_iload_n hx hb dX12_number_7 rfl (lv_at hl 1 rfl) ?_
    have q172 : fld (S 0) 8 = v6.toInt := fld_of c29 rfl
    exact xri E hr hlk hQ (⟨hI, o_refl, (ib_wk ba1 (by decide) (by decide)), (by omega), ⟨by omega, by omega⟩, (by omega)⟩) dX12_number_8
set_option maxHeartbeats 4000000 in
set_option maxRecDepth 100000 in
theorem gX12_number_7 (l : Launch) (g : GG) (ad : Nat → Nat) (hD : Dj ad 20) (S : SS) (hI : InvM g ad S) (a1 : Int32) (a2 : Int32) (ba1 : Bd a1 (0) (0)) (ba2 : Bd a2 (5) (5)) (hq1 : 0 ≤ fld (S 0) 6 + (-1) * fld (S 0) 7) : Met l yX12_number (wG (.code yX12_number cX12_number 4 (some .int))) (Rm 2) (XPre g ad 20 S [.ref (ad 0), .int a1, .int a2]) (va_Qi (fun r S' => InvM g ad S' ∧ (∀ j, j ∉ ([0] : List Nat) → S' j = S j) ∧ Bd r (0) (5) ∧ (0 ≤ fld (S' 0) 6 + (-1) * fld (S' 0) 7) ∧ (0 ≤ fld (S 0) 6 + (-1) * fld (S' 0) 6 ∧ 0 ≤ fld (S' 0) 6 + (-1) * fld (S 0) 6) ∧ (0 ≤ 4 * fld (S 0) 6 + (-4) * fld (S 0) 7 + fld (S 0) 8 + (-4) * fld (S' 0) 6 + 4 * fld (S' 0) 7 + (-1) * fld (S' 0) 8)) (QB g ad 20) (FA ad 20)) 0 0 (FA ad 20) := by
  refine xmet cX12_number "EbbWreckModel" (by decide) rfl (Nat.le_of_ble_eq_true rfl) (fun p e s m below meth c E hr hlk hml hQ ls hl => ?_)
  have hx := E.1
  have hb := E.2.1
  have hs : Sp ad 20 (FA ad 20) := Sp.fa hD
  have hl : lv_has ls 4 [(0, .ref (ad 0)), (1, .int a1), (2, .int a2)] := hl
  obtain ⟨v1, v2, v4, v6, v8, v9, w10, v11, v13, v14, v15, v16, v18, v20, v22, v24, v26, v27, v28, c29, b3, b5, b7, b12, b17, b19, b21, b23, b25⟩ := invM_0 hI
  have c29 : S 0 = .inr (12, [.int v1, .ref (ad 1), .ref (ad 2), .ref (ad 3), .ref (ad 4), .ref (ad 5), .int v2, .int v4, .int v6, .int v8, .int v9, .long w10, .int v11, .int v13, .int v14, .int v15, .ref (ad 6), .ref (ad 7), .ref (ad 8), .ref (ad 9), .ref (ad 10), .ref (ad 11), .ref (ad 12), .ref (ad 13), .ref (ad 14), .ref (ad 15), .int v16, .int v18, .ref (ad 16), .int v20, .int v22, .int v24, .int v26, .int v27, .ref (ad 17), .ref (ad 18), .int v28, .ref (ad 19)]) := c29
  have q30 : fld (S 0) 6 = v2.toInt := fld_of c29 rfl
  have q31 : fld (S 0) 7 = v4.toInt := fld_of c29 rfl
  refine lv_aload_n hx hb dX12_number_0 rfl (lv_at hl 0 rfl) ?_
  refine xget E hQ 0 (by decide) c29 rfl 12 (by decide) q1480 rfl dX12_number_1 ?_
  refine lv_if_eq (tgt := 9) hx hb dX12_number_4 (by decide) (fun k32 => ?_) (fun k32 => ?_)
  · have h33 := ib_eq k32
    have b34 : Bd v11 (0) (0) := ⟨(b12).1, ((rf_eq b12 (by decide : Bd 0 (0) (0)) h33).1).2⟩
    refine lv_aload_n hx hb dX12_number_9 rfl (lv_at hl 0 rfl) ?_
    refine xget E hQ 0 (by decide) c29 rfl 8 (by decide) q1476 rfl dX12_number_10 ?_
    refine lv_iconst (v := 2) hx hb dX12_number_13 (by decide) ?_
    refine lv_icmp_eq (tgt := 24) hx hb dX12_number_14 (by decide) (fun k35 => ?_) (fun k35 => ?_)
    · have h36 := ib_eq k35
      have b37 : Bd v6 (2) (2) := ⟨((rf_eq b7 (by decide : Bd 2 (2) (2)) h36).1).1, ((rf_eq b7 (by decide : Bd 2 (2) (2)) h36).1).2⟩
      refine lv_aload_n hx hb dX12_number_24 rfl (lv_at hl 0 rfl) ?_
      refine xget E hQ 0 (by decide) c29 rfl 10 (by decide) q1478 rfl dX12_number_25 ?_
      refine lv_i2l hx hb dX12_number_28 rfl ?_
      refine lv_topl (fun w38 e39 => ?_)
      have t40 : w38.toInt = v9.toInt := by rw [e39]; exact i2l_i _
      have b41 : BdL w38 (-2147483648) (2147483647) := (by have h1 := ((ib_full v9)).1; have h2 := ((ib_full v9)).2; exact ⟨by omega, by omega⟩)
      refine lv_iload_n hx hb dX12_number_29 rfl (lv_at hl 1 rfl) ?_
      refine lv_i2l hx hb dX12_number_30 rfl ?_
      refine lv_topl (fun w42 e43 => ?_)
      have t44 : w42.toInt = a1.toInt := by rw [e43]; exact i2l_i _
      have b45 : BdL w42 (0) (0) := (by have h1 := (ba1).1; have h2 := (ba1).2; exact ⟨by omega, by omega⟩)
      refine lv_iload_n hx hb dX12_number_31 rfl (lv_at hl 2 rfl) ?_
      refine lv_i2l hx hb dX12_number_32 rfl ?_
      refine lv_topl (fun w46 e47 => ?_)
      have t48 : w46.toInt = a2.toInt := by rw [e47]; exact i2l_i _
      have b49 : BdL w46 (5) (5) := (by have h1 := (ba2).1; have h2 := (ba2).2; exact ⟨by omega, by omega⟩)
      refine xcSi E hs hQ hml hl.1 (gX12_in l g ad hD S hI w38 w42 w46) mX12_in q1591 rfl ⟨(Nat.le_of_ble_eq_true rfl), (Nat.le_of_ble_eq_true rfl)⟩ ⟨(Nat.le_of_ble_eq_true rfl), (Nat.le_of_ble_eq_true rfl)⟩ (Nat.le_of_ble_eq_true rfl) rfl dX12_number_33 (fun r50 S50 H locs hp50 hQ => ?_)
      obtain ⟨rfl, b50, g50_0, u50_0⟩ := hp50
      refine lv_if_ne (tgt := 46) hx hb dX12_number_36 (by decide) (fun k51 => ?_) (fun k51 => ?_)
      · have h52 := ib_ne k51
        have b53 : Bd r50 (1) (1) := rf_nlo b50 (by decide : Bd 0 (0) (0)) h52
        have g54 := g50_0.resolve_left (by omega)
        clear g50_0
        have b55 : BdL w38 (0) (5) := ⟨by omega, by omega⟩
        have b56 : Bd v9 (0) (5) := ⟨by omega, by omega⟩
        refine lv_aload_n hx hb dX12_number_46 rfl (lv_at hl 0 rfl) ?_
        refine xget E hQ 0 (by decide) c29 rfl 10 (by decide) q1478 rfl dX12_number_47 ?_
        refine lv_istore_n (lv' := [(3, .int v9), (0, .ref (ad 0)), (1, .int a1), (2, .int a2)]) hx hb dX12_number_50 rfl hl (by decide) rfl (fun ls hl => ?_)
        refine lv_aload_n hx hb dX12_number_51 rfl (lv_at hl 1 rfl) ?_
        refine xcVv E hs hQ hml hl.1 0 (gX12_next_0 l g ad hD S hI (by omega)) mX12_next q1637 (by decide) c29 rfl rfl ⟨(Nat.le_of_ble_eq_true rfl), (Nat.le_of_ble_eq_true rfl)⟩ ⟨(Nat.le_of_ble_eq_true rfl), (Nat.le_of_ble_eq_true rfl)⟩ (Nat.le_of_ble_eq_true rfl) rfl dX12_number_52 (fun S57 H locs hp57 hQ _ => ?_)
        obtain ⟨hI, o57, g57_0, g57_1, g57_2, g57_3, g57_4⟩ := hp57
        obtain ⟨v58, v59, v61, v63, v65, v66, w67, v68, v70, v71, v72, v73, v75, v77, v79, v81, v83, v84, v85, c86, b60, b62, b64, b69, b74, b76, b78, b80, b82⟩ := invM_0 hI
        have c86 : S57 0 = .inr (12, [.int v58, .ref (ad 1), .ref (ad 2), .ref (ad 3), .ref (ad 4), .ref (ad 5), .int v59, .int v61, .int v63, .int v65, .int v66, .long w67, .int v68, .int v70, .int v71, .int v72, .ref (ad 6), .ref (ad 7), .ref (ad 8), .ref (ad 9), .ref (ad 10), .ref (ad 11), .ref (ad 12), .ref (ad 13), .ref (ad 14), .ref (ad 15), .int v73, .int v75, .ref (ad 16), .int v77, .int v79, .int v81, .int v83, .int v84, .ref (ad 17), .ref (ad 18), .int v85, .ref (ad 19)]) := c86
        have q87 : fld (S57 0) 6 = v59.toInt := fld_of c86 rfl
        have q88 : fld (S57 0) 7 = v61.toInt := fld_of c86 rfl
        have q89 : fld (S 0) 12 = v11.toInt := fld_of c29 rfl
        have q90 : fld (S57 0) 12 = v68.toInt := fld_of c86 rfl
        have b91 : Bd v68 (0) (0) := ⟨(b69).1, by omega⟩
        have q92 : fld (S57 0) 8 = v63.toInt := fld_of c86 rfl
        refine lv_iload_n hx hb dX12_number_55 rfl (lv_at hl 0 rfl) ?_
        have q93 : fld (S 0) 8 = v6.toInt := fld_of c29 rfl
        exact xri E hr hlk hQ (⟨hI, (o_trans o_refl o57 (by decide)), b56, (by omega), ⟨by omega, by omega⟩, (by omega)⟩) dX12_number_56
      · have h94 := ib_eq k51
        have b95 : Bd r50 (0) (0) := ⟨(b50).1, ((rf_eq b50 (by decide : Bd 0 (0) (0)) h94).1).2⟩
        clear g50_0
        refine lv_aload_n hx hb dX12_number_39 rfl (lv_at hl 0 rfl) ?_
        refine lv_iconst (v := 2) hx hb dX12_number_40 (by decide) ?_
        refine xcVv E hs hQ hml hl.1 0 (gX12_fails_0 l g ad hD S hI 2 (ib_wk (by decide : Bd 2 (2) (2)) (by decide) (by decide))) mX12_fails q1667 (by decide) c29 rfl rfl ⟨(Nat.le_of_ble_eq_true rfl), (Nat.le_of_ble_eq_true rfl)⟩ ⟨(Nat.le_of_ble_eq_true rfl), (Nat.le_of_ble_eq_true rfl)⟩ (Nat.le_of_ble_eq_true rfl) rfl dX12_number_41 (fun S96 H locs hp96 hQ _ => ?_)
        obtain ⟨hI, o96, g96_0, g96_1, g96_2, g96_3⟩ := hp96
        obtain ⟨v97, v98, v100, v102, v104, v105, w106, v107, v109, v110, v111, v112, v114, v116, v118, v120, v122, v123, v124, c125, b99, b101, b103, b108, b113, b115, b117, b119, b121⟩ := invM_0 hI
        have c125 : S96 0 = .inr (12, [.int v97, .ref (ad 1), .ref (ad 2), .ref (ad 3), .ref (ad 4), .ref (ad 5), .int v98, .int v100, .int v102, .int v104, .int v105, .long w106, .int v107, .int v109, .int v110, .int v111, .ref (ad 6), .ref (ad 7), .ref (ad 8), .ref (ad 9), .ref (ad 10), .ref (ad 11), .ref (ad 12), .ref (ad 13), .ref (ad 14), .ref (ad 15), .int v112, .int v114, .ref (ad 16), .int v116, .int v118, .int v120, .int v122, .int v123, .ref (ad 17), .ref (ad 18), .int v124, .ref (ad 19)]) := c125
        have q126 : fld (S96 0) 12 = v107.toInt := fld_of c125 rfl
        have b127 : Bd v107 (1) (3) := ⟨by omega, (b108).2⟩
        have q128 : fld (S96 0) 6 = v98.toInt := fld_of c125 rfl
        have q129 : fld (S96 0) 7 = v100.toInt := fld_of c125 rfl
        have q130 : fld (S 0) 8 = v6.toInt := fld_of c29 rfl
        have q131 : fld (S96 0) 8 = v102.toInt := fld_of c125 rfl
        have b132 : Bd v102 (2) (2) := ⟨by omega, by omega⟩
        refine lv_iload_n hx hb dX12_number_44 rfl (lv_at hl 1 rfl) ?_
        exact xri E hr hlk hQ (⟨hI, (o_trans o_refl o96 (by decide)), (ib_wk ba1 (by decide) (by decide)), (by omega), ⟨by omega, by omega⟩, (by omega)⟩) dX12_number_45
    · have h133 := ib_ne k35
      refine lv_aload_n hx hb dX12_number_17 rfl (lv_at hl 0 rfl) ?_
      refine lv_iconst (v := 1) hx hb dX12_number_18 (by decide) ?_
      refine xcVv E hs hQ hml hl.1 0 (gX12_fails_0 l g ad hD S hI 1 (ib_wk (by decide : Bd 1 (1) (1)) (by decide) (by decide))) mX12_fails q1667 (by decide) c29 rfl rfl ⟨(Nat.le_of_ble_eq_true rfl), (Nat.le_of_ble_eq_true rfl)⟩ ⟨(Nat.le_of_ble_eq_true rfl), (Nat.le_of_ble_eq_true rfl)⟩ (Nat.le_of_ble_eq_true rfl) rfl dX12_number_19 (fun S134 H locs hp134 hQ _ => ?_)
      obtain ⟨hI, o134, g134_0, g134_1, g134_2, g134_3⟩ := hp134
      obtain ⟨v135, v136, v138, v140, v142, v143, w144, v145, v147, v148, v149, v150, v152, v154, v156, v158, v160, v161, v162, c163, b137, b139, b141, b146, b151, b153, b155, b157, b159⟩ := invM_0 hI
      have c163 : S134 0 = .inr (12, [.int v135, .ref (ad 1), .ref (ad 2), .ref (ad 3), .ref (ad 4), .ref (ad 5), .int v136, .int v138, .int v140, .int v142, .int v143, .long w144, .int v145, .int v147, .int v148, .int v149, .ref (ad 6), .ref (ad 7), .ref (ad 8), .ref (ad 9), .ref (ad 10), .ref (ad 11), .ref (ad 12), .ref (ad 13), .ref (ad 14), .ref (ad 15), .int v150, .int v152, .ref (ad 16), .int v154, .int v156, .int v158, .int v160, .int v161, .ref (ad 17), .ref (ad 18), .int v162, .ref (ad 19)]) := c163
      have q164 : fld (S134 0) 12 = v145.toInt := fld_of c163 rfl
      have b165 : Bd v145 (1) (3) := ⟨by omega, (b146).2⟩
      have q166 : fld (S134 0) 6 = v136.toInt := fld_of c163 rfl
      have q167 : fld (S134 0) 7 = v138.toInt := fld_of c163 rfl
      have q168 : fld (S 0) 8 = v6.toInt := fld_of c29 rfl
      have q169 : fld (S134 0) 8 = v140.toInt := fld_of c163 rfl
      refine lv_iload_n hx hb dX12_number_22 rfl (lv_at hl 1 rfl) ?_
      exact xri E hr hlk hQ (⟨hI, (o_trans o_refl o134 (by decide)), (ib_wk ba1 (by decide) (by decide)), (by omega), ⟨by omega, by omega⟩, (by omega)⟩) dX12_number_23
  · have h170 := ib_ne k32
    have b171 : Bd v11 (1) (3) := rf_nlo b12 (by decide : Bd 0 (0) (0)) h170
    refine lv_iload_n hx hb dX12_number_7 rfl (lv_at hl 1 rfl) ?_
    have q172 : fld (S 0) 8 = v6.toInt := fld_of c29 rfl
    exact xri E hr hlk hQ (⟨hI, o_refl, (ib_wk ba1 (by decide) (by decide)), (by omega), ⟨by omega, by omega⟩, (by omega)⟩) dX12_number_8
set_option maxHeartbeats 4000000 in
set_option maxRecDepth 100000 in
theorem gX12_number_8 (l : Launch) (g : GG) (ad : Nat → Nat) (hD : Dj ad 20) (S : SS) (hI : InvM g ad S) (a1 : Int32) (a2 : Int32) (ba1 : Bd a1 (0) (0)) (ba2 : Bd a2 (-1) (11)) (hq1 : 0 ≤ fld (S 0) 6 + (-1) * fld (S 0) 7) (hq2 : 0 ≤ a2.toInt) : Met l yX12_number (wG (.code yX12_number cX12_number 4 (some .int))) (Rm 2) (XPre g ad 20 S [.ref (ad 0), .int a1, .int a2]) (va_Qi (fun r S' => InvM g ad S' ∧ (∀ j, j ∉ ([0] : List Nat) → S' j = S j) ∧ Bd r (0) (11) ∧ (0 ≤ fld (S' 0) 6 + (-1) * fld (S' 0) 7) ∧ (0 ≤ fld (S 0) 6 + (-1) * fld (S' 0) 6 ∧ 0 ≤ fld (S' 0) 6 + (-1) * fld (S 0) 6) ∧ (0 ≤ 4 * fld (S 0) 6 + (-4) * fld (S 0) 7 + fld (S 0) 8 + (-4) * fld (S' 0) 6 + 4 * fld (S' 0) 7 + (-1) * fld (S' 0) 8) ∧ (0 ≤ a2.toInt + (-1) * r.toInt)) (QB g ad 20) (FA ad 20)) 0 0 (FA ad 20) := by
  refine xmet cX12_number "EbbWreckModel" (by decide) rfl (Nat.le_of_ble_eq_true rfl) (fun p e s m below meth c E hr hlk hml hQ ls hl => ?_)
  have hx := E.1
  have hb := E.2.1
  have hs : Sp ad 20 (FA ad 20) := Sp.fa hD
  have hl : lv_has ls 4 [(0, .ref (ad 0)), (1, .int a1), (2, .int a2)] := hl
  obtain ⟨v1, v2, v4, v6, v8, v9, w10, v11, v13, v14, v15, v16, v18, v20, v22, v24, v26, v27, v28, c29, b3, b5, b7, b12, b17, b19, b21, b23, b25⟩ := invM_0 hI
  have c29 : S 0 = .inr (12, [.int v1, .ref (ad 1), .ref (ad 2), .ref (ad 3), .ref (ad 4), .ref (ad 5), .int v2, .int v4, .int v6, .int v8, .int v9, .long w10, .int v11, .int v13, .int v14, .int v15, .ref (ad 6), .ref (ad 7), .ref (ad 8), .ref (ad 9), .ref (ad 10), .ref (ad 11), .ref (ad 12), .ref (ad 13), .ref (ad 14), .ref (ad 15), .int v16, .int v18, .ref (ad 16), .int v20, .int v22, .int v24, .int v26, .int v27, .ref (ad 17), .ref (ad 18), .int v28, .ref (ad 19)]) := c29
  have q30 : fld (S 0) 6 = v2.toInt := fld_of c29 rfl
  have q31 : fld (S 0) 7 = v4.toInt := fld_of c29 rfl
  have b32 : Bd a2 (0) (11) := ⟨by omega, (ba2).2⟩
  refine lv_aload_n hx hb dX12_number_0 rfl (lv_at hl 0 rfl) ?_
  refine xget E hQ 0 (by decide) c29 rfl 12 (by decide) q1480 rfl dX12_number_1 ?_
  refine lv_if_eq (tgt := 9) hx hb dX12_number_4 (by decide) (fun k33 => ?_) (fun k33 => ?_)
  · have h34 := ib_eq k33
    have b35 : Bd v11 (0) (0) := ⟨(b12).1, ((rf_eq b12 (by decide : Bd 0 (0) (0)) h34).1).2⟩
    refine lv_aload_n hx hb dX12_number_9 rfl (lv_at hl 0 rfl) ?_
    refine xget E hQ 0 (by decide) c29 rfl 8 (by decide) q1476 rfl dX12_number_10 ?_
    refine lv_iconst (v := 2) hx hb dX12_number_13 (by decide) ?_
    refine lv_icmp_eq (tgt := 24) hx hb dX12_number_14 (by decide) (fun k36 => ?_) (fun k36 => ?_)
    · have h37 := ib_eq k36
      have b38 : Bd v6 (2) (2) := ⟨((rf_eq b7 (by decide : Bd 2 (2) (2)) h37).1).1, ((rf_eq b7 (by decide : Bd 2 (2) (2)) h37).1).2⟩
      refine lv_aload_n hx hb dX12_number_24 rfl (lv_at hl 0 rfl) ?_
      refine xget E hQ 0 (by decide) c29 rfl 10 (by decide) q1478 rfl dX12_number_25 ?_
      refine lv_i2l hx hb dX12_number_28 rfl ?_
      refine lv_topl (fun w39 e40 => ?_)
      have t41 : w39.toInt = v9.toInt := by rw [e40]; exact i2l_i _
      have b42 : BdL w39 (-2147483648) (2147483647) := (by have h1 := ((ib_full v9)).1; have h2 := ((ib_full v9)).2; exact ⟨by omega, by omega⟩)
      refine lv_iload_n hx hb dX12_number_29 rfl (lv_at hl 1 rfl) ?_
      refine lv_i2l hx hb dX12_number_30 rfl ?_
      refine lv_topl (fun w43 e44 => ?_)
      have t45 : w43.toInt = a1.toInt := by rw [e44]; exact i2l_i _
      have b46 : BdL w43 (0) (0) := (by have h1 := (ba1).1; have h2 := (ba1).2; exact ⟨by omega, by omega⟩)
      refine lv_iload_n hx hb dX12_number_31 rfl (lv_at hl 2 rfl) ?_
      refine lv_i2l hx hb dX12_number_32 rfl ?_
      refine lv_topl (fun w47 e48 => ?_)
      have t49 : w47.toInt = a2.toInt := by rw [e48]; exact i2l_i _
      have b50 : BdL w47 (0) (11) := (by have h1 := (b32).1; have h2 := (b32).2; exact ⟨by omega, by omega⟩)
      refine xcSi E hs hQ hml hl.1 (gX12_in l g ad hD S hI w39 w43 w47) mX12_in q1591 rfl ⟨(Nat.le_of_ble_eq_true rfl), (Nat.le_of_ble_eq_true rfl)⟩ ⟨(Nat.le_of_ble_eq_true rfl), (Nat.le_of_ble_eq_true rfl)⟩ (Nat.le_of_ble_eq_true rfl) rfl dX12_number_33 (fun r51 S51 H locs hp51 hQ => ?_)
      obtain ⟨rfl, b51, g51_0, u51_0⟩ := hp51
      refine lv_if_ne (tgt := 46) hx hb dX12_number_36 (by decide) (fun k52 => ?_) (fun k52 => ?_)
      · have h53 := ib_ne k52
        have b54 : Bd r51 (1) (1) := rf_nlo b51 (by decide : Bd 0 (0) (0)) h53
        have g55 := g51_0.resolve_left (by omega)
        clear g51_0
        have b56 : BdL w39 (0) (11) := ⟨by omega, by omega⟩
        have b57 : Bd v9 (0) (11) := ⟨by omega, by omega⟩
        refine lv_aload_n hx hb dX12_number_46 rfl (lv_at hl 0 rfl) ?_
        refine xget E hQ 0 (by decide) c29 rfl 10 (by decide) q1478 rfl dX12_number_47 ?_
        refine lv_istore_n (lv' := [(3, .int v9), (0, .ref (ad 0)), (1, .int a1), (2, .int a2)]) hx hb dX12_number_50 rfl hl (by decide) rfl (fun ls hl => ?_)
        refine lv_aload_n hx hb dX12_number_51 rfl (lv_at hl 1 rfl) ?_
        refine xcVv E hs hQ hml hl.1 0 (gX12_next_0 l g ad hD S hI (by omega)) mX12_next q1637 (by decide) c29 rfl rfl ⟨(Nat.le_of_ble_eq_true rfl), (Nat.le_of_ble_eq_true rfl)⟩ ⟨(Nat.le_of_ble_eq_true rfl), (Nat.le_of_ble_eq_true rfl)⟩ (Nat.le_of_ble_eq_true rfl) rfl dX12_number_52 (fun S58 H locs hp58 hQ _ => ?_)
        obtain ⟨hI, o58, g58_0, g58_1, g58_2, g58_3, g58_4⟩ := hp58
        obtain ⟨v59, v60, v62, v64, v66, v67, w68, v69, v71, v72, v73, v74, v76, v78, v80, v82, v84, v85, v86, c87, b61, b63, b65, b70, b75, b77, b79, b81, b83⟩ := invM_0 hI
        have c87 : S58 0 = .inr (12, [.int v59, .ref (ad 1), .ref (ad 2), .ref (ad 3), .ref (ad 4), .ref (ad 5), .int v60, .int v62, .int v64, .int v66, .int v67, .long w68, .int v69, .int v71, .int v72, .int v73, .ref (ad 6), .ref (ad 7), .ref (ad 8), .ref (ad 9), .ref (ad 10), .ref (ad 11), .ref (ad 12), .ref (ad 13), .ref (ad 14), .ref (ad 15), .int v74, .int v76, .ref (ad 16), .int v78, .int v80, .int v82, .int v84, .int v85, .ref (ad 17), .ref (ad 18), .int v86, .ref (ad 19)]) := c87
        have q88 : fld (S58 0) 6 = v60.toInt := fld_of c87 rfl
        have q89 : fld (S58 0) 7 = v62.toInt := fld_of c87 rfl
        have q90 : fld (S 0) 12 = v11.toInt := fld_of c29 rfl
        have q91 : fld (S58 0) 12 = v69.toInt := fld_of c87 rfl
        have b92 : Bd v69 (0) (0) := ⟨(b70).1, by omega⟩
        have q93 : fld (S58 0) 8 = v64.toInt := fld_of c87 rfl
        refine lv_iload_n hx hb dX12_number_55 rfl (lv_at hl 0 rfl) ?_
        have q94 : fld (S 0) 8 = v6.toInt := fld_of c29 rfl
        exact xri E hr hlk hQ (⟨hI, (o_trans o_refl o58 (by decide)), b57, (by omega), ⟨by omega, by omega⟩, (by omega), (by omega)⟩) dX12_number_56
      · have h95 := ib_eq k52
        have b96 : Bd r51 (0) (0) := ⟨(b51).1, ((rf_eq b51 (by decide : Bd 0 (0) (0)) h95).1).2⟩
        clear g51_0
        refine lv_aload_n hx hb dX12_number_39 rfl (lv_at hl 0 rfl) ?_
        refine lv_iconst (v := 2) hx hb dX12_number_40 (by decide) ?_
        refine xcVv E hs hQ hml hl.1 0 (gX12_fails_0 l g ad hD S hI 2 (ib_wk (by decide : Bd 2 (2) (2)) (by decide) (by decide))) mX12_fails q1667 (by decide) c29 rfl rfl ⟨(Nat.le_of_ble_eq_true rfl), (Nat.le_of_ble_eq_true rfl)⟩ ⟨(Nat.le_of_ble_eq_true rfl), (Nat.le_of_ble_eq_true rfl)⟩ (Nat.le_of_ble_eq_true rfl) rfl dX12_number_41 (fun S97 H locs hp97 hQ _ => ?_)
        obtain ⟨hI, o97, g97_0, g97_1, g97_2, g97_3⟩ := hp97
        obtain ⟨v98, v99, v101, v103, v105, v106, w107, v108, v110, v111, v112, v113, v115, v117, v119, v121, v123, v124, v125, c126, b100, b102, b104, b109, b114, b116, b118, b120, b122⟩ := invM_0 hI
        have c126 : S97 0 = .inr (12, [.int v98, .ref (ad 1), .ref (ad 2), .ref (ad 3), .ref (ad 4), .ref (ad 5), .int v99, .int v101, .int v103, .int v105, .int v106, .long w107, .int v108, .int v110, .int v111, .int v112, .ref (ad 6), .ref (ad 7), .ref (ad 8), .ref (ad 9), .ref (ad 10), .ref (ad 11), .ref (ad 12), .ref (ad 13), .ref (ad 14), .ref (ad 15), .int v113, .int v115, .ref (ad 16), .int v117, .int v119, .int v121, .int v123, .int v124, .ref (ad 17), .ref (ad 18), .int v125, .ref (ad 19)]) := c126
        have q127 : fld (S97 0) 12 = v108.toInt := fld_of c126 rfl
        have b128 : Bd v108 (1) (3) := ⟨by omega, (b109).2⟩
        have q129 : fld (S97 0) 6 = v99.toInt := fld_of c126 rfl
        have q130 : fld (S97 0) 7 = v101.toInt := fld_of c126 rfl
        have q131 : fld (S 0) 8 = v6.toInt := fld_of c29 rfl
        have q132 : fld (S97 0) 8 = v103.toInt := fld_of c126 rfl
        have b133 : Bd v103 (2) (2) := ⟨by omega, by omega⟩
        refine lv_iload_n hx hb dX12_number_44 rfl (lv_at hl 1 rfl) ?_
        exact xri E hr hlk hQ (⟨hI, (o_trans o_refl o97 (by decide)), (ib_wk ba1 (by decide) (by decide)), (by omega), ⟨by omega, by omega⟩, (by omega), (by omega)⟩) dX12_number_45
    · have h134 := ib_ne k36
      refine lv_aload_n hx hb dX12_number_17 rfl (lv_at hl 0 rfl) ?_
      refine lv_iconst (v := 1) hx hb dX12_number_18 (by decide) ?_
      refine xcVv E hs hQ hml hl.1 0 (gX12_fails_0 l g ad hD S hI 1 (ib_wk (by decide : Bd 1 (1) (1)) (by decide) (by decide))) mX12_fails q1667 (by decide) c29 rfl rfl ⟨(Nat.le_of_ble_eq_true rfl), (Nat.le_of_ble_eq_true rfl)⟩ ⟨(Nat.le_of_ble_eq_true rfl), (Nat.le_of_ble_eq_true rfl)⟩ (Nat.le_of_ble_eq_true rfl) rfl dX12_number_19 (fun S135 H locs hp135 hQ _ => ?_)
      obtain ⟨hI, o135, g135_0, g135_1, g135_2, g135_3⟩ := hp135
      obtain ⟨v136, v137, v139, v141, v143, v144, w145, v146, v148, v149, v150, v151, v153, v155, v157, v159, v161, v162, v163, c164, b138, b140, b142, b147, b152, b154, b156, b158, b160⟩ := invM_0 hI
      have c164 : S135 0 = .inr (12, [.int v136, .ref (ad 1), .ref (ad 2), .ref (ad 3), .ref (ad 4), .ref (ad 5), .int v137, .int v139, .int v141, .int v143, .int v144, .long w145, .int v146, .int v148, .int v149, .int v150, .ref (ad 6), .ref (ad 7), .ref (ad 8), .ref (ad 9), .ref (ad 10), .ref (ad 11), .ref (ad 12), .ref (ad 13), .ref (ad 14), .ref (ad 15), .int v151, .int v153, .ref (ad 16), .int v155, .int v157, .int v159, .int v161, .int v162, .ref (ad 17), .ref (ad 18), .int v163, .ref (ad 19)]) := c164
      have q165 : fld (S135 0) 12 = v146.toInt := fld_of c164 rfl
      have b166 : Bd v146 (1) (3) := ⟨by omega, (b147).2⟩
      have q167 : fld (S135 0) 6 = v137.toInt := fld_of c164 rfl
      have q168 : fld (S135 0) 7 = v139.toInt := fld_of c164 rfl
      have q169 : fld (S 0) 8 = v6.toInt := fld_of c29 rfl
      have q170 : fld (S135 0) 8 = v141.toInt := fld_of c164 rfl
      refine lv_iload_n hx hb dX12_number_22 rfl (lv_at hl 1 rfl) ?_
      exact xri E hr hlk hQ (⟨hI, (o_trans o_refl o135 (by decide)), (ib_wk ba1 (by decide) (by decide)), (by omega), ⟨by omega, by omega⟩, (by omega), (by omega)⟩) dX12_number_23
  · have h171 := ib_ne k33
    have b172 : Bd v11 (1) (3) := rf_nlo b12 (by decide : Bd 0 (0) (0)) h171
    refine lv_iload_n hx hb dX12_number_7 rfl (lv_at hl 1 rfl) ?_
    have q173 : fld (S 0) 8 = v6.toInt := fld_of c29 rfl
    exact xri E hr hlk hQ (⟨hI, o_refl, (ib_wk ba1 (by decide) (by decide)), (by omega), ⟨by omega, by omega⟩, (by omega), (by omega)⟩) dX12_number_8
set_option maxHeartbeats 4000000 in
set_option maxRecDepth 100000 in
theorem gX12_number_9 (l : Launch) (g : GG) (ad : Nat → Nat) (hD : Dj ad 20) (S : SS) (hI : InvM g ad S) (a1 : Int32) (a2 : Int32) (ba2 : Bd a2 (-1) (11)) (hq1 : 0 ≤ fld (S 0) 6 + (-1) * fld (S 0) 7) : Met l yX12_number (wG (.code yX12_number cX12_number 4 (some .int))) (Rm 2) (XPre g ad 20 S [.ref (ad 0), .int a1, .int a2]) (va_Qi (fun _ S' => InvM g ad S' ∧ (∀ j, j ∉ ([0] : List Nat) → S' j = S j) ∧ (0 ≤ fld (S' 0) 6 + (-1) * fld (S' 0) 7) ∧ (0 ≤ fld (S 0) 6 + (-1) * fld (S' 0) 6 ∧ 0 ≤ fld (S' 0) 6 + (-1) * fld (S 0) 6) ∧ (0 ≤ 4 * fld (S 0) 6 + (-4) * fld (S 0) 7 + fld (S 0) 8 + (-4) * fld (S' 0) 6 + 4 * fld (S' 0) 7 + (-1) * fld (S' 0) 8)) (QB g ad 20) (FA ad 20)) 0 0 (FA ad 20) := by
  refine xmet cX12_number "EbbWreckModel" (by decide) rfl (Nat.le_of_ble_eq_true rfl) (fun p e s m below meth c E hr hlk hml hQ ls hl => ?_)
  have hx := E.1
  have hb := E.2.1
  have hs : Sp ad 20 (FA ad 20) := Sp.fa hD
  have hl : lv_has ls 4 [(0, .ref (ad 0)), (1, .int a1), (2, .int a2)] := hl
  obtain ⟨v1, v2, v4, v6, v8, v9, w10, v11, v13, v14, v15, v16, v18, v20, v22, v24, v26, v27, v28, c29, b3, b5, b7, b12, b17, b19, b21, b23, b25⟩ := invM_0 hI
  have c29 : S 0 = .inr (12, [.int v1, .ref (ad 1), .ref (ad 2), .ref (ad 3), .ref (ad 4), .ref (ad 5), .int v2, .int v4, .int v6, .int v8, .int v9, .long w10, .int v11, .int v13, .int v14, .int v15, .ref (ad 6), .ref (ad 7), .ref (ad 8), .ref (ad 9), .ref (ad 10), .ref (ad 11), .ref (ad 12), .ref (ad 13), .ref (ad 14), .ref (ad 15), .int v16, .int v18, .ref (ad 16), .int v20, .int v22, .int v24, .int v26, .int v27, .ref (ad 17), .ref (ad 18), .int v28, .ref (ad 19)]) := c29
  have q30 : fld (S 0) 6 = v2.toInt := fld_of c29 rfl
  have q31 : fld (S 0) 7 = v4.toInt := fld_of c29 rfl
  refine lv_aload_n hx hb dX12_number_0 rfl (lv_at hl 0 rfl) ?_
  refine xget E hQ 0 (by decide) c29 rfl 12 (by decide) q1480 rfl dX12_number_1 ?_
  refine lv_if_eq (tgt := 9) hx hb dX12_number_4 (by decide) (fun k32 => ?_) (fun k32 => ?_)
  · have h33 := ib_eq k32
    have b34 : Bd v11 (0) (0) := ⟨(b12).1, ((rf_eq b12 (by decide : Bd 0 (0) (0)) h33).1).2⟩
    refine lv_aload_n hx hb dX12_number_9 rfl (lv_at hl 0 rfl) ?_
    refine xget E hQ 0 (by decide) c29 rfl 8 (by decide) q1476 rfl dX12_number_10 ?_
    refine lv_iconst (v := 2) hx hb dX12_number_13 (by decide) ?_
    refine lv_icmp_eq (tgt := 24) hx hb dX12_number_14 (by decide) (fun k35 => ?_) (fun k35 => ?_)
    · have h36 := ib_eq k35
      have b37 : Bd v6 (2) (2) := ⟨((rf_eq b7 (by decide : Bd 2 (2) (2)) h36).1).1, ((rf_eq b7 (by decide : Bd 2 (2) (2)) h36).1).2⟩
      refine lv_aload_n hx hb dX12_number_24 rfl (lv_at hl 0 rfl) ?_
      refine xget E hQ 0 (by decide) c29 rfl 10 (by decide) q1478 rfl dX12_number_25 ?_
      refine lv_i2l hx hb dX12_number_28 rfl ?_
      refine lv_topl (fun w38 e39 => ?_)
      have t40 : w38.toInt = v9.toInt := by rw [e39]; exact i2l_i _
      have b41 : BdL w38 (-2147483648) (2147483647) := (by have h1 := ((ib_full v9)).1; have h2 := ((ib_full v9)).2; exact ⟨by omega, by omega⟩)
      refine lv_iload_n hx hb dX12_number_29 rfl (lv_at hl 1 rfl) ?_
      refine lv_i2l hx hb dX12_number_30 rfl ?_
      refine lv_topl (fun w42 e43 => ?_)
      have t44 : w42.toInt = a1.toInt := by rw [e43]; exact i2l_i _
      have b45 : BdL w42 (-2147483648) (2147483647) := (by have h1 := ((ib_full a1)).1; have h2 := ((ib_full a1)).2; exact ⟨by omega, by omega⟩)
      refine lv_iload_n hx hb dX12_number_31 rfl (lv_at hl 2 rfl) ?_
      refine lv_i2l hx hb dX12_number_32 rfl ?_
      refine lv_topl (fun w46 e47 => ?_)
      have t48 : w46.toInt = a2.toInt := by rw [e47]; exact i2l_i _
      have b49 : BdL w46 (-1) (11) := (by have h1 := (ba2).1; have h2 := (ba2).2; exact ⟨by omega, by omega⟩)
      refine xcSi E hs hQ hml hl.1 (gX12_in l g ad hD S hI w38 w42 w46) mX12_in q1591 rfl ⟨(Nat.le_of_ble_eq_true rfl), (Nat.le_of_ble_eq_true rfl)⟩ ⟨(Nat.le_of_ble_eq_true rfl), (Nat.le_of_ble_eq_true rfl)⟩ (Nat.le_of_ble_eq_true rfl) rfl dX12_number_33 (fun r50 S50 H locs hp50 hQ => ?_)
      obtain ⟨rfl, b50, g50_0, u50_0⟩ := hp50
      refine lv_if_ne (tgt := 46) hx hb dX12_number_36 (by decide) (fun k51 => ?_) (fun k51 => ?_)
      · have h52 := ib_ne k51
        have b53 : Bd r50 (1) (1) := rf_nlo b50 (by decide : Bd 0 (0) (0)) h52
        have g54 := g50_0.resolve_left (by omega)
        clear g50_0
        have b55 : BdL w38 (-2147483648) (11) := ⟨(b41).1, by omega⟩
        have b56 : BdL w42 (-2147483648) (11) := ⟨(b45).1, by omega⟩
        have b57 : Bd v9 (-2147483648) (11) := ⟨((ib_full v9)).1, by omega⟩
        have b58 : Bd a1 (-2147483648) (11) := ⟨((ib_full a1)).1, by omega⟩
        refine lv_aload_n hx hb dX12_number_46 rfl (lv_at hl 0 rfl) ?_
        refine xget E hQ 0 (by decide) c29 rfl 10 (by decide) q1478 rfl dX12_number_47 ?_
        refine lv_istore_n (lv' := [(3, .int v9), (0, .ref (ad 0)), (1, .int a1), (2, .int a2)]) hx hb dX12_number_50 rfl hl (by decide) rfl (fun ls hl => ?_)
        refine lv_aload_n hx hb dX12_number_51 rfl (lv_at hl 1 rfl) ?_
        refine xcVv E hs hQ hml hl.1 0 (gX12_next_0 l g ad hD S hI (by omega)) mX12_next q1637 (by decide) c29 rfl rfl ⟨(Nat.le_of_ble_eq_true rfl), (Nat.le_of_ble_eq_true rfl)⟩ ⟨(Nat.le_of_ble_eq_true rfl), (Nat.le_of_ble_eq_true rfl)⟩ (Nat.le_of_ble_eq_true rfl) rfl dX12_number_52 (fun S59 H locs hp59 hQ _ => ?_)
        obtain ⟨hI, o59, g59_0, g59_1, g59_2, g59_3, g59_4⟩ := hp59
        obtain ⟨v60, v61, v63, v65, v67, v68, w69, v70, v72, v73, v74, v75, v77, v79, v81, v83, v85, v86, v87, c88, b62, b64, b66, b71, b76, b78, b80, b82, b84⟩ := invM_0 hI
        have c88 : S59 0 = .inr (12, [.int v60, .ref (ad 1), .ref (ad 2), .ref (ad 3), .ref (ad 4), .ref (ad 5), .int v61, .int v63, .int v65, .int v67, .int v68, .long w69, .int v70, .int v72, .int v73, .int v74, .ref (ad 6), .ref (ad 7), .ref (ad 8), .ref (ad 9), .ref (ad 10), .ref (ad 11), .ref (ad 12), .ref (ad 13), .ref (ad 14), .ref (ad 15), .int v75, .int v77, .ref (ad 16), .int v79, .int v81, .int v83, .int v85, .int v86, .ref (ad 17), .ref (ad 18), .int v87, .ref (ad 19)]) := c88
        have q89 : fld (S59 0) 6 = v61.toInt := fld_of c88 rfl
        have q90 : fld (S59 0) 7 = v63.toInt := fld_of c88 rfl
        have q91 : fld (S 0) 12 = v11.toInt := fld_of c29 rfl
        have q92 : fld (S59 0) 12 = v70.toInt := fld_of c88 rfl
        have b93 : Bd v70 (0) (0) := ⟨(b71).1, by omega⟩
        have q94 : fld (S59 0) 8 = v65.toInt := fld_of c88 rfl
        refine lv_iload_n hx hb dX12_number_55 rfl (lv_at hl 0 rfl) ?_
        have q95 : fld (S 0) 8 = v6.toInt := fld_of c29 rfl
        exact xri E hr hlk hQ (⟨hI, (o_trans o_refl o59 (by decide)), (by omega), ⟨by omega, by omega⟩, (by omega)⟩) dX12_number_56
      · have h96 := ib_eq k51
        have b97 : Bd r50 (0) (0) := ⟨(b50).1, ((rf_eq b50 (by decide : Bd 0 (0) (0)) h96).1).2⟩
        clear g50_0
        refine lv_aload_n hx hb dX12_number_39 rfl (lv_at hl 0 rfl) ?_
        refine lv_iconst (v := 2) hx hb dX12_number_40 (by decide) ?_
        refine xcVv E hs hQ hml hl.1 0 (gX12_fails_0 l g ad hD S hI 2 (ib_wk (by decide : Bd 2 (2) (2)) (by decide) (by decide))) mX12_fails q1667 (by decide) c29 rfl rfl ⟨(Nat.le_of_ble_eq_true rfl), (Nat.le_of_ble_eq_true rfl)⟩ ⟨(Nat.le_of_ble_eq_true rfl), (Nat.le_of_ble_eq_true rfl)⟩ (Nat.le_of_ble_eq_true rfl) rfl dX12_number_41 (fun S98 H locs hp98 hQ _ => ?_)
        obtain ⟨hI, o98, g98_0, g98_1, g98_2, g98_3⟩ := hp98
        obtain ⟨v99, v100, v102, v104, v106, v107, w108, v109, v111, v112, v113, v114, v116, v118, v120, v122, v124, v125, v126, c127, b101, b103, b105, b110, b115, b117, b119, b121, b123⟩ := invM_0 hI
        have c127 : S98 0 = .inr (12, [.int v99, .ref (ad 1), .ref (ad 2), .ref (ad 3), .ref (ad 4), .ref (ad 5), .int v100, .int v102, .int v104, .int v106, .int v107, .long w108, .int v109, .int v111, .int v112, .int v113, .ref (ad 6), .ref (ad 7), .ref (ad 8), .ref (ad 9), .ref (ad 10), .ref (ad 11), .ref (ad 12), .ref (ad 13), .ref (ad 14), .ref (ad 15), .int v114, .int v116, .ref (ad 16), .int v118, .int v120, .int v122, .int v124, .int v125, .ref (ad 17), .ref (ad 18), .int v126, .ref (ad 19)]) := c127
        have q128 : fld (S98 0) 12 = v109.toInt := fld_of c127 rfl
        have b129 : Bd v109 (1) (3) := ⟨by omega, (b110).2⟩
        have q130 : fld (S98 0) 6 = v100.toInt := fld_of c127 rfl
        have q131 : fld (S98 0) 7 = v102.toInt := fld_of c127 rfl
        have q132 : fld (S 0) 8 = v6.toInt := fld_of c29 rfl
        have q133 : fld (S98 0) 8 = v104.toInt := fld_of c127 rfl
        have b134 : Bd v104 (2) (2) := ⟨by omega, by omega⟩
        refine lv_iload_n hx hb dX12_number_44 rfl (lv_at hl 1 rfl) ?_
        exact xri E hr hlk hQ (⟨hI, (o_trans o_refl o98 (by decide)), (by omega), ⟨by omega, by omega⟩, (by omega)⟩) dX12_number_45
    · have h135 := ib_ne k35
      refine lv_aload_n hx hb dX12_number_17 rfl (lv_at hl 0 rfl) ?_
      refine lv_iconst (v := 1) hx hb dX12_number_18 (by decide) ?_
      refine xcVv E hs hQ hml hl.1 0 (gX12_fails_0 l g ad hD S hI 1 (ib_wk (by decide : Bd 1 (1) (1)) (by decide) (by decide))) mX12_fails q1667 (by decide) c29 rfl rfl ⟨(Nat.le_of_ble_eq_true rfl), (Nat.le_of_ble_eq_true rfl)⟩ ⟨(Nat.le_of_ble_eq_true rfl), (Nat.le_of_ble_eq_true rfl)⟩ (Nat.le_of_ble_eq_true rfl) rfl dX12_number_19 (fun S136 H locs hp136 hQ _ => ?_)
      obtain ⟨hI, o136, g136_0, g136_1, g136_2, g136_3⟩ := hp136
      obtain ⟨v137, v138, v140, v142, v144, v145, w146, v147, v149, v150, v151, v152, v154, v156, v158, v160, v162, v163, v164, c165, b139, b141, b143, b148, b153, b155, b157, b159, b161⟩ := invM_0 hI
      have c165 : S136 0 = .inr (12, [.int v137, .ref (ad 1), .ref (ad 2), .ref (ad 3), .ref (ad 4), .ref (ad 5), .int v138, .int v140, .int v142, .int v144, .int v145, .long w146, .int v147, .int v149, .int v150, .int v151, .ref (ad 6), .ref (ad 7), .ref (ad 8), .ref (ad 9), .ref (ad 10), .ref (ad 11), .ref (ad 12), .ref (ad 13), .ref (ad 14), .ref (ad 15), .int v152, .int v154, .ref (ad 16), .int v156, .int v158, .int v160, .int v162, .int v163, .ref (ad 17), .ref (ad 18), .int v164, .ref (ad 19)]) := c165
      have q166 : fld (S136 0) 12 = v147.toInt := fld_of c165 rfl
      have b167 : Bd v147 (1) (3) := ⟨by omega, (b148).2⟩
      have q168 : fld (S136 0) 6 = v138.toInt := fld_of c165 rfl
      have q169 : fld (S136 0) 7 = v140.toInt := fld_of c165 rfl
      have q170 : fld (S 0) 8 = v6.toInt := fld_of c29 rfl
      have q171 : fld (S136 0) 8 = v142.toInt := fld_of c165 rfl
      refine lv_iload_n hx hb dX12_number_22 rfl (lv_at hl 1 rfl) ?_
      exact xri E hr hlk hQ (⟨hI, (o_trans o_refl o136 (by decide)), (by omega), ⟨by omega, by omega⟩, (by omega)⟩) dX12_number_23
  · have h172 := ib_ne k32
    have b173 : Bd v11 (1) (3) := rf_nlo b12 (by decide : Bd 0 (0) (0)) h172
    refine lv_iload_n hx hb dX12_number_7 rfl (lv_at hl 1 rfl) ?_
    have q174 : fld (S 0) 8 = v6.toInt := fld_of c29 rfl
    exact xri E hr hlk hQ (⟨hI, o_refl, (by omega), ⟨by omega, by omega⟩, (by omega)⟩) dX12_number_8
set_option maxHeartbeats 4000000 in
set_option maxRecDepth 100000 in
theorem gX12_numberw_0 (l : Launch) (g : GG) (ad : Nat → Nat) (hD : Dj ad 20) (S : SS) (hI : InvM g ad S) (wa1 : Int64) (a2 : Int32) (a3 : Int32) (ba2 : Bd a2 (3) (3)) (ba3 : Bd a3 (12) (12)) (hq1 : 0 ≤ fld (S 0) 6 + (-1) * fld (S 0) 7) : Met l yX12_number_ (wG (.code yX12_number_ cX12_number_ 5 (some .int))) (Rm 4) (XPre g ad 20 S [.ref (ad 0), .long wa1, .int a2, .int a3]) (va_Qi (fun r S' => InvM g ad S' ∧ (∀ j, j ∉ ([0] : List Nat) → S' j = S j) ∧ Bd r (3) (12) ∧ (0 ≤ fld (S' 0) 6 + (-1) * fld (S' 0) 7) ∧ (0 ≤ fld (S 0) 6 + (-1) * fld (S' 0) 6 ∧ 0 ≤ fld (S' 0) 6 + (-1) * fld (S 0) 6) ∧ (0 ≤ 4 * fld (S 0) 6 + (-4) * fld (S 0) 7 + fld (S 0) 8 + (-4) * fld (S' 0) 6 + 4 * fld (S' 0) 7 + (-1) * fld (S' 0) 8)) (QB g ad 20) (FA ad 20)) 0 0 (FA ad 20) := by
  refine xmet cX12_number_ "EbbWreckModel" (by decide) rfl (Nat.le_of_ble_eq_true rfl) (fun p e s m below meth c E hr hlk hml hQ ls hl => ?_)
  have hx := E.1
  have hb := E.2.1
  have hs : Sp ad 20 (FA ad 20) := Sp.fa hD
  have hl : lv_has ls 5 [(0, .ref (ad 0)), (1, .long wa1), (3, .int a2), (4, .int a3)] := hl
  obtain ⟨v1, v2, v4, v6, v8, v9, w10, v11, v13, v14, v15, v16, v18, v20, v22, v24, v26, v27, v28, c29, b3, b5, b7, b12, b17, b19, b21, b23, b25⟩ := invM_0 hI
  have c29 : S 0 = .inr (12, [.int v1, .ref (ad 1), .ref (ad 2), .ref (ad 3), .ref (ad 4), .ref (ad 5), .int v2, .int v4, .int v6, .int v8, .int v9, .long w10, .int v11, .int v13, .int v14, .int v15, .ref (ad 6), .ref (ad 7), .ref (ad 8), .ref (ad 9), .ref (ad 10), .ref (ad 11), .ref (ad 12), .ref (ad 13), .ref (ad 14), .ref (ad 15), .int v16, .int v18, .ref (ad 16), .int v20, .int v22, .int v24, .int v26, .int v27, .ref (ad 17), .ref (ad 18), .int v28, .ref (ad 19)]) := c29
  have q30 : fld (S 0) 6 = v2.toInt := fld_of c29 rfl
  have q31 : fld (S 0) 7 = v4.toInt := fld_of c29 rfl
  refine lv_aload_n hx hb dX12_number__0 rfl (lv_at hl 0 rfl) ?_
  refine lv_lload_n hx hb dX12_number__1 rfl (lv_at hl 1 rfl) ?_
  refine xcVv E hs hQ hml hl.1 0 (gX12_asks_0 l g ad hD S hI wa1 (by omega)) mX12_asks q1655 (by decide) c29 rfl rfl ⟨(Nat.le_of_ble_eq_true rfl), (Nat.le_of_ble_eq_true rfl)⟩ ⟨(Nat.le_of_ble_eq_true rfl), (Nat.le_of_ble_eq_true rfl)⟩ (Nat.le_of_ble_eq_true rfl) rfl dX12_number__2 (fun S32 H locs hp32 hQ _ => ?_)
  obtain ⟨hI, o32, g32_0, g32_1, g32_2⟩ := hp32
  obtain ⟨v33, v34, v36, v38, v40, v41, w42, v43, v45, v46, v47, v48, v50, v52, v54, v56, v58, v59, v60, c61, b35, b37, b39, b44, b49, b51, b53, b55, b57⟩ := invM_0 hI
  have c61 : S32 0 = .inr (12, [.int v33, .ref (ad 1), .ref (ad 2), .ref (ad 3), .ref (ad 4), .ref (ad 5), .int v34, .int v36, .int v38, .int v40, .int v41, .long w42, .int v43, .int v45, .int v46, .int v47, .ref (ad 6), .ref (ad 7), .ref (ad 8), .ref (ad 9), .ref (ad 10), .ref (ad 11), .ref (ad 12), .ref (ad 13), .ref (ad 14), .ref (ad 15), .int v48, .int v50, .ref (ad 16), .int v52, .int v54, .int v56, .int v58, .int v59, .ref (ad 17), .ref (ad 18), .int v60, .ref (ad 19)]) := c61
  have q62 : fld (S32 0) 6 = v34.toInt := fld_of c61 rfl
  have q63 : fld (S32 0) 7 = v36.toInt := fld_of c61 rfl
  have q64 : fld (S 0) 8 = v6.toInt := fld_of c29 rfl
  have q65 : fld (S32 0) 8 = v38.toInt := fld_of c61 rfl
  refine lv_aload_n hx hb dX12_number__5 rfl (lv_at hl 0 rfl) ?_
  refine lv_iload_n hx hb dX12_number__6 rfl (lv_at hl 2 rfl) ?_
  refine lv_iload hx hb dX12_number__7 (lv_at hl 3 rfl) ?_
  refine xcVi E hs hQ hml hl.1 0 (gX12_number_0 l g ad hD S32 hI a2 a3 ba2 ba3 (by omega)) mX12_number q1676 (by decide) c61 rfl rfl ⟨(Nat.le_of_ble_eq_true rfl), (Nat.le_of_ble_eq_true rfl)⟩ ⟨(Nat.le_of_ble_eq_true rfl), (Nat.le_of_ble_eq_true rfl)⟩ (Nat.le_of_ble_eq_true rfl) rfl dX12_number__9 (fun r66 S66 H locs hp66 hQ _ => ?_)
  obtain ⟨hI, o66, b66, g66_0, g66_1, g66_2⟩ := hp66
  obtain ⟨v67, v68, v70, v72, v74, v75, w76, v77, v79, v80, v81, v82, v84, v86, v88, v90, v92, v93, v94, c95, b69, b71, b73, b78, b83, b85, b87, b89, b91⟩ := invM_0 hI
  have c95 : S66 0 = .inr (12, [.int v67, .ref (ad 1), .ref (ad 2), .ref (ad 3), .ref (ad 4), .ref (ad 5), .int v68, .int v70, .int v72, .int v74, .int v75, .long w76, .int v77, .int v79, .int v80, .int v81, .ref (ad 6), .ref (ad 7), .ref (ad 8), .ref (ad 9), .ref (ad 10), .ref (ad 11), .ref (ad 12), .ref (ad 13), .ref (ad 14), .ref (ad 15), .int v82, .int v84, .ref (ad 16), .int v86, .int v88, .int v90, .int v92, .int v93, .ref (ad 17), .ref (ad 18), .int v94, .ref (ad 19)]) := c95
  have q96 : fld (S66 0) 6 = v68.toInt := fld_of c95 rfl
  have q97 : fld (S66 0) 7 = v70.toInt := fld_of c95 rfl
  have q98 : fld (S66 0) 8 = v72.toInt := fld_of c95 rfl
  exact xri E hr hlk hQ (⟨hI, (o_trans (o_trans o_refl o32 (by decide)) o66 (by decide)), b66, (by omega), ⟨by omega, by omega⟩, (by omega)⟩) dX12_number__12
set_option maxHeartbeats 4000000 in
set_option maxRecDepth 100000 in
theorem gX12_numberw_1 (l : Launch) (g : GG) (ad : Nat → Nat) (hD : Dj ad 20) (S : SS) (hI : InvM g ad S) (wa1 : Int64) (a2 : Int32) (a3 : Int32) (ba2 : Bd a2 (1) (1)) (ba3 : Bd a3 (12) (12)) (hq1 : 0 ≤ fld (S 0) 6 + (-1) * fld (S 0) 7) : Met l yX12_number_ (wG (.code yX12_number_ cX12_number_ 5 (some .int))) (Rm 4) (XPre g ad 20 S [.ref (ad 0), .long wa1, .int a2, .int a3]) (va_Qi (fun r S' => InvM g ad S' ∧ (∀ j, j ∉ ([0] : List Nat) → S' j = S j) ∧ Bd r (1) (12) ∧ (0 ≤ fld (S' 0) 6 + (-1) * fld (S' 0) 7) ∧ (0 ≤ fld (S 0) 6 + (-1) * fld (S' 0) 6 ∧ 0 ≤ fld (S' 0) 6 + (-1) * fld (S 0) 6) ∧ (0 ≤ 4 * fld (S 0) 6 + (-4) * fld (S 0) 7 + fld (S 0) 8 + (-4) * fld (S' 0) 6 + 4 * fld (S' 0) 7 + (-1) * fld (S' 0) 8)) (QB g ad 20) (FA ad 20)) 0 0 (FA ad 20) := by
  refine xmet cX12_number_ "EbbWreckModel" (by decide) rfl (Nat.le_of_ble_eq_true rfl) (fun p e s m below meth c E hr hlk hml hQ ls hl => ?_)
  have hx := E.1
  have hb := E.2.1
  have hs : Sp ad 20 (FA ad 20) := Sp.fa hD
  have hl : lv_has ls 5 [(0, .ref (ad 0)), (1, .long wa1), (3, .int a2), (4, .int a3)] := hl
  obtain ⟨v1, v2, v4, v6, v8, v9, w10, v11, v13, v14, v15, v16, v18, v20, v22, v24, v26, v27, v28, c29, b3, b5, b7, b12, b17, b19, b21, b23, b25⟩ := invM_0 hI
  have c29 : S 0 = .inr (12, [.int v1, .ref (ad 1), .ref (ad 2), .ref (ad 3), .ref (ad 4), .ref (ad 5), .int v2, .int v4, .int v6, .int v8, .int v9, .long w10, .int v11, .int v13, .int v14, .int v15, .ref (ad 6), .ref (ad 7), .ref (ad 8), .ref (ad 9), .ref (ad 10), .ref (ad 11), .ref (ad 12), .ref (ad 13), .ref (ad 14), .ref (ad 15), .int v16, .int v18, .ref (ad 16), .int v20, .int v22, .int v24, .int v26, .int v27, .ref (ad 17), .ref (ad 18), .int v28, .ref (ad 19)]) := c29
  have q30 : fld (S 0) 6 = v2.toInt := fld_of c29 rfl
  have q31 : fld (S 0) 7 = v4.toInt := fld_of c29 rfl
  refine lv_aload_n hx hb dX12_number__0 rfl (lv_at hl 0 rfl) ?_
  refine lv_lload_n hx hb dX12_number__1 rfl (lv_at hl 1 rfl) ?_
  refine xcVv E hs hQ hml hl.1 0 (gX12_asks_0 l g ad hD S hI wa1 (by omega)) mX12_asks q1655 (by decide) c29 rfl rfl ⟨(Nat.le_of_ble_eq_true rfl), (Nat.le_of_ble_eq_true rfl)⟩ ⟨(Nat.le_of_ble_eq_true rfl), (Nat.le_of_ble_eq_true rfl)⟩ (Nat.le_of_ble_eq_true rfl) rfl dX12_number__2 (fun S32 H locs hp32 hQ _ => ?_)
  obtain ⟨hI, o32, g32_0, g32_1, g32_2⟩ := hp32
  obtain ⟨v33, v34, v36, v38, v40, v41, w42, v43, v45, v46, v47, v48, v50, v52, v54, v56, v58, v59, v60, c61, b35, b37, b39, b44, b49, b51, b53, b55, b57⟩ := invM_0 hI
  have c61 : S32 0 = .inr (12, [.int v33, .ref (ad 1), .ref (ad 2), .ref (ad 3), .ref (ad 4), .ref (ad 5), .int v34, .int v36, .int v38, .int v40, .int v41, .long w42, .int v43, .int v45, .int v46, .int v47, .ref (ad 6), .ref (ad 7), .ref (ad 8), .ref (ad 9), .ref (ad 10), .ref (ad 11), .ref (ad 12), .ref (ad 13), .ref (ad 14), .ref (ad 15), .int v48, .int v50, .ref (ad 16), .int v52, .int v54, .int v56, .int v58, .int v59, .ref (ad 17), .ref (ad 18), .int v60, .ref (ad 19)]) := c61
  have q62 : fld (S32 0) 6 = v34.toInt := fld_of c61 rfl
  have q63 : fld (S32 0) 7 = v36.toInt := fld_of c61 rfl
  have q64 : fld (S 0) 8 = v6.toInt := fld_of c29 rfl
  have q65 : fld (S32 0) 8 = v38.toInt := fld_of c61 rfl
  refine lv_aload_n hx hb dX12_number__5 rfl (lv_at hl 0 rfl) ?_
  refine lv_iload_n hx hb dX12_number__6 rfl (lv_at hl 2 rfl) ?_
  refine lv_iload hx hb dX12_number__7 (lv_at hl 3 rfl) ?_
  refine xcVi E hs hQ hml hl.1 0 (gX12_number_1 l g ad hD S32 hI a2 a3 ba2 ba3 (by omega)) mX12_number q1676 (by decide) c61 rfl rfl ⟨(Nat.le_of_ble_eq_true rfl), (Nat.le_of_ble_eq_true rfl)⟩ ⟨(Nat.le_of_ble_eq_true rfl), (Nat.le_of_ble_eq_true rfl)⟩ (Nat.le_of_ble_eq_true rfl) rfl dX12_number__9 (fun r66 S66 H locs hp66 hQ _ => ?_)
  obtain ⟨hI, o66, b66, g66_0, g66_1, g66_2⟩ := hp66
  obtain ⟨v67, v68, v70, v72, v74, v75, w76, v77, v79, v80, v81, v82, v84, v86, v88, v90, v92, v93, v94, c95, b69, b71, b73, b78, b83, b85, b87, b89, b91⟩ := invM_0 hI
  have c95 : S66 0 = .inr (12, [.int v67, .ref (ad 1), .ref (ad 2), .ref (ad 3), .ref (ad 4), .ref (ad 5), .int v68, .int v70, .int v72, .int v74, .int v75, .long w76, .int v77, .int v79, .int v80, .int v81, .ref (ad 6), .ref (ad 7), .ref (ad 8), .ref (ad 9), .ref (ad 10), .ref (ad 11), .ref (ad 12), .ref (ad 13), .ref (ad 14), .ref (ad 15), .int v82, .int v84, .ref (ad 16), .int v86, .int v88, .int v90, .int v92, .int v93, .ref (ad 17), .ref (ad 18), .int v94, .ref (ad 19)]) := c95
  have q96 : fld (S66 0) 6 = v68.toInt := fld_of c95 rfl
  have q97 : fld (S66 0) 7 = v70.toInt := fld_of c95 rfl
  have q98 : fld (S66 0) 8 = v72.toInt := fld_of c95 rfl
  exact xri E hr hlk hQ (⟨hI, (o_trans (o_trans o_refl o32 (by decide)) o66 (by decide)), b66, (by omega), ⟨by omega, by omega⟩, (by omega)⟩) dX12_number__12
set_option maxHeartbeats 4000000 in
set_option maxRecDepth 100000 in
theorem gX12_numberw_2 (l : Launch) (g : GG) (ad : Nat → Nat) (hD : Dj ad 20) (S : SS) (hI : InvM g ad S) (wa1 : Int64) (a2 : Int32) (a3 : Int32) (ba2 : Bd a2 (0) (0)) (ba3 : Bd a3 (6) (6)) (hq1 : 0 ≤ fld (S 0) 6 + (-1) * fld (S 0) 7) : Met l yX12_number_ (wG (.code yX12_number_ cX12_number_ 5 (some .int))) (Rm 4) (XPre g ad 20 S [.ref (ad 0), .long wa1, .int a2, .int a3]) (va_Qi (fun r S' => InvM g ad S' ∧ (∀ j, j ∉ ([0] : List Nat) → S' j = S j) ∧ Bd r (0) (6) ∧ (0 ≤ fld (S' 0) 6 + (-1) * fld (S' 0) 7) ∧ (0 ≤ fld (S 0) 6 + (-1) * fld (S' 0) 6 ∧ 0 ≤ fld (S' 0) 6 + (-1) * fld (S 0) 6) ∧ (0 ≤ 4 * fld (S 0) 6 + (-4) * fld (S 0) 7 + fld (S 0) 8 + (-4) * fld (S' 0) 6 + 4 * fld (S' 0) 7 + (-1) * fld (S' 0) 8)) (QB g ad 20) (FA ad 20)) 0 0 (FA ad 20) := by
  refine xmet cX12_number_ "EbbWreckModel" (by decide) rfl (Nat.le_of_ble_eq_true rfl) (fun p e s m below meth c E hr hlk hml hQ ls hl => ?_)
  have hx := E.1
  have hb := E.2.1
  have hs : Sp ad 20 (FA ad 20) := Sp.fa hD
  have hl : lv_has ls 5 [(0, .ref (ad 0)), (1, .long wa1), (3, .int a2), (4, .int a3)] := hl
  obtain ⟨v1, v2, v4, v6, v8, v9, w10, v11, v13, v14, v15, v16, v18, v20, v22, v24, v26, v27, v28, c29, b3, b5, b7, b12, b17, b19, b21, b23, b25⟩ := invM_0 hI
  have c29 : S 0 = .inr (12, [.int v1, .ref (ad 1), .ref (ad 2), .ref (ad 3), .ref (ad 4), .ref (ad 5), .int v2, .int v4, .int v6, .int v8, .int v9, .long w10, .int v11, .int v13, .int v14, .int v15, .ref (ad 6), .ref (ad 7), .ref (ad 8), .ref (ad 9), .ref (ad 10), .ref (ad 11), .ref (ad 12), .ref (ad 13), .ref (ad 14), .ref (ad 15), .int v16, .int v18, .ref (ad 16), .int v20, .int v22, .int v24, .int v26, .int v27, .ref (ad 17), .ref (ad 18), .int v28, .ref (ad 19)]) := c29
  have q30 : fld (S 0) 6 = v2.toInt := fld_of c29 rfl
  have q31 : fld (S 0) 7 = v4.toInt := fld_of c29 rfl
  refine lv_aload_n hx hb dX12_number__0 rfl (lv_at hl 0 rfl) ?_
  refine lv_lload_n hx hb dX12_number__1 rfl (lv_at hl 1 rfl) ?_
  refine xcVv E hs hQ hml hl.1 0 (gX12_asks_0 l g ad hD S hI wa1 (by omega)) mX12_asks q1655 (by decide) c29 rfl rfl ⟨(Nat.le_of_ble_eq_true rfl), (Nat.le_of_ble_eq_true rfl)⟩ ⟨(Nat.le_of_ble_eq_true rfl), (Nat.le_of_ble_eq_true rfl)⟩ (Nat.le_of_ble_eq_true rfl) rfl dX12_number__2 (fun S32 H locs hp32 hQ _ => ?_)
  obtain ⟨hI, o32, g32_0, g32_1, g32_2⟩ := hp32
  obtain ⟨v33, v34, v36, v38, v40, v41, w42, v43, v45, v46, v47, v48, v50, v52, v54, v56, v58, v59, v60, c61, b35, b37, b39, b44, b49, b51, b53, b55, b57⟩ := invM_0 hI
  have c61 : S32 0 = .inr (12, [.int v33, .ref (ad 1), .ref (ad 2), .ref (ad 3), .ref (ad 4), .ref (ad 5), .int v34, .int v36, .int v38, .int v40, .int v41, .long w42, .int v43, .int v45, .int v46, .int v47, .ref (ad 6), .ref (ad 7), .ref (ad 8), .ref (ad 9), .ref (ad 10), .ref (ad 11), .ref (ad 12), .ref (ad 13), .ref (ad 14), .ref (ad 15), .int v48, .int v50, .ref (ad 16), .int v52, .int v54, .int v56, .int v58, .int v59, .ref (ad 17), .ref (ad 18), .int v60, .ref (ad 19)]) := c61
  have q62 : fld (S32 0) 6 = v34.toInt := fld_of c61 rfl
  have q63 : fld (S32 0) 7 = v36.toInt := fld_of c61 rfl
  have q64 : fld (S 0) 8 = v6.toInt := fld_of c29 rfl
  have q65 : fld (S32 0) 8 = v38.toInt := fld_of c61 rfl
  refine lv_aload_n hx hb dX12_number__5 rfl (lv_at hl 0 rfl) ?_
  refine lv_iload_n hx hb dX12_number__6 rfl (lv_at hl 2 rfl) ?_
  refine lv_iload hx hb dX12_number__7 (lv_at hl 3 rfl) ?_
  refine xcVi E hs hQ hml hl.1 0 (gX12_number_2 l g ad hD S32 hI a2 a3 ba2 ba3 (by omega)) mX12_number q1676 (by decide) c61 rfl rfl ⟨(Nat.le_of_ble_eq_true rfl), (Nat.le_of_ble_eq_true rfl)⟩ ⟨(Nat.le_of_ble_eq_true rfl), (Nat.le_of_ble_eq_true rfl)⟩ (Nat.le_of_ble_eq_true rfl) rfl dX12_number__9 (fun r66 S66 H locs hp66 hQ _ => ?_)
  obtain ⟨hI, o66, b66, g66_0, g66_1, g66_2⟩ := hp66
  obtain ⟨v67, v68, v70, v72, v74, v75, w76, v77, v79, v80, v81, v82, v84, v86, v88, v90, v92, v93, v94, c95, b69, b71, b73, b78, b83, b85, b87, b89, b91⟩ := invM_0 hI
  have c95 : S66 0 = .inr (12, [.int v67, .ref (ad 1), .ref (ad 2), .ref (ad 3), .ref (ad 4), .ref (ad 5), .int v68, .int v70, .int v72, .int v74, .int v75, .long w76, .int v77, .int v79, .int v80, .int v81, .ref (ad 6), .ref (ad 7), .ref (ad 8), .ref (ad 9), .ref (ad 10), .ref (ad 11), .ref (ad 12), .ref (ad 13), .ref (ad 14), .ref (ad 15), .int v82, .int v84, .ref (ad 16), .int v86, .int v88, .int v90, .int v92, .int v93, .ref (ad 17), .ref (ad 18), .int v94, .ref (ad 19)]) := c95
  have q96 : fld (S66 0) 6 = v68.toInt := fld_of c95 rfl
  have q97 : fld (S66 0) 7 = v70.toInt := fld_of c95 rfl
  have q98 : fld (S66 0) 8 = v72.toInt := fld_of c95 rfl
  exact xri E hr hlk hQ (⟨hI, (o_trans (o_trans o_refl o32 (by decide)) o66 (by decide)), b66, (by omega), ⟨by omega, by omega⟩, (by omega)⟩) dX12_number__12
set_option maxHeartbeats 4000000 in
set_option maxRecDepth 100000 in
theorem gX12_numberw_3 (l : Launch) (g : GG) (ad : Nat → Nat) (hD : Dj ad 20) (S : SS) (hI : InvM g ad S) (wa1 : Int64) (a2 : Int32) (a3 : Int32) (ba2 : Bd a2 (0) (0)) (ba3 : Bd a3 (100) (100)) (hq1 : 0 ≤ fld (S 0) 6 + (-1) * fld (S 0) 7) : Met l yX12_number_ (wG (.code yX12_number_ cX12_number_ 5 (some .int))) (Rm 4) (XPre g ad 20 S [.ref (ad 0), .long wa1, .int a2, .int a3]) (va_Qi (fun r S' => InvM g ad S' ∧ (∀ j, j ∉ ([0] : List Nat) → S' j = S j) ∧ Bd r (0) (100) ∧ (0 ≤ fld (S' 0) 6 + (-1) * fld (S' 0) 7) ∧ (0 ≤ fld (S 0) 6 + (-1) * fld (S' 0) 6 ∧ 0 ≤ fld (S' 0) 6 + (-1) * fld (S 0) 6) ∧ (0 ≤ 4 * fld (S 0) 6 + (-4) * fld (S 0) 7 + fld (S 0) 8 + (-4) * fld (S' 0) 6 + 4 * fld (S' 0) 7 + (-1) * fld (S' 0) 8)) (QB g ad 20) (FA ad 20)) 0 0 (FA ad 20) := by
  refine xmet cX12_number_ "EbbWreckModel" (by decide) rfl (Nat.le_of_ble_eq_true rfl) (fun p e s m below meth c E hr hlk hml hQ ls hl => ?_)
  have hx := E.1
  have hb := E.2.1
  have hs : Sp ad 20 (FA ad 20) := Sp.fa hD
  have hl : lv_has ls 5 [(0, .ref (ad 0)), (1, .long wa1), (3, .int a2), (4, .int a3)] := hl
  obtain ⟨v1, v2, v4, v6, v8, v9, w10, v11, v13, v14, v15, v16, v18, v20, v22, v24, v26, v27, v28, c29, b3, b5, b7, b12, b17, b19, b21, b23, b25⟩ := invM_0 hI
  have c29 : S 0 = .inr (12, [.int v1, .ref (ad 1), .ref (ad 2), .ref (ad 3), .ref (ad 4), .ref (ad 5), .int v2, .int v4, .int v6, .int v8, .int v9, .long w10, .int v11, .int v13, .int v14, .int v15, .ref (ad 6), .ref (ad 7), .ref (ad 8), .ref (ad 9), .ref (ad 10), .ref (ad 11), .ref (ad 12), .ref (ad 13), .ref (ad 14), .ref (ad 15), .int v16, .int v18, .ref (ad 16), .int v20, .int v22, .int v24, .int v26, .int v27, .ref (ad 17), .ref (ad 18), .int v28, .ref (ad 19)]) := c29
  have q30 : fld (S 0) 6 = v2.toInt := fld_of c29 rfl
  have q31 : fld (S 0) 7 = v4.toInt := fld_of c29 rfl
  refine lv_aload_n hx hb dX12_number__0 rfl (lv_at hl 0 rfl) ?_
  refine lv_lload_n hx hb dX12_number__1 rfl (lv_at hl 1 rfl) ?_
  refine xcVv E hs hQ hml hl.1 0 (gX12_asks_0 l g ad hD S hI wa1 (by omega)) mX12_asks q1655 (by decide) c29 rfl rfl ⟨(Nat.le_of_ble_eq_true rfl), (Nat.le_of_ble_eq_true rfl)⟩ ⟨(Nat.le_of_ble_eq_true rfl), (Nat.le_of_ble_eq_true rfl)⟩ (Nat.le_of_ble_eq_true rfl) rfl dX12_number__2 (fun S32 H locs hp32 hQ _ => ?_)
  obtain ⟨hI, o32, g32_0, g32_1, g32_2⟩ := hp32
  obtain ⟨v33, v34, v36, v38, v40, v41, w42, v43, v45, v46, v47, v48, v50, v52, v54, v56, v58, v59, v60, c61, b35, b37, b39, b44, b49, b51, b53, b55, b57⟩ := invM_0 hI
  have c61 : S32 0 = .inr (12, [.int v33, .ref (ad 1), .ref (ad 2), .ref (ad 3), .ref (ad 4), .ref (ad 5), .int v34, .int v36, .int v38, .int v40, .int v41, .long w42, .int v43, .int v45, .int v46, .int v47, .ref (ad 6), .ref (ad 7), .ref (ad 8), .ref (ad 9), .ref (ad 10), .ref (ad 11), .ref (ad 12), .ref (ad 13), .ref (ad 14), .ref (ad 15), .int v48, .int v50, .ref (ad 16), .int v52, .int v54, .int v56, .int v58, .int v59, .ref (ad 17), .ref (ad 18), .int v60, .ref (ad 19)]) := c61
  have q62 : fld (S32 0) 6 = v34.toInt := fld_of c61 rfl
  have q63 : fld (S32 0) 7 = v36.toInt := fld_of c61 rfl
  have q64 : fld (S 0) 8 = v6.toInt := fld_of c29 rfl
  have q65 : fld (S32 0) 8 = v38.toInt := fld_of c61 rfl
  refine lv_aload_n hx hb dX12_number__5 rfl (lv_at hl 0 rfl) ?_
  refine lv_iload_n hx hb dX12_number__6 rfl (lv_at hl 2 rfl) ?_
  refine lv_iload hx hb dX12_number__7 (lv_at hl 3 rfl) ?_
  refine xcVi E hs hQ hml hl.1 0 (gX12_number_3 l g ad hD S32 hI a2 a3 ba2 ba3 (by omega)) mX12_number q1676 (by decide) c61 rfl rfl ⟨(Nat.le_of_ble_eq_true rfl), (Nat.le_of_ble_eq_true rfl)⟩ ⟨(Nat.le_of_ble_eq_true rfl), (Nat.le_of_ble_eq_true rfl)⟩ (Nat.le_of_ble_eq_true rfl) rfl dX12_number__9 (fun r66 S66 H locs hp66 hQ _ => ?_)
  obtain ⟨hI, o66, b66, g66_0, g66_1, g66_2⟩ := hp66
  obtain ⟨v67, v68, v70, v72, v74, v75, w76, v77, v79, v80, v81, v82, v84, v86, v88, v90, v92, v93, v94, c95, b69, b71, b73, b78, b83, b85, b87, b89, b91⟩ := invM_0 hI
  have c95 : S66 0 = .inr (12, [.int v67, .ref (ad 1), .ref (ad 2), .ref (ad 3), .ref (ad 4), .ref (ad 5), .int v68, .int v70, .int v72, .int v74, .int v75, .long w76, .int v77, .int v79, .int v80, .int v81, .ref (ad 6), .ref (ad 7), .ref (ad 8), .ref (ad 9), .ref (ad 10), .ref (ad 11), .ref (ad 12), .ref (ad 13), .ref (ad 14), .ref (ad 15), .int v82, .int v84, .ref (ad 16), .int v86, .int v88, .int v90, .int v92, .int v93, .ref (ad 17), .ref (ad 18), .int v94, .ref (ad 19)]) := c95
  have q96 : fld (S66 0) 6 = v68.toInt := fld_of c95 rfl
  have q97 : fld (S66 0) 7 = v70.toInt := fld_of c95 rfl
  have q98 : fld (S66 0) 8 = v72.toInt := fld_of c95 rfl
  exact xri E hr hlk hQ (⟨hI, (o_trans (o_trans o_refl o32 (by decide)) o66 (by decide)), b66, (by omega), ⟨by omega, by omega⟩, (by omega)⟩) dX12_number__12
set_option maxHeartbeats 4000000 in
set_option maxRecDepth 100000 in
theorem gX12_numberw_4 (l : Launch) (g : GG) (ad : Nat → Nat) (hD : Dj ad 20) (S : SS) (hI : InvM g ad S) (wa1 : Int64) (a2 : Int32) (a3 : Int32) (ba2 : Bd a2 (0) (0)) (ba3 : Bd a3 (3) (3)) (hq1 : 0 ≤ fld (S 0) 6 + (-1) * fld (S 0) 7) : Met l yX12_number_ (wG (.code yX12_number_ cX12_number_ 5 (some .int))) (Rm 4) (XPre g ad 20 S [.ref (ad 0), .long wa1, .int a2, .int a3]) (va_Qi (fun r S' => InvM g ad S' ∧ (∀ j, j ∉ ([0] : List Nat) → S' j = S j) ∧ Bd r (0) (3) ∧ (0 ≤ fld (S' 0) 6 + (-1) * fld (S' 0) 7) ∧ (0 ≤ fld (S 0) 6 + (-1) * fld (S' 0) 6 ∧ 0 ≤ fld (S' 0) 6 + (-1) * fld (S 0) 6) ∧ (0 ≤ 4 * fld (S 0) 6 + (-4) * fld (S 0) 7 + fld (S 0) 8 + (-4) * fld (S' 0) 6 + 4 * fld (S' 0) 7 + (-1) * fld (S' 0) 8)) (QB g ad 20) (FA ad 20)) 0 0 (FA ad 20) := by
  refine xmet cX12_number_ "EbbWreckModel" (by decide) rfl (Nat.le_of_ble_eq_true rfl) (fun p e s m below meth c E hr hlk hml hQ ls hl => ?_)
  have hx := E.1
  have hb := E.2.1
  have hs : Sp ad 20 (FA ad 20) := Sp.fa hD
  have hl : lv_has ls 5 [(0, .ref (ad 0)), (1, .long wa1), (3, .int a2), (4, .int a3)] := hl
  obtain ⟨v1, v2, v4, v6, v8, v9, w10, v11, v13, v14, v15, v16, v18, v20, v22, v24, v26, v27, v28, c29, b3, b5, b7, b12, b17, b19, b21, b23, b25⟩ := invM_0 hI
  have c29 : S 0 = .inr (12, [.int v1, .ref (ad 1), .ref (ad 2), .ref (ad 3), .ref (ad 4), .ref (ad 5), .int v2, .int v4, .int v6, .int v8, .int v9, .long w10, .int v11, .int v13, .int v14, .int v15, .ref (ad 6), .ref (ad 7), .ref (ad 8), .ref (ad 9), .ref (ad 10), .ref (ad 11), .ref (ad 12), .ref (ad 13), .ref (ad 14), .ref (ad 15), .int v16, .int v18, .ref (ad 16), .int v20, .int v22, .int v24, .int v26, .int v27, .ref (ad 17), .ref (ad 18), .int v28, .ref (ad 19)]) := c29
  have q30 : fld (S 0) 6 = v2.toInt := fld_of c29 rfl
  have q31 : fld (S 0) 7 = v4.toInt := fld_of c29 rfl
  refine lv_aload_n hx hb dX12_number__0 rfl (lv_at hl 0 rfl) ?_
  refine lv_lload_n hx hb dX12_number__1 rfl (lv_at hl 1 rfl) ?_
  refine xcVv E hs hQ hml hl.1 0 (gX12_asks_0 l g ad hD S hI wa1 (by omega)) mX12_asks q1655 (by decide) c29 rfl rfl ⟨(Nat.le_of_ble_eq_true rfl), (Nat.le_of_ble_eq_true rfl)⟩ ⟨(Nat.le_of_ble_eq_true rfl), (Nat.le_of_ble_eq_true rfl)⟩ (Nat.le_of_ble_eq_true rfl) rfl dX12_number__2 (fun S32 H locs hp32 hQ _ => ?_)
  obtain ⟨hI, o32, g32_0, g32_1, g32_2⟩ := hp32
  obtain ⟨v33, v34, v36, v38, v40, v41, w42, v43, v45, v46, v47, v48, v50, v52, v54, v56, v58, v59, v60, c61, b35, b37, b39, b44, b49, b51, b53, b55, b57⟩ := invM_0 hI
  have c61 : S32 0 = .inr (12, [.int v33, .ref (ad 1), .ref (ad 2), .ref (ad 3), .ref (ad 4), .ref (ad 5), .int v34, .int v36, .int v38, .int v40, .int v41, .long w42, .int v43, .int v45, .int v46, .int v47, .ref (ad 6), .ref (ad 7), .ref (ad 8), .ref (ad 9), .ref (ad 10), .ref (ad 11), .ref (ad 12), .ref (ad 13), .ref (ad 14), .ref (ad 15), .int v48, .int v50, .ref (ad 16), .int v52, .int v54, .int v56, .int v58, .int v59, .ref (ad 17), .ref (ad 18), .int v60, .ref (ad 19)]) := c61
  have q62 : fld (S32 0) 6 = v34.toInt := fld_of c61 rfl
  have q63 : fld (S32 0) 7 = v36.toInt := fld_of c61 rfl
  have q64 : fld (S 0) 8 = v6.toInt := fld_of c29 rfl
  have q65 : fld (S32 0) 8 = v38.toInt := fld_of c61 rfl
  refine lv_aload_n hx hb dX12_number__5 rfl (lv_at hl 0 rfl) ?_
  refine lv_iload_n hx hb dX12_number__6 rfl (lv_at hl 2 rfl) ?_
  refine lv_iload hx hb dX12_number__7 (lv_at hl 3 rfl) ?_
  refine xcVi E hs hQ hml hl.1 0 (gX12_number_4 l g ad hD S32 hI a2 a3 ba2 ba3 (by omega)) mX12_number q1676 (by decide) c61 rfl rfl ⟨(Nat.le_of_ble_eq_true rfl), (Nat.le_of_ble_eq_true rfl)⟩ ⟨(Nat.le_of_ble_eq_true rfl), (Nat.le_of_ble_eq_true rfl)⟩ (Nat.le_of_ble_eq_true rfl) rfl dX12_number__9 (fun r66 S66 H locs hp66 hQ _ => ?_)
  obtain ⟨hI, o66, b66, g66_0, g66_1, g66_2⟩ := hp66
  obtain ⟨v67, v68, v70, v72, v74, v75, w76, v77, v79, v80, v81, v82, v84, v86, v88, v90, v92, v93, v94, c95, b69, b71, b73, b78, b83, b85, b87, b89, b91⟩ := invM_0 hI
  have c95 : S66 0 = .inr (12, [.int v67, .ref (ad 1), .ref (ad 2), .ref (ad 3), .ref (ad 4), .ref (ad 5), .int v68, .int v70, .int v72, .int v74, .int v75, .long w76, .int v77, .int v79, .int v80, .int v81, .ref (ad 6), .ref (ad 7), .ref (ad 8), .ref (ad 9), .ref (ad 10), .ref (ad 11), .ref (ad 12), .ref (ad 13), .ref (ad 14), .ref (ad 15), .int v82, .int v84, .ref (ad 16), .int v86, .int v88, .int v90, .int v92, .int v93, .ref (ad 17), .ref (ad 18), .int v94, .ref (ad 19)]) := c95
  have q96 : fld (S66 0) 6 = v68.toInt := fld_of c95 rfl
  have q97 : fld (S66 0) 7 = v70.toInt := fld_of c95 rfl
  have q98 : fld (S66 0) 8 = v72.toInt := fld_of c95 rfl
  exact xri E hr hlk hQ (⟨hI, (o_trans (o_trans o_refl o32 (by decide)) o66 (by decide)), b66, (by omega), ⟨by omega, by omega⟩, (by omega)⟩) dX12_number__12
set_option maxHeartbeats 4000000 in
set_option maxRecDepth 100000 in
theorem gX12_numberw_5 (l : Launch) (g : GG) (ad : Nat → Nat) (hD : Dj ad 20) (S : SS) (hI : InvM g ad S) (wa1 : Int64) (a2 : Int32) (a3 : Int32) (ba2 : Bd a2 (0) (0)) (ba3 : Bd a3 (999) (999)) (hq1 : 0 ≤ fld (S 0) 6 + (-1) * fld (S 0) 7) : Met l yX12_number_ (wG (.code yX12_number_ cX12_number_ 5 (some .int))) (Rm 4) (XPre g ad 20 S [.ref (ad 0), .long wa1, .int a2, .int a3]) (va_Qi (fun r S' => InvM g ad S' ∧ (∀ j, j ∉ ([0] : List Nat) → S' j = S j) ∧ Bd r (0) (999) ∧ (0 ≤ fld (S' 0) 6 + (-1) * fld (S' 0) 7) ∧ (0 ≤ fld (S 0) 6 + (-1) * fld (S' 0) 6 ∧ 0 ≤ fld (S' 0) 6 + (-1) * fld (S 0) 6) ∧ (0 ≤ 4 * fld (S 0) 6 + (-4) * fld (S 0) 7 + fld (S 0) 8 + (-4) * fld (S' 0) 6 + 4 * fld (S' 0) 7 + (-1) * fld (S' 0) 8)) (QB g ad 20) (FA ad 20)) 0 0 (FA ad 20) := by
  refine xmet cX12_number_ "EbbWreckModel" (by decide) rfl (Nat.le_of_ble_eq_true rfl) (fun p e s m below meth c E hr hlk hml hQ ls hl => ?_)
  have hx := E.1
  have hb := E.2.1
  have hs : Sp ad 20 (FA ad 20) := Sp.fa hD
  have hl : lv_has ls 5 [(0, .ref (ad 0)), (1, .long wa1), (3, .int a2), (4, .int a3)] := hl
  obtain ⟨v1, v2, v4, v6, v8, v9, w10, v11, v13, v14, v15, v16, v18, v20, v22, v24, v26, v27, v28, c29, b3, b5, b7, b12, b17, b19, b21, b23, b25⟩ := invM_0 hI
  have c29 : S 0 = .inr (12, [.int v1, .ref (ad 1), .ref (ad 2), .ref (ad 3), .ref (ad 4), .ref (ad 5), .int v2, .int v4, .int v6, .int v8, .int v9, .long w10, .int v11, .int v13, .int v14, .int v15, .ref (ad 6), .ref (ad 7), .ref (ad 8), .ref (ad 9), .ref (ad 10), .ref (ad 11), .ref (ad 12), .ref (ad 13), .ref (ad 14), .ref (ad 15), .int v16, .int v18, .ref (ad 16), .int v20, .int v22, .int v24, .int v26, .int v27, .ref (ad 17), .ref (ad 18), .int v28, .ref (ad 19)]) := c29
  have q30 : fld (S 0) 6 = v2.toInt := fld_of c29 rfl
  have q31 : fld (S 0) 7 = v4.toInt := fld_of c29 rfl
  refine lv_aload_n hx hb dX12_number__0 rfl (lv_at hl 0 rfl) ?_
  refine lv_lload_n hx hb dX12_number__1 rfl (lv_at hl 1 rfl) ?_
  refine xcVv E hs hQ hml hl.1 0 (gX12_asks_0 l g ad hD S hI wa1 (by omega)) mX12_asks q1655 (by decide) c29 rfl rfl ⟨(Nat.le_of_ble_eq_true rfl), (Nat.le_of_ble_eq_true rfl)⟩ ⟨(Nat.le_of_ble_eq_true rfl), (Nat.le_of_ble_eq_true rfl)⟩ (Nat.le_of_ble_eq_true rfl) rfl dX12_number__2 (fun S32 H locs hp32 hQ _ => ?_)
  obtain ⟨hI, o32, g32_0, g32_1, g32_2⟩ := hp32
  obtain ⟨v33, v34, v36, v38, v40, v41, w42, v43, v45, v46, v47, v48, v50, v52, v54, v56, v58, v59, v60, c61, b35, b37, b39, b44, b49, b51, b53, b55, b57⟩ := invM_0 hI
  have c61 : S32 0 = .inr (12, [.int v33, .ref (ad 1), .ref (ad 2), .ref (ad 3), .ref (ad 4), .ref (ad 5), .int v34, .int v36, .int v38, .int v40, .int v41, .long w42, .int v43, .int v45, .int v46, .int v47, .ref (ad 6), .ref (ad 7), .ref (ad 8), .ref (ad 9), .ref (ad 10), .ref (ad 11), .ref (ad 12), .ref (ad 13), .ref (ad 14), .ref (ad 15), .int v48, .int v50, .ref (ad 16), .int v52, .int v54, .int v56, .int v58, .int v59, .ref (ad 17), .ref (ad 18), .int v60, .ref (ad 19)]) := c61
  have q62 : fld (S32 0) 6 = v34.toInt := fld_of c61 rfl
  have q63 : fld (S32 0) 7 = v36.toInt := fld_of c61 rfl
  have q64 : fld (S 0) 8 = v6.toInt := fld_of c29 rfl
  have q65 : fld (S32 0) 8 = v38.toInt := fld_of c61 rfl
  refine lv_aload_n hx hb dX12_number__5 rfl (lv_at hl 0 rfl) ?_
  refine lv_iload_n hx hb dX12_number__6 rfl (lv_at hl 2 rfl) ?_
  refine lv_iload hx hb dX12_number__7 (lv_at hl 3 rfl) ?_
  refine xcVi E hs hQ hml hl.1 0 (gX12_number_5 l g ad hD S32 hI a2 a3 ba2 ba3 (by omega)) mX12_number q1676 (by decide) c61 rfl rfl ⟨(Nat.le_of_ble_eq_true rfl), (Nat.le_of_ble_eq_true rfl)⟩ ⟨(Nat.le_of_ble_eq_true rfl), (Nat.le_of_ble_eq_true rfl)⟩ (Nat.le_of_ble_eq_true rfl) rfl dX12_number__9 (fun r66 S66 H locs hp66 hQ _ => ?_)
  obtain ⟨hI, o66, b66, g66_0, g66_1, g66_2⟩ := hp66
  obtain ⟨v67, v68, v70, v72, v74, v75, w76, v77, v79, v80, v81, v82, v84, v86, v88, v90, v92, v93, v94, c95, b69, b71, b73, b78, b83, b85, b87, b89, b91⟩ := invM_0 hI
  have c95 : S66 0 = .inr (12, [.int v67, .ref (ad 1), .ref (ad 2), .ref (ad 3), .ref (ad 4), .ref (ad 5), .int v68, .int v70, .int v72, .int v74, .int v75, .long w76, .int v77, .int v79, .int v80, .int v81, .ref (ad 6), .ref (ad 7), .ref (ad 8), .ref (ad 9), .ref (ad 10), .ref (ad 11), .ref (ad 12), .ref (ad 13), .ref (ad 14), .ref (ad 15), .int v82, .int v84, .ref (ad 16), .int v86, .int v88, .int v90, .int v92, .int v93, .ref (ad 17), .ref (ad 18), .int v94, .ref (ad 19)]) := c95
  have q96 : fld (S66 0) 6 = v68.toInt := fld_of c95 rfl
  have q97 : fld (S66 0) 7 = v70.toInt := fld_of c95 rfl
  have q98 : fld (S66 0) 8 = v72.toInt := fld_of c95 rfl
  exact xri E hr hlk hQ (⟨hI, (o_trans (o_trans o_refl o32 (by decide)) o66 (by decide)), b66, (by omega), ⟨by omega, by omega⟩, (by omega)⟩) dX12_number__12
set_option maxHeartbeats 4000000 in
set_option maxRecDepth 100000 in
theorem gX12_numberw_6 (l : Launch) (g : GG) (ad : Nat → Nat) (hD : Dj ad 20) (S : SS) (hI : InvM g ad S) (wa1 : Int64) (a2 : Int32) (a3 : Int32) (ba2 : Bd a2 (0) (0)) (ba3 : Bd a3 (99) (99)) (hq1 : 0 ≤ fld (S 0) 6 + (-1) * fld (S 0) 7) : Met l yX12_number_ (wG (.code yX12_number_ cX12_number_ 5 (some .int))) (Rm 4) (XPre g ad 20 S [.ref (ad 0), .long wa1, .int a2, .int a3]) (va_Qi (fun r S' => InvM g ad S' ∧ (∀ j, j ∉ ([0] : List Nat) → S' j = S j) ∧ Bd r (0) (99) ∧ (0 ≤ fld (S' 0) 6 + (-1) * fld (S' 0) 7) ∧ (0 ≤ fld (S 0) 6 + (-1) * fld (S' 0) 6 ∧ 0 ≤ fld (S' 0) 6 + (-1) * fld (S 0) 6) ∧ (0 ≤ 4 * fld (S 0) 6 + (-4) * fld (S 0) 7 + fld (S 0) 8 + (-4) * fld (S' 0) 6 + 4 * fld (S' 0) 7 + (-1) * fld (S' 0) 8)) (QB g ad 20) (FA ad 20)) 0 0 (FA ad 20) := by
  refine xmet cX12_number_ "EbbWreckModel" (by decide) rfl (Nat.le_of_ble_eq_true rfl) (fun p e s m below meth c E hr hlk hml hQ ls hl => ?_)
  have hx := E.1
  have hb := E.2.1
  have hs : Sp ad 20 (FA ad 20) := Sp.fa hD
  have hl : lv_has ls 5 [(0, .ref (ad 0)), (1, .long wa1), (3, .int a2), (4, .int a3)] := hl
  obtain ⟨v1, v2, v4, v6, v8, v9, w10, v11, v13, v14, v15, v16, v18, v20, v22, v24, v26, v27, v28, c29, b3, b5, b7, b12, b17, b19, b21, b23, b25⟩ := invM_0 hI
  have c29 : S 0 = .inr (12, [.int v1, .ref (ad 1), .ref (ad 2), .ref (ad 3), .ref (ad 4), .ref (ad 5), .int v2, .int v4, .int v6, .int v8, .int v9, .long w10, .int v11, .int v13, .int v14, .int v15, .ref (ad 6), .ref (ad 7), .ref (ad 8), .ref (ad 9), .ref (ad 10), .ref (ad 11), .ref (ad 12), .ref (ad 13), .ref (ad 14), .ref (ad 15), .int v16, .int v18, .ref (ad 16), .int v20, .int v22, .int v24, .int v26, .int v27, .ref (ad 17), .ref (ad 18), .int v28, .ref (ad 19)]) := c29
  have q30 : fld (S 0) 6 = v2.toInt := fld_of c29 rfl
  have q31 : fld (S 0) 7 = v4.toInt := fld_of c29 rfl
  refine lv_aload_n hx hb dX12_number__0 rfl (lv_at hl 0 rfl) ?_
  refine lv_lload_n hx hb dX12_number__1 rfl (lv_at hl 1 rfl) ?_
  refine xcVv E hs hQ hml hl.1 0 (gX12_asks_0 l g ad hD S hI wa1 (by omega)) mX12_asks q1655 (by decide) c29 rfl rfl ⟨(Nat.le_of_ble_eq_true rfl), (Nat.le_of_ble_eq_true rfl)⟩ ⟨(Nat.le_of_ble_eq_true rfl), (Nat.le_of_ble_eq_true rfl)⟩ (Nat.le_of_ble_eq_true rfl) rfl dX12_number__2 (fun S32 H locs hp32 hQ _ => ?_)
  obtain ⟨hI, o32, g32_0, g32_1, g32_2⟩ := hp32
  obtain ⟨v33, v34, v36, v38, v40, v41, w42, v43, v45, v46, v47, v48, v50, v52, v54, v56, v58, v59, v60, c61, b35, b37, b39, b44, b49, b51, b53, b55, b57⟩ := invM_0 hI
  have c61 : S32 0 = .inr (12, [.int v33, .ref (ad 1), .ref (ad 2), .ref (ad 3), .ref (ad 4), .ref (ad 5), .int v34, .int v36, .int v38, .int v40, .int v41, .long w42, .int v43, .int v45, .int v46, .int v47, .ref (ad 6), .ref (ad 7), .ref (ad 8), .ref (ad 9), .ref (ad 10), .ref (ad 11), .ref (ad 12), .ref (ad 13), .ref (ad 14), .ref (ad 15), .int v48, .int v50, .ref (ad 16), .int v52, .int v54, .int v56, .int v58, .int v59, .ref (ad 17), .ref (ad 18), .int v60, .ref (ad 19)]) := c61
  have q62 : fld (S32 0) 6 = v34.toInt := fld_of c61 rfl
  have q63 : fld (S32 0) 7 = v36.toInt := fld_of c61 rfl
  have q64 : fld (S 0) 8 = v6.toInt := fld_of c29 rfl
  have q65 : fld (S32 0) 8 = v38.toInt := fld_of c61 rfl
  refine lv_aload_n hx hb dX12_number__5 rfl (lv_at hl 0 rfl) ?_
  refine lv_iload_n hx hb dX12_number__6 rfl (lv_at hl 2 rfl) ?_
  refine lv_iload hx hb dX12_number__7 (lv_at hl 3 rfl) ?_
  refine xcVi E hs hQ hml hl.1 0 (gX12_number_6 l g ad hD S32 hI a2 a3 ba2 ba3 (by omega)) mX12_number q1676 (by decide) c61 rfl rfl ⟨(Nat.le_of_ble_eq_true rfl), (Nat.le_of_ble_eq_true rfl)⟩ ⟨(Nat.le_of_ble_eq_true rfl), (Nat.le_of_ble_eq_true rfl)⟩ (Nat.le_of_ble_eq_true rfl) rfl dX12_number__9 (fun r66 S66 H locs hp66 hQ _ => ?_)
  obtain ⟨hI, o66, b66, g66_0, g66_1, g66_2⟩ := hp66
  obtain ⟨v67, v68, v70, v72, v74, v75, w76, v77, v79, v80, v81, v82, v84, v86, v88, v90, v92, v93, v94, c95, b69, b71, b73, b78, b83, b85, b87, b89, b91⟩ := invM_0 hI
  have c95 : S66 0 = .inr (12, [.int v67, .ref (ad 1), .ref (ad 2), .ref (ad 3), .ref (ad 4), .ref (ad 5), .int v68, .int v70, .int v72, .int v74, .int v75, .long w76, .int v77, .int v79, .int v80, .int v81, .ref (ad 6), .ref (ad 7), .ref (ad 8), .ref (ad 9), .ref (ad 10), .ref (ad 11), .ref (ad 12), .ref (ad 13), .ref (ad 14), .ref (ad 15), .int v82, .int v84, .ref (ad 16), .int v86, .int v88, .int v90, .int v92, .int v93, .ref (ad 17), .ref (ad 18), .int v94, .ref (ad 19)]) := c95
  have q96 : fld (S66 0) 6 = v68.toInt := fld_of c95 rfl
  have q97 : fld (S66 0) 7 = v70.toInt := fld_of c95 rfl
  have q98 : fld (S66 0) 8 = v72.toInt := fld_of c95 rfl
  exact xri E hr hlk hQ (⟨hI, (o_trans (o_trans o_refl o32 (by decide)) o66 (by decide)), b66, (by omega), ⟨by omega, by omega⟩, (by omega)⟩) dX12_number__12
set_option maxHeartbeats 4000000 in
set_option maxRecDepth 100000 in
theorem gX12_ends_0 (l : Launch) (g : GG) (ad : Nat → Nat) (hD : Dj ad 20) (S : SS) (hI : InvM g ad S) (hq1 : 0 ≤ fld (S 0) 6 + (-1) * fld (S 0) 7) : Met l yX12_ends (wG (.code yX12_ends cX12_ends 1 none)) (Rm 2) (XPre g ad 20 S [.ref (ad 0)]) (va_Qv (fun S' => InvM g ad S' ∧ (∀ j, j ∉ ([0] : List Nat) → S' j = S j) ∧ (0 ≤ fld (S' 0) 6 + (-1) * fld (S' 0) 7) ∧ (0 ≤ fld (S 0) 6 + (-1) * fld (S' 0) 6 ∧ 0 ≤ fld (S' 0) 6 + (-1) * fld (S 0) 6) ∧ (0 ≤ 4 * fld (S 0) 6 + (-4) * fld (S 0) 7 + fld (S 0) 8 + (-4) * fld (S' 0) 6 + 4 * fld (S' 0) 7 + (-1) * fld (S' 0) 8) ∧ (((-1) * fld (S' 0) 12 < 0 ∨ (0 ≤ 4 * fld (S 0) 6 + (-4) * fld (S 0) 7 + fld (S 0) 8 + (-4) * fld (S' 0) 6 + 4 * fld (S' 0) 7 + (-1) * fld (S' 0) 8 + (-1))))) (QB g ad 20) (FA ad 20)) 0 0 (FA ad 20) := by
  refine xmet cX12_ends "EbbWreckModel" (by decide) rfl (Nat.le_of_ble_eq_true rfl) (fun p e s m below meth c E hr hlk hml hQ ls hl => ?_)
  have hx := E.1
  have hb := E.2.1
  have hs : Sp ad 20 (FA ad 20) := Sp.fa hD
  have hl : lv_has ls 1 [(0, .ref (ad 0))] := hl
  obtain ⟨v1, v2, v4, v6, v8, v9, w10, v11, v13, v14, v15, v16, v18, v20, v22, v24, v26, v27, v28, c29, b3, b5, b7, b12, b17, b19, b21, b23, b25⟩ := invM_0 hI
  have c29 : S 0 = .inr (12, [.int v1, .ref (ad 1), .ref (ad 2), .ref (ad 3), .ref (ad 4), .ref (ad 5), .int v2, .int v4, .int v6, .int v8, .int v9, .long w10, .int v11, .int v13, .int v14, .int v15, .ref (ad 6), .ref (ad 7), .ref (ad 8), .ref (ad 9), .ref (ad 10), .ref (ad 11), .ref (ad 12), .ref (ad 13), .ref (ad 14), .ref (ad 15), .int v16, .int v18, .ref (ad 16), .int v20, .int v22, .int v24, .int v26, .int v27, .ref (ad 17), .ref (ad 18), .int v28, .ref (ad 19)]) := c29
  have q30 : fld (S 0) 6 = v2.toInt := fld_of c29 rfl
  have q31 : fld (S 0) 7 = v4.toInt := fld_of c29 rfl
  refine lv_aload_n hx hb dX12_ends_0 rfl (lv_at hl 0 rfl) ?_
  refine xget E hQ 0 (by decide) c29 rfl 8 (by decide) q1476 rfl dX12_ends_1 ?_
  refine lv_iconst (v := 3) hx hb dX12_ends_4 (by decide) ?_
  refine lv_icmp_eq (tgt := 13) hx hb dX12_ends_5 (by decide) (fun k32 => ?_) (fun k32 => ?_)
  · have h33 := ib_eq k32
    have b34 : Bd v6 (3) (3) := ⟨((rf_eq b7 (by decide : Bd 3 (3) (3)) h33).1).1, ((rf_eq b7 (by decide : Bd 3 (3) (3)) h33).1).2⟩
    refine lv_aload_n hx hb dX12_ends_13 rfl (lv_at hl 0 rfl) ?_
    refine xget E hQ 0 (by decide) c29 rfl 12 (by decide) q1480 rfl dX12_ends_14 ?_
    refine lv_if_ne (tgt := 24) hx hb dX12_ends_17 (by decide) (fun k35 => ?_) (fun k35 => ?_)
    · have h36 := ib_ne k35
      have b37 : Bd v11 (1) (3) := rf_nlo b12 (by decide : Bd 0 (0) (0)) h36
      have q38 : fld (S 0) 8 = v6.toInt := fld_of c29 rfl
      have q39 : fld (S 0) 12 = v11.toInt := fld_of c29 rfl
      exact xrv E hr hlk hQ (⟨hI, o_refl, (by omega), ⟨by omega, by omega⟩, (by omega), Or.inl (by omega)⟩) dX12_ends_24
    · have h40 := ib_eq k35
      have b41 : Bd v11 (0) (0) := ⟨(b12).1, ((rf_eq b12 (by decide : Bd 0 (0) (0)) h40).1).2⟩
      refine lv_aload_n hx hb dX12_ends_20 rfl (lv_at hl 0 rfl) ?_
      refine xcVv E hs hQ hml hl.1 0 (gX12_next_0 l g ad hD S hI (by omega)) mX12_next q1637 (by decide) c29 rfl rfl ⟨(Nat.le_of_ble_eq_true rfl), (Nat.le_of_ble_eq_true rfl)⟩ ⟨(Nat.le_of_ble_eq_true rfl), (Nat.le_of_ble_eq_true rfl)⟩ (Nat.le_of_ble_eq_true rfl) rfl dX12_ends_21 (fun S42 H locs hp42 hQ _ => ?_)
      obtain ⟨hI, o42, g42_0, g42_1, g42_2, g42_3, g42_4⟩ := hp42
      obtain ⟨v43, v44, v46, v48, v50, v51, w52, v53, v55, v56, v57, v58, v60, v62, v64, v66, v68, v69, v70, c71, b45, b47, b49, b54, b59, b61, b63, b65, b67⟩ := invM_0 hI
      have c71 : S42 0 = .inr (12, [.int v43, .ref (ad 1), .ref (ad 2), .ref (ad 3), .ref (ad 4), .ref (ad 5), .int v44, .int v46, .int v48, .int v50, .int v51, .long w52, .int v53, .int v55, .int v56, .int v57, .ref (ad 6), .ref (ad 7), .ref (ad 8), .ref (ad 9), .ref (ad 10), .ref (ad 11), .ref (ad 12), .ref (ad 13), .ref (ad 14), .ref (ad 15), .int v58, .int v60, .ref (ad 16), .int v62, .int v64, .int v66, .int v68, .int v69, .ref (ad 17), .ref (ad 18), .int v70, .ref (ad 19)]) := c71
      have q72 : fld (S42 0) 6 = v44.toInt := fld_of c71 rfl
      have q73 : fld (S42 0) 7 = v46.toInt := fld_of c71 rfl
      have q74 : fld (S 0) 12 = v11.toInt := fld_of c29 rfl
      have q75 : fld (S42 0) 12 = v53.toInt := fld_of c71 rfl
      have b76 : Bd v53 (0) (0) := ⟨(b54).1, by omega⟩
      have q77 : fld (S42 0) 8 = v48.toInt := fld_of c71 rfl
      have q78 : fld (S 0) 8 = v6.toInt := fld_of c29 rfl
      exact xrv E hr hlk hQ (⟨hI, (o_trans o_refl o42 (by decide)), (by omega), ⟨by omega, by omega⟩, (by omega), Or.inr (by omega)⟩) dX12_ends_24
  · have h79 := ib_ne k32
    refine lv_aload_n hx hb dX12_ends_8 rfl (lv_at hl 0 rfl) ?_
    refine lv_iconst (v := 1) hx hb dX12_ends_9 (by decide) ?_
    refine xcVv E hs hQ hml hl.1 0 (gX12_fails_0 l g ad hD S hI 1 (ib_wk (by decide : Bd 1 (1) (1)) (by decide) (by decide))) mX12_fails q1667 (by decide) c29 rfl rfl ⟨(Nat.le_of_ble_eq_true rfl), (Nat.le_of_ble_eq_true rfl)⟩ ⟨(Nat.le_of_ble_eq_true rfl), (Nat.le_of_ble_eq_true rfl)⟩ (Nat.le_of_ble_eq_true rfl) rfl dX12_ends_10 (fun S80 H locs hp80 hQ _ => ?_)
    obtain ⟨hI, o80, g80_0, g80_1, g80_2, g80_3⟩ := hp80
    obtain ⟨v81, v82, v84, v86, v88, v89, w90, v91, v93, v94, v95, v96, v98, v100, v102, v104, v106, v107, v108, c109, b83, b85, b87, b92, b97, b99, b101, b103, b105⟩ := invM_0 hI
    have c109 : S80 0 = .inr (12, [.int v81, .ref (ad 1), .ref (ad 2), .ref (ad 3), .ref (ad 4), .ref (ad 5), .int v82, .int v84, .int v86, .int v88, .int v89, .long w90, .int v91, .int v93, .int v94, .int v95, .ref (ad 6), .ref (ad 7), .ref (ad 8), .ref (ad 9), .ref (ad 10), .ref (ad 11), .ref (ad 12), .ref (ad 13), .ref (ad 14), .ref (ad 15), .int v96, .int v98, .ref (ad 16), .int v100, .int v102, .int v104, .int v106, .int v107, .ref (ad 17), .ref (ad 18), .int v108, .ref (ad 19)]) := c109
    have q110 : fld (S80 0) 12 = v91.toInt := fld_of c109 rfl
    have b111 : Bd v91 (1) (3) := ⟨by omega, (b92).2⟩
    have q112 : fld (S80 0) 6 = v82.toInt := fld_of c109 rfl
    have q113 : fld (S80 0) 7 = v84.toInt := fld_of c109 rfl
    have q114 : fld (S 0) 8 = v6.toInt := fld_of c29 rfl
    have q115 : fld (S80 0) 8 = v86.toInt := fld_of c109 rfl
    refine lv_aload_n hx hb dX12_ends_13 rfl (lv_at hl 0 rfl) ?_
    refine xget E hQ 0 (by decide) c109 rfl 12 (by decide) q1480 rfl dX12_ends_14 ?_
    refine lv_if_ne (tgt := 24) hx hb dX12_ends_17 (by decide) (fun k116 => ?_) (fun k116 => ?_)
    · have h117 := ib_ne k116
      exact xrv E hr hlk hQ (⟨hI, (o_trans o_refl o80 (by decide)), (by omega), ⟨by omega, by omega⟩, (by omega), Or.inl (by omega)⟩) dX12_ends_24
    · have h118 := ib_eq k116
      have b119 : Bd v91 (1) (0) := ⟨(b111).1, ((rf_eq b111 (by decide : Bd 0 (0) (0)) h118).1).2⟩
      exact absurd (Int.le_trans b119.1 b119.2) (by decide)
set_option maxHeartbeats 4000000 in
set_option maxRecDepth 100000 in
theorem gX12_begins_0 (l : Launch) (g : GG) (ad : Nat → Nat) (hD : Dj ad 20) (S : SS) (hI : InvM g ad S) : Met l yX12_begins (wG (.code yX12_begins cX12_begins 1 none)) (Rm 2) (XPre g ad 20 S [.ref (ad 0)]) (va_Qv (fun S' => InvM g ad S' ∧ (∀ j, j ∉ ([0] : List Nat) → S' j = S j) ∧ (0 ≤ fld (S' 0) 6 + (-1) * fld (S' 0) 7) ∧ (0 ≤ fld (S 0) 6 + (-1) * fld (S' 0) 6 ∧ 0 ≤ fld (S' 0) 6 + (-1) * fld (S 0) 6) ∧ (0 ≤ (-1) * fld (S' 0) 12 ∧ 0 ≤ fld (S' 0) 12)) (QB g ad 20) (FA ad 20)) 0 0 (FA ad 20) := by
  refine xmet cX12_begins "EbbWreckModel" (by decide) rfl (Nat.le_of_ble_eq_true rfl) (fun p e s m below meth c E hr hlk hml hQ ls hl => ?_)
  have hx := E.1
  have hb := E.2.1
  have hs : Sp ad 20 (FA ad 20) := Sp.fa hD
  have hl : lv_has ls 1 [(0, .ref (ad 0))] := hl
  obtain ⟨v1, v2, v4, v6, v8, v9, w10, v11, v13, v14, v15, v16, v18, v20, v22, v24, v26, v27, v28, c29, b3, b5, b7, b12, b17, b19, b21, b23, b25⟩ := invM_0 hI
  have c29 : S 0 = .inr (12, [.int v1, .ref (ad 1), .ref (ad 2), .ref (ad 3), .ref (ad 4), .ref (ad 5), .int v2, .int v4, .int v6, .int v8, .int v9, .long w10, .int v11, .int v13, .int v14, .int v15, .ref (ad 6), .ref (ad 7), .ref (ad 8), .ref (ad 9), .ref (ad 10), .ref (ad 11), .ref (ad 12), .ref (ad 13), .ref (ad 14), .ref (ad 15), .int v16, .int v18, .ref (ad 16), .int v20, .int v22, .int v24, .int v26, .int v27, .ref (ad 17), .ref (ad 18), .int v28, .ref (ad 19)]) := c29
  refine lv_aload_n hx hb dX12_begins_0 rfl (lv_at hl 0 rfl) ?_
  refine lv_iconst (v := 0) hx hb dX12_begins_1 (by decide) ?_
  refine xputi E hs hQ 0 (by decide) c29 rfl 12 (by decide) q1480 rfl rfl (Nat.le_of_ble_eq_true rfl) dX12_begins_2 (fun H locs S30 eS30 hQ => ?_)
  have hI := invM_up_0 hI eS30 ⟨v1, v2, v4, v6, v8, v9, w10, 0, v13, v14, v15, v16, v18, v20, v22, v24, v26, v27, v28, rfl, b3, b5, b7, (ib_wk (by decide : Bd 0 (0) (0)) (by decide) (by decide)), b17, b19, b21, b23, b25⟩
  have c31 : S30 0 = .inr (12, [.int v1, .ref (ad 1), .ref (ad 2), .ref (ad 3), .ref (ad 4), .ref (ad 5), .int v2, .int v4, .int v6, .int v8, .int v9, .long w10, .int 0, .int v13, .int v14, .int v15, .ref (ad 6), .ref (ad 7), .ref (ad 8), .ref (ad 9), .ref (ad 10), .ref (ad 11), .ref (ad 12), .ref (ad 13), .ref (ad 14), .ref (ad 15), .int v16, .int v18, .ref (ad 16), .int v20, .int v22, .int v24, .int v26, .int v27, .ref (ad 17), .ref (ad 18), .int v28, .ref (ad 19)]) := up_at eS30 rfl
  refine lv_aload_n hx hb dX12_begins_5 rfl (lv_at hl 0 rfl) ?_
  refine lv_iconst (v := (-1)) hx hb dX12_begins_6 (by decide) ?_
  refine xputi E hs hQ 0 (by decide) c31 rfl 13 (by decide) q1481 rfl rfl (Nat.le_of_ble_eq_true rfl) dX12_begins_7 (fun H locs S32 eS32 hQ => ?_)
  have hI := invM_up_0 hI eS32 ⟨v1, v2, v4, v6, v8, v9, w10, 0, (-1), v14, v15, v16, v18, v20, v22, v24, v26, v27, v28, rfl, b3, b5, b7, (ib_wk (by decide : Bd 0 (0) (0)) (by decide) (by decide)), b17, b19, b21, b23, b25⟩
  have c33 : S32 0 = .inr (12, [.int v1, .ref (ad 1), .ref (ad 2), .ref (ad 3), .ref (ad 4), .ref (ad 5), .int v2, .int v4, .int v6, .int v8, .int v9, .long w10, .int 0, .int (-1), .int v14, .int v15, .ref (ad 6), .ref (ad 7), .ref (ad 8), .ref (ad 9), .ref (ad 10), .ref (ad 11), .ref (ad 12), .ref (ad 13), .ref (ad 14), .ref (ad 15), .int v16, .int v18, .ref (ad 16), .int v20, .int v22, .int v24, .int v26, .int v27, .ref (ad 17), .ref (ad 18), .int v28, .ref (ad 19)]) := up_at eS32 rfl
  refine lv_aload_n hx hb dX12_begins_10 rfl (lv_at hl 0 rfl) ?_
  refine lv_iconst (v := 0) hx hb dX12_begins_11 (by decide) ?_
  refine xputi E hs hQ 0 (by decide) c33 rfl 7 (by decide) q1475 rfl rfl (Nat.le_of_ble_eq_true rfl) dX12_begins_12 (fun H locs S34 eS34 hQ => ?_)
  have hI := invM_up_0 hI eS34 ⟨v1, v2, 0, v6, v8, v9, w10, 0, (-1), v14, v15, v16, v18, v20, v22, v24, v26, v27, v28, rfl, b3, (ib_wk (by decide : Bd 0 (0) (0)) (by decide) (by decide)), b7, (ib_wk (by decide : Bd 0 (0) (0)) (by decide) (by decide)), b17, b19, b21, b23, b25⟩
  have c35 : S34 0 = .inr (12, [.int v1, .ref (ad 1), .ref (ad 2), .ref (ad 3), .ref (ad 4), .ref (ad 5), .int v2, .int 0, .int v6, .int v8, .int v9, .long w10, .int 0, .int (-1), .int v14, .int v15, .ref (ad 6), .ref (ad 7), .ref (ad 8), .ref (ad 9), .ref (ad 10), .ref (ad 11), .ref (ad 12), .ref (ad 13), .ref (ad 14), .ref (ad 15), .int v16, .int v18, .ref (ad 16), .int v20, .int v22, .int v24, .int v26, .int v27, .ref (ad 17), .ref (ad 18), .int v28, .ref (ad 19)]) := up_at eS34 rfl
  refine lv_aload_n hx hb dX12_begins_15 rfl (lv_at hl 0 rfl) ?_
  have q36 : fld (S34 0) 6 = v2.toInt := fld_of c35 rfl
  have q37 : fld (S34 0) 7 = (0 : Int32).toInt := fld_of c35 rfl
  have q37 : fld (S34 0) 7 = 0 := q37.trans (by decide)
  refine xcVv E hs hQ hml hl.1 0 (gX12_next_0 l g ad hD S34 hI (by omega)) mX12_next q1637 (by decide) c35 rfl rfl ⟨(Nat.le_of_ble_eq_true rfl), (Nat.le_of_ble_eq_true rfl)⟩ ⟨(Nat.le_of_ble_eq_true rfl), (Nat.le_of_ble_eq_true rfl)⟩ (Nat.le_of_ble_eq_true rfl) rfl dX12_begins_16 (fun S38 H locs hp38 hQ _ => ?_)
  obtain ⟨hI, o38, g38_0, g38_1, g38_2, g38_3, g38_4⟩ := hp38
  obtain ⟨v39, v40, v42, v44, v46, v47, w48, v49, v51, v52, v53, v54, v56, v58, v60, v62, v64, v65, v66, c67, b41, b43, b45, b50, b55, b57, b59, b61, b63⟩ := invM_0 hI
  have c67 : S38 0 = .inr (12, [.int v39, .ref (ad 1), .ref (ad 2), .ref (ad 3), .ref (ad 4), .ref (ad 5), .int v40, .int v42, .int v44, .int v46, .int v47, .long w48, .int v49, .int v51, .int v52, .int v53, .ref (ad 6), .ref (ad 7), .ref (ad 8), .ref (ad 9), .ref (ad 10), .ref (ad 11), .ref (ad 12), .ref (ad 13), .ref (ad 14), .ref (ad 15), .int v54, .int v56, .ref (ad 16), .int v58, .int v60, .int v62, .int v64, .int v65, .ref (ad 17), .ref (ad 18), .int v66, .ref (ad 19)]) := c67
  have q68 : fld (S38 0) 6 = v40.toInt := fld_of c67 rfl
  have q69 : fld (S38 0) 7 = v42.toInt := fld_of c67 rfl
  have q70 : fld (S34 0) 12 = (0 : Int32).toInt := fld_of c35 rfl
  have q70 : fld (S34 0) 12 = 0 := q70.trans (by decide)
  have q71 : fld (S38 0) 12 = v49.toInt := fld_of c67 rfl
  have b72 : Bd v49 (0) (0) := ⟨(b50).1, by omega⟩
  have q73 : fld (S38 0) 8 = v44.toInt := fld_of c67 rfl
  have q74 : fld (S 0) 6 = v2.toInt := fld_of c29 rfl
  exact xrv E hr hlk hQ (⟨hI, (o_trans (up_o (up_o (up_o o_refl eS30 (by decide)) eS32 (by decide)) eS34 (by decide)) o38 (by decide)), (by omega), ⟨by omega, by omega⟩, ⟨by omega, by omega⟩⟩) dX12_begins_19
set_option maxHeartbeats 4000000 in
set_option maxRecDepth 100000 in
theorem gX12_isOver_0 (l : Launch) (g : GG) (ad : Nat → Nat) (hD : Dj ad 20) (S : SS) (hI : InvM g ad S) : Met l yX12_isOver (wG (.code yX12_isOver cX12_isOver 1 none)) (Rm 0) (XPre g ad 20 S [.ref (ad 0)]) (va_Qv (fun S' => InvM g ad S' ∧ (∀ j, j ∉ ([0] : List Nat) → S' j = S j) ∧ (0 ≤ fld (S 0) 12 + (-1) * fld (S' 0) 12 ∧ 0 ≤ fld (S' 0) 12 + (-1) * fld (S 0) 12)) (QB g ad 20) (FA ad 20)) 0 0 (FA ad 20) := by
  refine xmet cX12_isOver "EbbWreckModel" (by decide) rfl (Nat.le_of_ble_eq_true rfl) (fun p e s m below meth c E hr hlk hml hQ ls hl => ?_)
  have hx := E.1
  have hb := E.2.1
  have hs : Sp ad 20 (FA ad 20) := Sp.fa hD
  have hl : lv_has ls 1 [(0, .ref (ad 0))] := hl
  obtain ⟨v1, v2, v4, v6, v8, v9, w10, v11, v13, v14, v15, v16, v18, v20, v22, v24, v26, v27, v28, c29, b3, b5, b7, b12, b17, b19, b21, b23, b25⟩ := invM_0 hI
  have c29 : S 0 = .inr (12, [.int v1, .ref (ad 1), .ref (ad 2), .ref (ad 3), .ref (ad 4), .ref (ad 5), .int v2, .int v4, .int v6, .int v8, .int v9, .long w10, .int v11, .int v13, .int v14, .int v15, .ref (ad 6), .ref (ad 7), .ref (ad 8), .ref (ad 9), .ref (ad 10), .ref (ad 11), .ref (ad 12), .ref (ad 13), .ref (ad 14), .ref (ad 15), .int v16, .int v18, .ref (ad 16), .int v20, .int v22, .int v24, .int v26, .int v27, .ref (ad 17), .ref (ad 18), .int v28, .ref (ad 19)]) := c29
  refine lv_aload_n hx hb dX12_isOver_0 rfl (lv_at hl 0 rfl) ?_
  refine lv_iconst (v := 0) hx hb dX12_isOver_1 (by decide) ?_
  refine xputi E hs hQ 0 (by decide) c29 rfl 6 (by decide) q1474 rfl rfl (Nat.le_of_ble_eq_true rfl) dX12_isOver_2 (fun H locs S30 eS30 hQ => ?_)
  have hI := invM_up_0 hI eS30 ⟨v1, 0, v4, v6, v8, v9, w10, v11, v13, v14, v15, v16, v18, v20, v22, v24, v26, v27, v28, rfl, (ib_wk (by decide : Bd 0 (0) (0)) (by decide) (by decide)), b5, b7, b12, b17, b19, b21, b23, b25⟩
  have c31 : S30 0 = .inr (12, [.int v1, .ref (ad 1), .ref (ad 2), .ref (ad 3), .ref (ad 4), .ref (ad 5), .int 0, .int v4, .int v6, .int v8, .int v9, .long w10, .int v11, .int v13, .int v14, .int v15, .ref (ad 6), .ref (ad 7), .ref (ad 8), .ref (ad 9), .ref (ad 10), .ref (ad 11), .ref (ad 12), .ref (ad 13), .ref (ad 14), .ref (ad 15), .int v16, .int v18, .ref (ad 16), .int v20, .int v22, .int v24, .int v26, .int v27, .ref (ad 17), .ref (ad 18), .int v28, .ref (ad 19)]) := up_at eS30 rfl
  refine lv_aload_n hx hb dX12_isOver_5 rfl (lv_at hl 0 rfl) ?_
  refine lv_aload_n hx hb dX12_isOver_6 rfl (lv_at hl 0 rfl) ?_
  refine xget E hQ 0 (by decide) c31 rfl 12 (by decide) q1480 rfl dX12_isOver_7 ?_
  refine xputi E hs hQ 0 (by decide) c31 rfl 14 (by decide) q1482 rfl rfl (Nat.le_of_ble_eq_true rfl) dX12_isOver_10 (fun H locs S32 eS32 hQ => ?_)
  have hI := invM_up_0 hI eS32 ⟨v1, 0, v4, v6, v8, v9, w10, v11, v13, v11, v15, v16, v18, v20, v22, v24, v26, v27, v28, rfl, (ib_wk (by decide : Bd 0 (0) (0)) (by decide) (by decide)), b5, b7, b12, b17, b19, b21, b23, b25⟩
  have c33 : S32 0 = .inr (12, [.int v1, .ref (ad 1), .ref (ad 2), .ref (ad 3), .ref (ad 4), .ref (ad 5), .int 0, .int v4, .int v6, .int v8, .int v9, .long w10, .int v11, .int v13, .int v11, .int v15, .ref (ad 6), .ref (ad 7), .ref (ad 8), .ref (ad 9), .ref (ad 10), .ref (ad 11), .ref (ad 12), .ref (ad 13), .ref (ad 14), .ref (ad 15), .int v16, .int v18, .ref (ad 16), .int v20, .int v22, .int v24, .int v26, .int v27, .ref (ad 17), .ref (ad 18), .int v28, .ref (ad 19)]) := up_at eS32 rfl
  refine lv_aload_n hx hb dX12_isOver_13 rfl (lv_at hl 0 rfl) ?_
  refine lv_aload_n hx hb dX12_isOver_14 rfl (lv_at hl 0 rfl) ?_
  refine xget E hQ 0 (by decide) c33 rfl 12 (by decide) q1480 rfl dX12_isOver_15 ?_
  refine lv_if_ne (tgt := 25) hx hb dX12_isOver_18 (by decide) (fun k34 => ?_) (fun k34 => ?_)
  · have h35 := ib_ne k34
    have b36 : Bd v11 (1) (3) := rf_nlo b12 (by decide : Bd 0 (0) (0)) h35
    refine lv_aload_n hx hb dX12_isOver_25 rfl (lv_at hl 0 rfl) ?_
    refine xget E hQ 0 (by decide) c33 rfl 13 (by decide) q1481 rfl dX12_isOver_26 ?_
    refine xputi E hs hQ 0 (by decide) c33 rfl 15 (by decide) q1483 rfl rfl (Nat.le_of_ble_eq_true rfl) dX12_isOver_29 (fun H locs S37 eS37 hQ => ?_)
    have hI := invM_up_0 hI eS37 ⟨v1, 0, v4, v6, v8, v9, w10, v11, v13, v11, v13, v16, v18, v20, v22, v24, v26, v27, v28, rfl, (ib_wk (by decide : Bd 0 (0) (0)) (by decide) (by decide)), b5, b7, (ib_wk b36 (by decide) (by decide)), b17, b19, b21, b23, b25⟩
    have c38 : S37 0 = .inr (12, [.int v1, .ref (ad 1), .ref (ad 2), .ref (ad 3), .ref (ad 4), .ref (ad 5), .int 0, .int v4, .int v6, .int v8, .int v9, .long w10, .int v11, .int v13, .int v11, .int v13, .ref (ad 6), .ref (ad 7), .ref (ad 8), .ref (ad 9), .ref (ad 10), .ref (ad 11), .ref (ad 12), .ref (ad 13), .ref (ad 14), .ref (ad 15), .int v16, .int v18, .ref (ad 16), .int v20, .int v22, .int v24, .int v26, .int v27, .ref (ad 17), .ref (ad 18), .int v28, .ref (ad 19)]) := up_at eS37 rfl
    have q39 : fld (S 0) 12 = v11.toInt := fld_of c29 rfl
    have q40 : fld (S37 0) 12 = v11.toInt := fld_of c38 rfl
    exact xrv E hr hlk hQ (⟨hI, (up_o (up_o (up_o o_refl eS30 (by decide)) eS32 (by decide)) eS37 (by decide)), ⟨by omega, by omega⟩⟩) dX12_isOver_32
  · have h41 := ib_eq k34
    have b42 : Bd v11 (0) (0) := ⟨(b12).1, ((rf_eq b12 (by decide : Bd 0 (0) (0)) h41).1).2⟩
    refine lv_iconst (v := (-1)) hx hb dX12_isOver_21 (by decide) ?_
    refine lv_goto (tgt := 29) hx hb dX12_isOver_22 (by decide) ?_
    refine xputi E hs hQ 0 (by decide) c33 rfl 15 (by decide) q1483 rfl rfl (Nat.le_of_ble_eq_true rfl) dX12_isOver_29 (fun H locs S43 eS43 hQ => ?_)
    have hI := invM_up_0 hI eS43 ⟨v1, 0, v4, v6, v8, v9, w10, v11, v13, v11, (-1), v16, v18, v20, v22, v24, v26, v27, v28, rfl, (ib_wk (by decide : Bd 0 (0) (0)) (by decide) (by decide)), b5, b7, (ib_wk b42 (by decide) (by decide)), b17, b19, b21, b23, b25⟩
    have c44 : S43 0 = .inr (12, [.int v1, .ref (ad 1), .ref (ad 2), .ref (ad 3), .ref (ad 4), .ref (ad 5), .int 0, .int v4, .int v6, .int v8, .int v9, .long w10, .int v11, .int v13, .int v11, .int (-1), .ref (ad 6), .ref (ad 7), .ref (ad 8), .ref (ad 9), .ref (ad 10), .ref (ad 11), .ref (ad 12), .ref (ad 13), .ref (ad 14), .ref (ad 15), .int v16, .int v18, .ref (ad 16), .int v20, .int v22, .int v24, .int v26, .int v27, .ref (ad 17), .ref (ad 18), .int v28, .ref (ad 19)]) := up_at eS43 rfl
    have q45 : fld (S 0) 12 = v11.toInt := fld_of c29 rfl
    have q46 : fld (S43 0) 12 = v11.toInt := fld_of c44 rfl
    exact xrv E hr hlk hQ (⟨hI, (up_o (up_o (up_o o_refl eS30 (by decide)) eS32 (by decide)) eS43 (by decide)), ⟨by omega, by omega⟩⟩) dX12_isOver_32
set_option maxHeartbeats 4000000 in
set_option maxRecDepth 100000 in
theorem gX12_hasRead_0 (l : Launch) (g : GG) (ad : Nat → Nat) (hD : Dj ad 20) (S : SS) (hI : InvM g ad S) : Met l yX12_hasRead (wG (.code yX12_hasRead cX12_hasRead 2 (some .int))) (Rm 0) (XPre g ad 20 S [.ref (ad 0), .int 0]) (va_Qi (fun r S' => S = S' ∧ Bd r (0) (12) ∧ (0 ≤ elm (S 7) 40 + (-1) * r.toInt ∧ 0 ≤ r.toInt + (-1) * elm (S 7) 40)) (QB g ad 20) (FA ad 20)) 0 0 (FA ad 20) := by
  refine xmet cX12_hasRead "EbbWreckModel" (by decide) rfl (Nat.le_of_ble_eq_true rfl) (fun p e s m below meth c E hr hlk hml hQ ls hl => ?_)
  have hx := E.1
  have hb := E.2.1
  have hs : Sp ad 20 (FA ad 20) := Sp.fa hD
  have hl : lv_has ls 2 [(0, .ref (ad 0)), (1, .int 0)] := hl
  obtain ⟨f1, c2, b3⟩ := invM_7 hI
  obtain ⟨v4, ee5⟩ : ∃ z : Int32, f1 40 = z := ⟨_, rfl⟩
  have b6 : Bd v4 (0) (12) := (by rw [← ee5]; exact b3.1 40 (by decide))
  refine lv_aload_n hx hb dX12_hasRead_0 rfl (lv_at hl 0 rfl) ?_
  obtain ⟨v7, v8, v10, v12, v14, v15, w16, v17, v19, v20, v21, v22, v24, v26, v28, v30, v32, v33, v34, c35, b9, b11, b13, b18, b23, b25, b27, b29, b31⟩ := invM_0 hI
  have c35 : S 0 = .inr (12, [.int v7, .ref (ad 1), .ref (ad 2), .ref (ad 3), .ref (ad 4), .ref (ad 5), .int v8, .int v10, .int v12, .int v14, .int v15, .long w16, .int v17, .int v19, .int v20, .int v21, .ref (ad 6), .ref (ad 7), .ref (ad 8), .ref (ad 9), .ref (ad 10), .ref (ad 11), .ref (ad 12), .ref (ad 13), .ref (ad 14), .ref (ad 15), .int v22, .int v24, .ref (ad 16), .int v26, .int v28, .int v30, .int v32, .int v33, .ref (ad 17), .ref (ad 18), .int v34, .ref (ad 19)]) := c35
  refine xget E hQ 0 (by decide) c35 rfl 17 (by decide) q1485 rfl dX12_hasRead_1 ?_
  refine lv_bipush (v := 40) hx hb dX12_hasRead_4 (by decide) ?_
  refine lv_iload_n hx hb dX12_hasRead_6 rfl (lv_at hl 1 rfl) ?_
  refine lv_iadd hx hb dX12_hasRead_7 ?_
  refine sb_at (P := fun z => W _ _ _ _ _ _ _ _ _ _ _ _ _ _ _ (F0 _ _ _ (.int z :: _))) (show (40 : Int32) + 0 = 40 by decide) ?_
  refine xiald E hQ 7 (by decide) c2 (vp_in_lit 40 50 (by decide)) dX12_hasRead_8 ?_
  refine sb_at (P := fun z => W _ _ _ _ _ _ _ _ _ _ _ _ _ _ _ (F0 _ _ _ (.int z :: _))) (show f1 (40 : Int32).toNatClampNeg = v4 from ee5) ?_
  have q36 : elm (S 7) 40 = v4.toInt := (elm_of c2 40).trans (congrArg Int32.toInt (ee5))
  exact xri E hr hlk hQ (⟨rfl, b6, ⟨by omega, by omega⟩⟩) dX12_hasRead_9
set_option maxHeartbeats 4000000 in
set_option maxRecDepth 100000 in
theorem gX12_hasRead_5 (l : Launch) (g : GG) (ad : Nat → Nat) (hD : Dj ad 20) (S : SS) (hI : InvM g ad S) : Met l yX12_hasRead (wG (.code yX12_hasRead cX12_hasRead 2 (some .int))) (Rm 0) (XPre g ad 20 S [.ref (ad 0), .int 5]) (va_Qi (fun _ S' => S = S') (QB g ad 20) (FA ad 20)) 0 0 (FA ad 20) := by
  refine xmet cX12_hasRead "EbbWreckModel" (by decide) rfl (Nat.le_of_ble_eq_true rfl) (fun p e s m below meth c E hr hlk hml hQ ls hl => ?_)
  have hx := E.1
  have hb := E.2.1
  have hs : Sp ad 20 (FA ad 20) := Sp.fa hD
  have hl : lv_has ls 2 [(0, .ref (ad 0)), (1, .int 5)] := hl
  refine lv_aload_n hx hb dX12_hasRead_0 rfl (lv_at hl 0 rfl) ?_
  obtain ⟨v1, v2, v4, v6, v8, v9, w10, v11, v13, v14, v15, v16, v18, v20, v22, v24, v26, v27, v28, c29, b3, b5, b7, b12, b17, b19, b21, b23, b25⟩ := invM_0 hI
  have c29 : S 0 = .inr (12, [.int v1, .ref (ad 1), .ref (ad 2), .ref (ad 3), .ref (ad 4), .ref (ad 5), .int v2, .int v4, .int v6, .int v8, .int v9, .long w10, .int v11, .int v13, .int v14, .int v15, .ref (ad 6), .ref (ad 7), .ref (ad 8), .ref (ad 9), .ref (ad 10), .ref (ad 11), .ref (ad 12), .ref (ad 13), .ref (ad 14), .ref (ad 15), .int v16, .int v18, .ref (ad 16), .int v20, .int v22, .int v24, .int v26, .int v27, .ref (ad 17), .ref (ad 18), .int v28, .ref (ad 19)]) := c29
  refine xget E hQ 0 (by decide) c29 rfl 17 (by decide) q1485 rfl dX12_hasRead_1 ?_
  refine lv_bipush (v := 40) hx hb dX12_hasRead_4 (by decide) ?_
  refine lv_iload_n hx hb dX12_hasRead_6 rfl (lv_at hl 1 rfl) ?_
  refine lv_iadd hx hb dX12_hasRead_7 ?_
  refine sb_at (P := fun z => W _ _ _ _ _ _ _ _ _ _ _ _ _ _ _ (F0 _ _ _ (.int z :: _))) (show (40 : Int32) + 5 = 45 by decide) ?_
  obtain ⟨f30, c31, b32⟩ := invM_7 hI
  refine xiald E hQ 7 (by decide) c31 (vp_in_lit 45 50 (by decide)) dX12_hasRead_8 ?_
  obtain ⟨v33, ee34⟩ : ∃ z : Int32, f30 45 = z := ⟨_, rfl⟩
  refine sb_at (P := fun z => W _ _ _ _ _ _ _ _ _ _ _ _ _ _ _ (F0 _ _ _ (.int z :: _))) (show f30 (45 : Int32).toNatClampNeg = v33 from ee34) ?_
  exact xri E hr hlk hQ (rfl) dX12_hasRead_9
set_option maxHeartbeats 4000000 in
set_option maxRecDepth 100000 in
theorem gX12_hasRead_6 (l : Launch) (g : GG) (ad : Nat → Nat) (hD : Dj ad 20) (S : SS) (hI : InvM g ad S) : Met l yX12_hasRead (wG (.code yX12_hasRead cX12_hasRead 2 (some .int))) (Rm 0) (XPre g ad 20 S [.ref (ad 0), .int 6]) (va_Qi (fun r S' => S = S' ∧ Bd r (0) (8) ∧ (0 ≤ elm (S 7) 46 + (-1) * r.toInt ∧ 0 ≤ r.toInt + (-1) * elm (S 7) 46)) (QB g ad 20) (FA ad 20)) 0 0 (FA ad 20) := by
  refine xmet cX12_hasRead "EbbWreckModel" (by decide) rfl (Nat.le_of_ble_eq_true rfl) (fun p e s m below meth c E hr hlk hml hQ ls hl => ?_)
  have hx := E.1
  have hb := E.2.1
  have hs : Sp ad 20 (FA ad 20) := Sp.fa hD
  have hl : lv_has ls 2 [(0, .ref (ad 0)), (1, .int 6)] := hl
  obtain ⟨f1, c2, b3⟩ := invM_7 hI
  obtain ⟨v4, ee5⟩ : ∃ z : Int32, f1 46 = z := ⟨_, rfl⟩
  have b6 : Bd v4 (0) (8) := (by rw [← ee5]; exact b3.2.2.2.2.1 46 (by decide))
  refine lv_aload_n hx hb dX12_hasRead_0 rfl (lv_at hl 0 rfl) ?_
  obtain ⟨v7, v8, v10, v12, v14, v15, w16, v17, v19, v20, v21, v22, v24, v26, v28, v30, v32, v33, v34, c35, b9, b11, b13, b18, b23, b25, b27, b29, b31⟩ := invM_0 hI
  have c35 : S 0 = .inr (12, [.int v7, .ref (ad 1), .ref (ad 2), .ref (ad 3), .ref (ad 4), .ref (ad 5), .int v8, .int v10, .int v12, .int v14, .int v15, .long w16, .int v17, .int v19, .int v20, .int v21, .ref (ad 6), .ref (ad 7), .ref (ad 8), .ref (ad 9), .ref (ad 10), .ref (ad 11), .ref (ad 12), .ref (ad 13), .ref (ad 14), .ref (ad 15), .int v22, .int v24, .ref (ad 16), .int v26, .int v28, .int v30, .int v32, .int v33, .ref (ad 17), .ref (ad 18), .int v34, .ref (ad 19)]) := c35
  refine xget E hQ 0 (by decide) c35 rfl 17 (by decide) q1485 rfl dX12_hasRead_1 ?_
  refine lv_bipush (v := 40) hx hb dX12_hasRead_4 (by decide) ?_
  refine lv_iload_n hx hb dX12_hasRead_6 rfl (lv_at hl 1 rfl) ?_
  refine lv_iadd hx hb dX12_hasRead_7 ?_
  refine sb_at (P := fun z => W _ _ _ _ _ _ _ _ _ _ _ _ _ _ _ (F0 _ _ _ (.int z :: _))) (show (40 : Int32) + 6 = 46 by decide) ?_
  refine xiald E hQ 7 (by decide) c2 (vp_in_lit 46 50 (by decide)) dX12_hasRead_8 ?_
  refine sb_at (P := fun z => W _ _ _ _ _ _ _ _ _ _ _ _ _ _ _ (F0 _ _ _ (.int z :: _))) (show f1 (46 : Int32).toNatClampNeg = v4 from ee5) ?_
  have q36 : elm (S 7) 46 = v4.toInt := (elm_of c2 46).trans (congrArg Int32.toInt (ee5))
  exact xri E hr hlk hQ (⟨rfl, b6, ⟨by omega, by omega⟩⟩) dX12_hasRead_9
set_option maxHeartbeats 4000000 in
set_option maxRecDepth 100000 in
theorem gX12_hasRead_7 (l : Launch) (g : GG) (ad : Nat → Nat) (hD : Dj ad 20) (S : SS) (hI : InvM g ad S) : Met l yX12_hasRead (wG (.code yX12_hasRead cX12_hasRead 2 (some .int))) (Rm 0) (XPre g ad 20 S [.ref (ad 0), .int 7]) (va_Qi (fun r S' => S = S' ∧ Bd r (0) (6) ∧ (0 ≤ elm (S 7) 47 + (-1) * r.toInt ∧ 0 ≤ r.toInt + (-1) * elm (S 7) 47)) (QB g ad 20) (FA ad 20)) 0 0 (FA ad 20) := by
  refine xmet cX12_hasRead "EbbWreckModel" (by decide) rfl (Nat.le_of_ble_eq_true rfl) (fun p e s m below meth c E hr hlk hml hQ ls hl => ?_)
  have hx := E.1
  have hb := E.2.1
  have hs : Sp ad 20 (FA ad 20) := Sp.fa hD
  have hl : lv_has ls 2 [(0, .ref (ad 0)), (1, .int 7)] := hl
  obtain ⟨f1, c2, b3⟩ := invM_7 hI
  obtain ⟨v4, ee5⟩ : ∃ z : Int32, f1 47 = z := ⟨_, rfl⟩
  have b6 : Bd v4 (0) (6) := (by rw [← ee5]; exact b3.2.2.2.2.2.1 47 (by decide))
  refine lv_aload_n hx hb dX12_hasRead_0 rfl (lv_at hl 0 rfl) ?_
  obtain ⟨v7, v8, v10, v12, v14, v15, w16, v17, v19, v20, v21, v22, v24, v26, v28, v30, v32, v33, v34, c35, b9, b11, b13, b18, b23, b25, b27, b29, b31⟩ := invM_0 hI
  have c35 : S 0 = .inr (12, [.int v7, .ref (ad 1), .ref (ad 2), .ref (ad 3), .ref (ad 4), .ref (ad 5), .int v8, .int v10, .int v12, .int v14, .int v15, .long w16, .int v17, .int v19, .int v20, .int v21, .ref (ad 6), .ref (ad 7), .ref (ad 8), .ref (ad 9), .ref (ad 10), .ref (ad 11), .ref (ad 12), .ref (ad 13), .ref (ad 14), .ref (ad 15), .int v22, .int v24, .ref (ad 16), .int v26, .int v28, .int v30, .int v32, .int v33, .ref (ad 17), .ref (ad 18), .int v34, .ref (ad 19)]) := c35
  refine xget E hQ 0 (by decide) c35 rfl 17 (by decide) q1485 rfl dX12_hasRead_1 ?_
  refine lv_bipush (v := 40) hx hb dX12_hasRead_4 (by decide) ?_
  refine lv_iload_n hx hb dX12_hasRead_6 rfl (lv_at hl 1 rfl) ?_
  refine lv_iadd hx hb dX12_hasRead_7 ?_
  refine sb_at (P := fun z => W _ _ _ _ _ _ _ _ _ _ _ _ _ _ _ (F0 _ _ _ (.int z :: _))) (show (40 : Int32) + 7 = 47 by decide) ?_
  refine xiald E hQ 7 (by decide) c2 (vp_in_lit 47 50 (by decide)) dX12_hasRead_8 ?_
  refine sb_at (P := fun z => W _ _ _ _ _ _ _ _ _ _ _ _ _ _ _ (F0 _ _ _ (.int z :: _))) (show f1 (47 : Int32).toNatClampNeg = v4 from ee5) ?_
  have q36 : elm (S 7) 47 = v4.toInt := (elm_of c2 47).trans (congrArg Int32.toInt (ee5))
  exact xri E hr hlk hQ (⟨rfl, b6, ⟨by omega, by omega⟩⟩) dX12_hasRead_9
set_option maxHeartbeats 4000000 in
set_option maxRecDepth 100000 in
theorem gX12_hasRead_8 (l : Launch) (g : GG) (ad : Nat → Nat) (hD : Dj ad 20) (S : SS) (hI : InvM g ad S) : Met l yX12_hasRead (wG (.code yX12_hasRead cX12_hasRead 2 (some .int))) (Rm 0) (XPre g ad 20 S [.ref (ad 0), .int 8]) (va_Qi (fun r S' => S = S' ∧ Bd r (0) (3) ∧ (0 ≤ elm (S 7) 48 + (-1) * r.toInt ∧ 0 ≤ r.toInt + (-1) * elm (S 7) 48)) (QB g ad 20) (FA ad 20)) 0 0 (FA ad 20) := by
  refine xmet cX12_hasRead "EbbWreckModel" (by decide) rfl (Nat.le_of_ble_eq_true rfl) (fun p e s m below meth c E hr hlk hml hQ ls hl => ?_)
  have hx := E.1
  have hb := E.2.1
  have hs : Sp ad 20 (FA ad 20) := Sp.fa hD
  have hl : lv_has ls 2 [(0, .ref (ad 0)), (1, .int 8)] := hl
  obtain ⟨f1, c2, b3⟩ := invM_7 hI
  obtain ⟨v4, ee5⟩ : ∃ z : Int32, f1 48 = z := ⟨_, rfl⟩
  have b6 : Bd v4 (0) (3) := (by rw [← ee5]; exact b3.2.2.2.2.2.2.1 48 (by decide))
  refine lv_aload_n hx hb dX12_hasRead_0 rfl (lv_at hl 0 rfl) ?_
  obtain ⟨v7, v8, v10, v12, v14, v15, w16, v17, v19, v20, v21, v22, v24, v26, v28, v30, v32, v33, v34, c35, b9, b11, b13, b18, b23, b25, b27, b29, b31⟩ := invM_0 hI
  have c35 : S 0 = .inr (12, [.int v7, .ref (ad 1), .ref (ad 2), .ref (ad 3), .ref (ad 4), .ref (ad 5), .int v8, .int v10, .int v12, .int v14, .int v15, .long w16, .int v17, .int v19, .int v20, .int v21, .ref (ad 6), .ref (ad 7), .ref (ad 8), .ref (ad 9), .ref (ad 10), .ref (ad 11), .ref (ad 12), .ref (ad 13), .ref (ad 14), .ref (ad 15), .int v22, .int v24, .ref (ad 16), .int v26, .int v28, .int v30, .int v32, .int v33, .ref (ad 17), .ref (ad 18), .int v34, .ref (ad 19)]) := c35
  refine xget E hQ 0 (by decide) c35 rfl 17 (by decide) q1485 rfl dX12_hasRead_1 ?_
  refine lv_bipush (v := 40) hx hb dX12_hasRead_4 (by decide) ?_
  refine lv_iload_n hx hb dX12_hasRead_6 rfl (lv_at hl 1 rfl) ?_
  refine lv_iadd hx hb dX12_hasRead_7 ?_
  refine sb_at (P := fun z => W _ _ _ _ _ _ _ _ _ _ _ _ _ _ _ (F0 _ _ _ (.int z :: _))) (show (40 : Int32) + 8 = 48 by decide) ?_
  refine xiald E hQ 7 (by decide) c2 (vp_in_lit 48 50 (by decide)) dX12_hasRead_8 ?_
  refine sb_at (P := fun z => W _ _ _ _ _ _ _ _ _ _ _ _ _ _ _ (F0 _ _ _ (.int z :: _))) (show f1 (48 : Int32).toNatClampNeg = v4 from ee5) ?_
  have q36 : elm (S 7) 48 = v4.toInt := (elm_of c2 48).trans (congrArg Int32.toInt (ee5))
  exact xri E hr hlk hQ (⟨rfl, b6, ⟨by omega, by omega⟩⟩) dX12_hasRead_9
set_option maxHeartbeats 4000000 in
set_option maxRecDepth 100000 in
theorem gX12_tells_0 (l : Launch) (g : GG) (ad : Nat → Nat) (hD : Dj ad 20) (S : SS) (hI : InvM g ad S) (a2 : Int32) (ba2 : Bd a2 (0) (12)) : Met l yX12_tells (wG (.code yX12_tells cX12_tells 3 none)) (Rm 0) (XPre g ad 20 S [.ref (ad 0), .int 0, .int a2]) (va_Qv (fun S' => InvM g ad S' ∧ (∀ j, j ∉ ([7] : List Nat) → S' j = S j) ∧ (0 ≤ a2.toInt + (-1) * elm (S' 7) 40 ∧ 0 ≤ elm (S' 7) 40 + (-1) * a2.toInt) ∧ (0 ≤ elm (S 7) 41 + (-1) * elm (S' 7) 41 ∧ 0 ≤ elm (S' 7) 41 + (-1) * elm (S 7) 41) ∧ (0 ≤ elm (S 7) 43 + (-1) * elm (S' 7) 43 ∧ 0 ≤ elm (S' 7) 43 + (-1) * elm (S 7) 43) ∧ (0 ≤ elm (S 7) 46 + (-1) * elm (S' 7) 46 ∧ 0 ≤ elm (S' 7) 46 + (-1) * elm (S 7) 46) ∧ (0 ≤ elm (S 7) 47 + (-1) * elm (S' 7) 47 ∧ 0 ≤ elm (S' 7) 47 + (-1) * elm (S 7) 47) ∧ (0 ≤ elm (S 7) 48 + (-1) * elm (S' 7) 48 ∧ 0 ≤ elm (S' 7) 48 + (-1) * elm (S 7) 48) ∧ (0 ≤ elm (S 7) 49 + (-1) * elm (S' 7) 49 ∧ 0 ≤ elm (S' 7) 49 + (-1) * elm (S 7) 49) ∧ EFp (S' 7) (S 7) 0 40) (QB g ad 20) (FA ad 20)) 0 0 (FA ad 20) := by
  refine xmet cX12_tells "EbbWreckModel" (by decide) rfl (Nat.le_of_ble_eq_true rfl) (fun p e s m below meth c E hr hlk hml hQ ls hl => ?_)
  have hx := E.1
  have hb := E.2.1
  have hs : Sp ad 20 (FA ad 20) := Sp.fa hD
  have hl : lv_has ls 3 [(0, .ref (ad 0)), (1, .int 0), (2, .int a2)] := hl
  obtain ⟨f1, c2, b3⟩ := invM_7 hI
  obtain ⟨v4, ee5⟩ : ∃ z : Int32, f1 40 = z := ⟨_, rfl⟩
  have b6 : Bd v4 (0) (12) := (by rw [← ee5]; exact b3.1 40 (by decide))
  obtain ⟨v7, ee8⟩ : ∃ z : Int32, f1 41 = z := ⟨_, rfl⟩
  have b9 : Bd v7 (0) (12) := (by rw [← ee8]; exact b3.2.1 41 (by decide))
  obtain ⟨v10, ee11⟩ : ∃ z : Int32, f1 43 = z := ⟨_, rfl⟩
  have b12 : Bd v10 (0) (12) := (by rw [← ee11]; exact b3.2.2.2.1 43 (by decide))
  obtain ⟨v13, ee14⟩ : ∃ z : Int32, f1 46 = z := ⟨_, rfl⟩
  have b15 : Bd v13 (0) (8) := (by rw [← ee14]; exact b3.2.2.2.2.1 46 (by decide))
  obtain ⟨v16, ee17⟩ : ∃ z : Int32, f1 47 = z := ⟨_, rfl⟩
  have b18 : Bd v16 (0) (6) := (by rw [← ee17]; exact b3.2.2.2.2.2.1 47 (by decide))
  obtain ⟨v19, ee20⟩ : ∃ z : Int32, f1 48 = z := ⟨_, rfl⟩
  have b21 : Bd v19 (0) (3) := (by rw [← ee20]; exact b3.2.2.2.2.2.2.1 48 (by decide))
  obtain ⟨v22, ee23⟩ : ∃ z : Int32, f1 49 = z := ⟨_, rfl⟩
  have b24 : Bd v22 (0) (40) := (by rw [← ee23]; exact b3.2.2.2.2.2.2.2 49 (by decide))
  have ef7_0 : EFp (S 7) (S 7) 0 40 := fun _ _ _ => rfl
  refine lv_aload_n hx hb dX12_tells_0 rfl (lv_at hl 0 rfl) ?_
  obtain ⟨v25, v26, v28, v30, v32, v33, w34, v35, v37, v38, v39, v40, v42, v44, v46, v48, v50, v51, v52, c53, b27, b29, b31, b36, b41, b43, b45, b47, b49⟩ := invM_0 hI
  have c53 : S 0 = .inr (12, [.int v25, .ref (ad 1), .ref (ad 2), .ref (ad 3), .ref (ad 4), .ref (ad 5), .int v26, .int v28, .int v30, .int v32, .int v33, .long w34, .int v35, .int v37, .int v38, .int v39, .ref (ad 6), .ref (ad 7), .ref (ad 8), .ref (ad 9), .ref (ad 10), .ref (ad 11), .ref (ad 12), .ref (ad 13), .ref (ad 14), .ref (ad 15), .int v40, .int v42, .ref (ad 16), .int v44, .int v46, .int v48, .int v50, .int v51, .ref (ad 17), .ref (ad 18), .int v52, .ref (ad 19)]) := c53
  refine xget E hQ 0 (by decide) c53 rfl 17 (by decide) q1485 rfl dX12_tells_1 ?_
  refine lv_bipush (v := 40) hx hb dX12_tells_4 (by decide) ?_
  refine lv_iload_n hx hb dX12_tells_6 rfl (lv_at hl 1 rfl) ?_
  refine lv_iadd hx hb dX12_tells_7 ?_
  refine sb_at (P := fun z => W _ _ _ _ _ _ _ _ _ _ _ _ _ _ _ (F0 _ _ _ (.int z :: _))) (show (40 : Int32) + 0 = 40 by decide) ?_
  refine lv_iload_n hx hb dX12_tells_8 rfl (lv_at hl 2 rfl) ?_
  refine xiast E hs hQ 7 (by decide) c2 (vp_in_lit 40 50 (by decide)) dX12_tells_9 (fun H locs S54 eS54 hQ => ?_)
  have hI := invM_up_7 hI eS54 ⟨_, rfl, ⟨upd_m b3.1 ba2, upd_mn b3.2.1 (by decide), upd_mn b3.2.2.1 (by decide), upd_mn b3.2.2.2.1 (by decide), upd_mn b3.2.2.2.2.1 (by decide), upd_mn b3.2.2.2.2.2.1 (by decide), upd_mn b3.2.2.2.2.2.2.1 (by decide), upd_mn b3.2.2.2.2.2.2.2 (by decide)⟩⟩
  have b56 : (∀ j, j % 10 = 0 → Bd ((upd f1 (40 : Int32).toNatClampNeg a2) j) (0) (12)) ∧ (∀ j, j % 10 = 1 → Bd ((upd f1 (40 : Int32).toNatClampNeg a2) j) (0) (12)) ∧ (∀ j, j % 10 = 2 → Bd ((upd f1 (40 : Int32).toNatClampNeg a2) j) (0) (6)) ∧ (∀ j, j % 10 = 3 → Bd ((upd f1 (40 : Int32).toNatClampNeg a2) j) (0) (12)) ∧ (∀ j, j % 10 = 6 → Bd ((upd f1 (40 : Int32).toNatClampNeg a2) j) (0) (8)) ∧ (∀ j, j % 10 = 7 → Bd ((upd f1 (40 : Int32).toNatClampNeg a2) j) (0) (6)) ∧ (∀ j, j % 10 = 8 → Bd ((upd f1 (40 : Int32).toNatClampNeg a2) j) (0) (3)) ∧ (∀ j, j % 10 = 9 → Bd ((upd f1 (40 : Int32).toNatClampNeg a2) j) (0) (40)) := ⟨upd_m b3.1 ba2, upd_mn b3.2.1 (by decide), upd_mn b3.2.2.1 (by decide), upd_mn b3.2.2.2.1 (by decide), upd_mn b3.2.2.2.2.1 (by decide), upd_mn b3.2.2.2.2.2.1 (by decide), upd_mn b3.2.2.2.2.2.2.1 (by decide), upd_mn b3.2.2.2.2.2.2.2 (by decide)⟩
  have c55 : S54 7 = .inl (g.2 0, 50, .inl (upd f1 (40 : Int32).toNatClampNeg a2)) := up_at eS54 rfl
  have ef57 : EFp (S54 7) (S 7) 0 40 := ef_up ef7_0 c2 c55 (by decide)
  have q58 : elm (S54 7) 40 = a2.toInt := (elm_of c55 40).trans (congrArg Int32.toInt ((upd_s)))
  have q59 : elm (S 7) 41 = v7.toInt := (elm_of c2 41).trans (congrArg Int32.toInt (ee8))
  have q60 : elm (S54 7) 41 = v7.toInt := (elm_of c55 41).trans (congrArg Int32.toInt (((upd_o (by decide)).trans (ee8))))
  have q61 : elm (S 7) 43 = v10.toInt := (elm_of c2 43).trans (congrArg Int32.toInt (ee11))
  have q62 : elm (S54 7) 43 = v10.toInt := (elm_of c55 43).trans (congrArg Int32.toInt (((upd_o (by decide)).trans (ee11))))
  have q63 : elm (S 7) 46 = v13.toInt := (elm_of c2 46).trans (congrArg Int32.toInt (ee14))
  have q64 : elm (S54 7) 46 = v13.toInt := (elm_of c55 46).trans (congrArg Int32.toInt (((upd_o (by decide)).trans (ee14))))
  have q65 : elm (S 7) 47 = v16.toInt := (elm_of c2 47).trans (congrArg Int32.toInt (ee17))
  have q66 : elm (S54 7) 47 = v16.toInt := (elm_of c55 47).trans (congrArg Int32.toInt (((upd_o (by decide)).trans (ee17))))
  have q67 : elm (S 7) 48 = v19.toInt := (elm_of c2 48).trans (congrArg Int32.toInt (ee20))
  have q68 : elm (S54 7) 48 = v19.toInt := (elm_of c55 48).trans (congrArg Int32.toInt (((upd_o (by decide)).trans (ee20))))
  have q69 : elm (S 7) 49 = v22.toInt := (elm_of c2 49).trans (congrArg Int32.toInt (ee23))
  have q70 : elm (S54 7) 49 = v22.toInt := (elm_of c55 49).trans (congrArg Int32.toInt (((upd_o (by decide)).trans (ee23))))
  exact xrv E hr hlk hQ (⟨hI, (up_o o_refl eS54 (by decide)), ⟨by omega, by omega⟩, ⟨by omega, by omega⟩, ⟨by omega, by omega⟩, ⟨by omega, by omega⟩, ⟨by omega, by omega⟩, ⟨by omega, by omega⟩, ⟨by omega, by omega⟩, ef57⟩) dX12_tells_10
set_option maxHeartbeats 4000000 in
set_option maxRecDepth 100000 in
theorem gX12_tells_1 (l : Launch) (g : GG) (ad : Nat → Nat) (hD : Dj ad 20) (S : SS) (hI : InvM g ad S) (a2 : Int32) (ba2 : Bd a2 (0) (12)) : Met l yX12_tells (wG (.code yX12_tells cX12_tells 3 none)) (Rm 0) (XPre g ad 20 S [.ref (ad 0), .int 1, .int a2]) (va_Qv (fun S' => InvM g ad S' ∧ (∀ j, j ∉ ([7] : List Nat) → S' j = S j) ∧ (0 ≤ a2.toInt + (-1) * elm (S' 7) 41 ∧ 0 ≤ elm (S' 7) 41 + (-1) * a2.toInt) ∧ (0 ≤ elm (S 7) 40 + (-1) * elm (S' 7) 40 ∧ 0 ≤ elm (S' 7) 40 + (-1) * elm (S 7) 40) ∧ (0 ≤ elm (S 7) 43 + (-1) * elm (S' 7) 43 ∧ 0 ≤ elm (S' 7) 43 + (-1) * elm (S 7) 43) ∧ (0 ≤ elm (S 7) 46 + (-1) * elm (S' 7) 46 ∧ 0 ≤ elm (S' 7) 46 + (-1) * elm (S 7) 46) ∧ (0 ≤ elm (S 7) 47 + (-1) * elm (S' 7) 47 ∧ 0 ≤ elm (S' 7) 47 + (-1) * elm (S 7) 47) ∧ (0 ≤ elm (S 7) 48 + (-1) * elm (S' 7) 48 ∧ 0 ≤ elm (S' 7) 48 + (-1) * elm (S 7) 48) ∧ (0 ≤ elm (S 7) 49 + (-1) * elm (S' 7) 49 ∧ 0 ≤ elm (S' 7) 49 + (-1) * elm (S 7) 49) ∧ EFp (S' 7) (S 7) 0 40) (QB g ad 20) (FA ad 20)) 0 0 (FA ad 20) := by
  refine xmet cX12_tells "EbbWreckModel" (by decide) rfl (Nat.le_of_ble_eq_true rfl) (fun p e s m below meth c E hr hlk hml hQ ls hl => ?_)
  have hx := E.1
  have hb := E.2.1
  have hs : Sp ad 20 (FA ad 20) := Sp.fa hD
  have hl : lv_has ls 3 [(0, .ref (ad 0)), (1, .int 1), (2, .int a2)] := hl
  obtain ⟨f1, c2, b3⟩ := invM_7 hI
  obtain ⟨v4, ee5⟩ : ∃ z : Int32, f1 41 = z := ⟨_, rfl⟩
  have b6 : Bd v4 (0) (12) := (by rw [← ee5]; exact b3.2.1 41 (by decide))
  obtain ⟨v7, ee8⟩ : ∃ z : Int32, f1 40 = z := ⟨_, rfl⟩
  have b9 : Bd v7 (0) (12) := (by rw [← ee8]; exact b3.1 40 (by decide))
  obtain ⟨v10, ee11⟩ : ∃ z : Int32, f1 43 = z := ⟨_, rfl⟩
  have b12 : Bd v10 (0) (12) := (by rw [← ee11]; exact b3.2.2.2.1 43 (by decide))
  obtain ⟨v13, ee14⟩ : ∃ z : Int32, f1 46 = z := ⟨_, rfl⟩
  have b15 : Bd v13 (0) (8) := (by rw [← ee14]; exact b3.2.2.2.2.1 46 (by decide))
  obtain ⟨v16, ee17⟩ : ∃ z : Int32, f1 47 = z := ⟨_, rfl⟩
  have b18 : Bd v16 (0) (6) := (by rw [← ee17]; exact b3.2.2.2.2.2.1 47 (by decide))
  obtain ⟨v19, ee20⟩ : ∃ z : Int32, f1 48 = z := ⟨_, rfl⟩
  have b21 : Bd v19 (0) (3) := (by rw [← ee20]; exact b3.2.2.2.2.2.2.1 48 (by decide))
  obtain ⟨v22, ee23⟩ : ∃ z : Int32, f1 49 = z := ⟨_, rfl⟩
  have b24 : Bd v22 (0) (40) := (by rw [← ee23]; exact b3.2.2.2.2.2.2.2 49 (by decide))
  have ef7_0 : EFp (S 7) (S 7) 0 40 := fun _ _ _ => rfl
  refine lv_aload_n hx hb dX12_tells_0 rfl (lv_at hl 0 rfl) ?_
  obtain ⟨v25, v26, v28, v30, v32, v33, w34, v35, v37, v38, v39, v40, v42, v44, v46, v48, v50, v51, v52, c53, b27, b29, b31, b36, b41, b43, b45, b47, b49⟩ := invM_0 hI
  have c53 : S 0 = .inr (12, [.int v25, .ref (ad 1), .ref (ad 2), .ref (ad 3), .ref (ad 4), .ref (ad 5), .int v26, .int v28, .int v30, .int v32, .int v33, .long w34, .int v35, .int v37, .int v38, .int v39, .ref (ad 6), .ref (ad 7), .ref (ad 8), .ref (ad 9), .ref (ad 10), .ref (ad 11), .ref (ad 12), .ref (ad 13), .ref (ad 14), .ref (ad 15), .int v40, .int v42, .ref (ad 16), .int v44, .int v46, .int v48, .int v50, .int v51, .ref (ad 17), .ref (ad 18), .int v52, .ref (ad 19)]) := c53
  refine xget E hQ 0 (by decide) c53 rfl 17 (by decide) q1485 rfl dX12_tells_1 ?_
  refine lv_bipush (v := 40) hx hb dX12_tells_4 (by decide) ?_
  refine lv_iload_n hx hb dX12_tells_6 rfl (lv_at hl 1 rfl) ?_
  refine lv_iadd hx hb dX12_tells_7 ?_
  refine sb_at (P := fun z => W _ _ _ _ _ _ _ _ _ _ _ _ _ _ _ (F0 _ _ _ (.int z :: _))) (show (40 : Int32) + 1 = 41 by decide) ?_
  refine lv_iload_n hx hb dX12_tells_8 rfl (lv_at hl 2 rfl) ?_
  refine xiast E hs hQ 7 (by decide) c2 (vp_in_lit 41 50 (by decide)) dX12_tells_9 (fun H locs S54 eS54 hQ => ?_)
  have hI := invM_up_7 hI eS54 ⟨_, rfl, ⟨upd_mn b3.1 (by decide), upd_m b3.2.1 ba2, upd_mn b3.2.2.1 (by decide), upd_mn b3.2.2.2.1 (by decide), upd_mn b3.2.2.2.2.1 (by decide), upd_mn b3.2.2.2.2.2.1 (by decide), upd_mn b3.2.2.2.2.2.2.1 (by decide), upd_mn b3.2.2.2.2.2.2.2 (by decide)⟩⟩
  have b56 : (∀ j, j % 10 = 0 → Bd ((upd f1 (41 : Int32).toNatClampNeg a2) j) (0) (12)) ∧ (∀ j, j % 10 = 1 → Bd ((upd f1 (41 : Int32).toNatClampNeg a2) j) (0) (12)) ∧ (∀ j, j % 10 = 2 → Bd ((upd f1 (41 : Int32).toNatClampNeg a2) j) (0) (6)) ∧ (∀ j, j % 10 = 3 → Bd ((upd f1 (41 : Int32).toNatClampNeg a2) j) (0) (12)) ∧ (∀ j, j % 10 = 6 → Bd ((upd f1 (41 : Int32).toNatClampNeg a2) j) (0) (8)) ∧ (∀ j, j % 10 = 7 → Bd ((upd f1 (41 : Int32).toNatClampNeg a2) j) (0) (6)) ∧ (∀ j, j % 10 = 8 → Bd ((upd f1 (41 : Int32).toNatClampNeg a2) j) (0) (3)) ∧ (∀ j, j % 10 = 9 → Bd ((upd f1 (41 : Int32).toNatClampNeg a2) j) (0) (40)) := ⟨upd_mn b3.1 (by decide), upd_m b3.2.1 ba2, upd_mn b3.2.2.1 (by decide), upd_mn b3.2.2.2.1 (by decide), upd_mn b3.2.2.2.2.1 (by decide), upd_mn b3.2.2.2.2.2.1 (by decide), upd_mn b3.2.2.2.2.2.2.1 (by decide), upd_mn b3.2.2.2.2.2.2.2 (by decide)⟩
  have c55 : S54 7 = .inl (g.2 0, 50, .inl (upd f1 (41 : Int32).toNatClampNeg a2)) := up_at eS54 rfl
  have ef57 : EFp (S54 7) (S 7) 0 40 := ef_up ef7_0 c2 c55 (by decide)
  have q58 : elm (S54 7) 41 = a2.toInt := (elm_of c55 41).trans (congrArg Int32.toInt ((upd_s)))
  have q59 : elm (S 7) 40 = v7.toInt := (elm_of c2 40).trans (congrArg Int32.toInt (ee8))
  have q60 : elm (S54 7) 40 = v7.toInt := (elm_of c55 40).trans (congrArg Int32.toInt (((upd_o (by decide)).trans (ee8))))
  have q61 : elm (S 7) 43 = v10.toInt := (elm_of c2 43).trans (congrArg Int32.toInt (ee11))
  have q62 : elm (S54 7) 43 = v10.toInt := (elm_of c55 43).trans (congrArg Int32.toInt (((upd_o (by decide)).trans (ee11))))
  have q63 : elm (S 7) 46 = v13.toInt := (elm_of c2 46).trans (congrArg Int32.toInt (ee14))
  have q64 : elm (S54 7) 46 = v13.toInt := (elm_of c55 46).trans (congrArg Int32.toInt (((upd_o (by decide)).trans (ee14))))
  have q65 : elm (S 7) 47 = v16.toInt := (elm_of c2 47).trans (congrArg Int32.toInt (ee17))
  have q66 : elm (S54 7) 47 = v16.toInt := (elm_of c55 47).trans (congrArg Int32.toInt (((upd_o (by decide)).trans (ee17))))
  have q67 : elm (S 7) 48 = v19.toInt := (elm_of c2 48).trans (congrArg Int32.toInt (ee20))
  have q68 : elm (S54 7) 48 = v19.toInt := (elm_of c55 48).trans (congrArg Int32.toInt (((upd_o (by decide)).trans (ee20))))
  have q69 : elm (S 7) 49 = v22.toInt := (elm_of c2 49).trans (congrArg Int32.toInt (ee23))
  have q70 : elm (S54 7) 49 = v22.toInt := (elm_of c55 49).trans (congrArg Int32.toInt (((upd_o (by decide)).trans (ee23))))
  exact xrv E hr hlk hQ (⟨hI, (up_o o_refl eS54 (by decide)), ⟨by omega, by omega⟩, ⟨by omega, by omega⟩, ⟨by omega, by omega⟩, ⟨by omega, by omega⟩, ⟨by omega, by omega⟩, ⟨by omega, by omega⟩, ⟨by omega, by omega⟩, ef57⟩) dX12_tells_10
set_option maxHeartbeats 4000000 in
set_option maxRecDepth 100000 in
theorem gX12_tells_2 (l : Launch) (g : GG) (ad : Nat → Nat) (hD : Dj ad 20) (S : SS) (hI : InvM g ad S) (a2 : Int32) (ba2 : Bd a2 (0) (6)) : Met l yX12_tells (wG (.code yX12_tells cX12_tells 3 none)) (Rm 0) (XPre g ad 20 S [.ref (ad 0), .int 2, .int a2]) (va_Qv (fun S' => InvM g ad S' ∧ (∀ j, j ∉ ([7] : List Nat) → S' j = S j) ∧ (0 ≤ elm (S 7) 40 + (-1) * elm (S' 7) 40 ∧ 0 ≤ elm (S' 7) 40 + (-1) * elm (S 7) 40) ∧ (0 ≤ elm (S 7) 41 + (-1) * elm (S' 7) 41 ∧ 0 ≤ elm (S' 7) 41 + (-1) * elm (S 7) 41) ∧ (0 ≤ elm (S 7) 43 + (-1) * elm (S' 7) 43 ∧ 0 ≤ elm (S' 7) 43 + (-1) * elm (S 7) 43) ∧ (0 ≤ elm (S 7) 46 + (-1) * elm (S' 7) 46 ∧ 0 ≤ elm (S' 7) 46 + (-1) * elm (S 7) 46) ∧ (0 ≤ elm (S 7) 47 + (-1) * elm (S' 7) 47 ∧ 0 ≤ elm (S' 7) 47 + (-1) * elm (S 7) 47) ∧ (0 ≤ elm (S 7) 48 + (-1) * elm (S' 7) 48 ∧ 0 ≤ elm (S' 7) 48 + (-1) * elm (S 7) 48) ∧ (0 ≤ elm (S 7) 49 + (-1) * elm (S' 7) 49 ∧ 0 ≤ elm (S' 7) 49 + (-1) * elm (S 7) 49) ∧ EFp (S' 7) (S 7) 0 40) (QB g ad 20) (FA ad 20)) 0 0 (FA ad 20) := by
  refine xmet cX12_tells "EbbWreckModel" (by decide) rfl (Nat.le_of_ble_eq_true rfl) (fun p e s m below meth c E hr hlk hml hQ ls hl => ?_)
  have hx := E.1
  have hb := E.2.1
  have hs : Sp ad 20 (FA ad 20) := Sp.fa hD
  have hl : lv_has ls 3 [(0, .ref (ad 0)), (1, .int 2), (2, .int a2)] := hl
  obtain ⟨f1, c2, b3⟩ := invM_7 hI
  obtain ⟨v4, ee5⟩ : ∃ z : Int32, f1 40 = z := ⟨_, rfl⟩
  have b6 : Bd v4 (0) (12) := (by rw [← ee5]; exact b3.1 40 (by decide))
  obtain ⟨v7, ee8⟩ : ∃ z : Int32, f1 41 = z := ⟨_, rfl⟩
  have b9 : Bd v7 (0) (12) := (by rw [← ee8]; exact b3.2.1 41 (by decide))
  obtain ⟨v10, ee11⟩ : ∃ z : Int32, f1 43 = z := ⟨_, rfl⟩
  have b12 : Bd v10 (0) (12) := (by rw [← ee11]; exact b3.2.2.2.1 43 (by decide))
  obtain ⟨v13, ee14⟩ : ∃ z : Int32, f1 46 = z := ⟨_, rfl⟩
  have b15 : Bd v13 (0) (8) := (by rw [← ee14]; exact b3.2.2.2.2.1 46 (by decide))
  obtain ⟨v16, ee17⟩ : ∃ z : Int32, f1 47 = z := ⟨_, rfl⟩
  have b18 : Bd v16 (0) (6) := (by rw [← ee17]; exact b3.2.2.2.2.2.1 47 (by decide))
  obtain ⟨v19, ee20⟩ : ∃ z : Int32, f1 48 = z := ⟨_, rfl⟩
  have b21 : Bd v19 (0) (3) := (by rw [← ee20]; exact b3.2.2.2.2.2.2.1 48 (by decide))
  obtain ⟨v22, ee23⟩ : ∃ z : Int32, f1 49 = z := ⟨_, rfl⟩
  have b24 : Bd v22 (0) (40) := (by rw [← ee23]; exact b3.2.2.2.2.2.2.2 49 (by decide))
  have ef7_0 : EFp (S 7) (S 7) 0 40 := fun _ _ _ => rfl
  refine lv_aload_n hx hb dX12_tells_0 rfl (lv_at hl 0 rfl) ?_
  obtain ⟨v25, v26, v28, v30, v32, v33, w34, v35, v37, v38, v39, v40, v42, v44, v46, v48, v50, v51, v52, c53, b27, b29, b31, b36, b41, b43, b45, b47, b49⟩ := invM_0 hI
  have c53 : S 0 = .inr (12, [.int v25, .ref (ad 1), .ref (ad 2), .ref (ad 3), .ref (ad 4), .ref (ad 5), .int v26, .int v28, .int v30, .int v32, .int v33, .long w34, .int v35, .int v37, .int v38, .int v39, .ref (ad 6), .ref (ad 7), .ref (ad 8), .ref (ad 9), .ref (ad 10), .ref (ad 11), .ref (ad 12), .ref (ad 13), .ref (ad 14), .ref (ad 15), .int v40, .int v42, .ref (ad 16), .int v44, .int v46, .int v48, .int v50, .int v51, .ref (ad 17), .ref (ad 18), .int v52, .ref (ad 19)]) := c53
  refine xget E hQ 0 (by decide) c53 rfl 17 (by decide) q1485 rfl dX12_tells_1 ?_
  refine lv_bipush (v := 40) hx hb dX12_tells_4 (by decide) ?_
  refine lv_iload_n hx hb dX12_tells_6 rfl (lv_at hl 1 rfl) ?_
  refine lv_iadd hx hb dX12_tells_7 ?_
  refine sb_at (P := fun z => W _ _ _ _ _ _ _ _ _ _ _ _ _ _ _ (F0 _ _ _ (.int z :: _))) (show (40 : Int32) + 2 = 42 by decide) ?_
  refine lv_iload_n hx hb dX12_tells_8 rfl (lv_at hl 2 rfl) ?_
  refine xiast E hs hQ 7 (by decide) c2 (vp_in_lit 42 50 (by decide)) dX12_tells_9 (fun H locs S54 eS54 hQ => ?_)
  have hI := invM_up_7 hI eS54 ⟨_, rfl, ⟨upd_mn b3.1 (by decide), upd_mn b3.2.1 (by decide), upd_m b3.2.2.1 ba2, upd_mn b3.2.2.2.1 (by decide), upd_mn b3.2.2.2.2.1 (by decide), upd_mn b3.2.2.2.2.2.1 (by decide), upd_mn b3.2.2.2.2.2.2.1 (by decide), upd_mn b3.2.2.2.2.2.2.2 (by decide)⟩⟩
  have b56 : (∀ j, j % 10 = 0 → Bd ((upd f1 (42 : Int32).toNatClampNeg a2) j) (0) (12)) ∧ (∀ j, j % 10 = 1 → Bd ((upd f1 (42 : Int32).toNatClampNeg a2) j) (0) (12)) ∧ (∀ j, j % 10 = 2 → Bd ((upd f1 (42 : Int32).toNatClampNeg a2) j) (0) (6)) ∧ (∀ j, j % 10 = 3 → Bd ((upd f1 (42 : Int32).toNatClampNeg a2) j) (0) (12)) ∧ (∀ j, j % 10 = 6 → Bd ((upd f1 (42 : Int32).toNatClampNeg a2) j) (0) (8)) ∧ (∀ j, j % 10 = 7 → Bd ((upd f1 (42 : Int32).toNatClampNeg a2) j) (0) (6)) ∧ (∀ j, j % 10 = 8 → Bd ((upd f1 (42 : Int32).toNatClampNeg a2) j) (0) (3)) ∧ (∀ j, j % 10 = 9 → Bd ((upd f1 (42 : Int32).toNatClampNeg a2) j) (0) (40)) := ⟨upd_mn b3.1 (by decide), upd_mn b3.2.1 (by decide), upd_m b3.2.2.1 ba2, upd_mn b3.2.2.2.1 (by decide), upd_mn b3.2.2.2.2.1 (by decide), upd_mn b3.2.2.2.2.2.1 (by decide), upd_mn b3.2.2.2.2.2.2.1 (by decide), upd_mn b3.2.2.2.2.2.2.2 (by decide)⟩
  have c55 : S54 7 = .inl (g.2 0, 50, .inl (upd f1 (42 : Int32).toNatClampNeg a2)) := up_at eS54 rfl
  have ef57 : EFp (S54 7) (S 7) 0 40 := ef_up ef7_0 c2 c55 (by decide)
  have q58 : elm (S 7) 40 = v4.toInt := (elm_of c2 40).trans (congrArg Int32.toInt (ee5))
  have q59 : elm (S54 7) 40 = v4.toInt := (elm_of c55 40).trans (congrArg Int32.toInt (((upd_o (by decide)).trans (ee5))))
  have q60 : elm (S 7) 41 = v7.toInt := (elm_of c2 41).trans (congrArg Int32.toInt (ee8))
  have q61 : elm (S54 7) 41 = v7.toInt := (elm_of c55 41).trans (congrArg Int32.toInt (((upd_o (by decide)).trans (ee8))))
  have q62 : elm (S 7) 43 = v10.toInt := (elm_of c2 43).trans (congrArg Int32.toInt (ee11))
  have q63 : elm (S54 7) 43 = v10.toInt := (elm_of c55 43).trans (congrArg Int32.toInt (((upd_o (by decide)).trans (ee11))))
  have q64 : elm (S 7) 46 = v13.toInt := (elm_of c2 46).trans (congrArg Int32.toInt (ee14))
  have q65 : elm (S54 7) 46 = v13.toInt := (elm_of c55 46).trans (congrArg Int32.toInt (((upd_o (by decide)).trans (ee14))))
  have q66 : elm (S 7) 47 = v16.toInt := (elm_of c2 47).trans (congrArg Int32.toInt (ee17))
  have q67 : elm (S54 7) 47 = v16.toInt := (elm_of c55 47).trans (congrArg Int32.toInt (((upd_o (by decide)).trans (ee17))))
  have q68 : elm (S 7) 48 = v19.toInt := (elm_of c2 48).trans (congrArg Int32.toInt (ee20))
  have q69 : elm (S54 7) 48 = v19.toInt := (elm_of c55 48).trans (congrArg Int32.toInt (((upd_o (by decide)).trans (ee20))))
  have q70 : elm (S 7) 49 = v22.toInt := (elm_of c2 49).trans (congrArg Int32.toInt (ee23))
  have q71 : elm (S54 7) 49 = v22.toInt := (elm_of c55 49).trans (congrArg Int32.toInt (((upd_o (by decide)).trans (ee23))))
  exact xrv E hr hlk hQ (⟨hI, (up_o o_refl eS54 (by decide)), ⟨by omega, by omega⟩, ⟨by omega, by omega⟩, ⟨by omega, by omega⟩, ⟨by omega, by omega⟩, ⟨by omega, by omega⟩, ⟨by omega, by omega⟩, ⟨by omega, by omega⟩, ef57⟩) dX12_tells_10
set_option maxHeartbeats 4000000 in
set_option maxRecDepth 100000 in
theorem gX12_tells_3 (l : Launch) (g : GG) (ad : Nat → Nat) (hD : Dj ad 20) (S : SS) (hI : InvM g ad S) (a2 : Int32) (ba2 : Bd a2 (0) (12)) : Met l yX12_tells (wG (.code yX12_tells cX12_tells 3 none)) (Rm 0) (XPre g ad 20 S [.ref (ad 0), .int 3, .int a2]) (va_Qv (fun S' => InvM g ad S' ∧ (∀ j, j ∉ ([7] : List Nat) → S' j = S j) ∧ (0 ≤ a2.toInt + (-1) * elm (S' 7) 43 ∧ 0 ≤ elm (S' 7) 43 + (-1) * a2.toInt) ∧ (0 ≤ elm (S 7) 40 + (-1) * elm (S' 7) 40 ∧ 0 ≤ elm (S' 7) 40 + (-1) * elm (S 7) 40) ∧ (0 ≤ elm (S 7) 41 + (-1) * elm (S' 7) 41 ∧ 0 ≤ elm (S' 7) 41 + (-1) * elm (S 7) 41) ∧ (0 ≤ elm (S 7) 46 + (-1) * elm (S' 7) 46 ∧ 0 ≤ elm (S' 7) 46 + (-1) * elm (S 7) 46) ∧ (0 ≤ elm (S 7) 47 + (-1) * elm (S' 7) 47 ∧ 0 ≤ elm (S' 7) 47 + (-1) * elm (S 7) 47) ∧ (0 ≤ elm (S 7) 48 + (-1) * elm (S' 7) 48 ∧ 0 ≤ elm (S' 7) 48 + (-1) * elm (S 7) 48) ∧ (0 ≤ elm (S 7) 49 + (-1) * elm (S' 7) 49 ∧ 0 ≤ elm (S' 7) 49 + (-1) * elm (S 7) 49) ∧ EFp (S' 7) (S 7) 0 40) (QB g ad 20) (FA ad 20)) 0 0 (FA ad 20) := by
  refine xmet cX12_tells "EbbWreckModel" (by decide) rfl (Nat.le_of_ble_eq_true rfl) (fun p e s m below meth c E hr hlk hml hQ ls hl => ?_)
  have hx := E.1
  have hb := E.2.1
  have hs : Sp ad 20 (FA ad 20) := Sp.fa hD
  have hl : lv_has ls 3 [(0, .ref (ad 0)), (1, .int 3), (2, .int a2)] := hl
  obtain ⟨f1, c2, b3⟩ := invM_7 hI
  obtain ⟨v4, ee5⟩ : ∃ z : Int32, f1 43 = z := ⟨_, rfl⟩
  have b6 : Bd v4 (0) (12) := (by rw [← ee5]; exact b3.2.2.2.1 43 (by decide))
  obtain ⟨v7, ee8⟩ : ∃ z : Int32, f1 40 = z := ⟨_, rfl⟩
  have b9 : Bd v7 (0) (12) := (by rw [← ee8]; exact b3.1 40 (by decide))
  obtain ⟨v10, ee11⟩ : ∃ z : Int32, f1 41 = z := ⟨_, rfl⟩
  have b12 : Bd v10 (0) (12) := (by rw [← ee11]; exact b3.2.1 41 (by decide))
  obtain ⟨v13, ee14⟩ : ∃ z : Int32, f1 46 = z := ⟨_, rfl⟩
  have b15 : Bd v13 (0) (8) := (by rw [← ee14]; exact b3.2.2.2.2.1 46 (by decide))
  obtain ⟨v16, ee17⟩ : ∃ z : Int32, f1 47 = z := ⟨_, rfl⟩
  have b18 : Bd v16 (0) (6) := (by rw [← ee17]; exact b3.2.2.2.2.2.1 47 (by decide))
  obtain ⟨v19, ee20⟩ : ∃ z : Int32, f1 48 = z := ⟨_, rfl⟩
  have b21 : Bd v19 (0) (3) := (by rw [← ee20]; exact b3.2.2.2.2.2.2.1 48 (by decide))
  obtain ⟨v22, ee23⟩ : ∃ z : Int32, f1 49 = z := ⟨_, rfl⟩
  have b24 : Bd v22 (0) (40) := (by rw [← ee23]; exact b3.2.2.2.2.2.2.2 49 (by decide))
  have ef7_0 : EFp (S 7) (S 7) 0 40 := fun _ _ _ => rfl
  refine lv_aload_n hx hb dX12_tells_0 rfl (lv_at hl 0 rfl) ?_
  obtain ⟨v25, v26, v28, v30, v32, v33, w34, v35, v37, v38, v39, v40, v42, v44, v46, v48, v50, v51, v52, c53, b27, b29, b31, b36, b41, b43, b45, b47, b49⟩ := invM_0 hI
  have c53 : S 0 = .inr (12, [.int v25, .ref (ad 1), .ref (ad 2), .ref (ad 3), .ref (ad 4), .ref (ad 5), .int v26, .int v28, .int v30, .int v32, .int v33, .long w34, .int v35, .int v37, .int v38, .int v39, .ref (ad 6), .ref (ad 7), .ref (ad 8), .ref (ad 9), .ref (ad 10), .ref (ad 11), .ref (ad 12), .ref (ad 13), .ref (ad 14), .ref (ad 15), .int v40, .int v42, .ref (ad 16), .int v44, .int v46, .int v48, .int v50, .int v51, .ref (ad 17), .ref (ad 18), .int v52, .ref (ad 19)]) := c53
  refine xget E hQ 0 (by decide) c53 rfl 17 (by decide) q1485 rfl dX12_tells_1 ?_
  refine lv_bipush (v := 40) hx hb dX12_tells_4 (by decide) ?_
  refine lv_iload_n hx hb dX12_tells_6 rfl (lv_at hl 1 rfl) ?_
  refine lv_iadd hx hb dX12_tells_7 ?_
  refine sb_at (P := fun z => W _ _ _ _ _ _ _ _ _ _ _ _ _ _ _ (F0 _ _ _ (.int z :: _))) (show (40 : Int32) + 3 = 43 by decide) ?_
  refine lv_iload_n hx hb dX12_tells_8 rfl (lv_at hl 2 rfl) ?_
  refine xiast E hs hQ 7 (by decide) c2 (vp_in_lit 43 50 (by decide)) dX12_tells_9 (fun H locs S54 eS54 hQ => ?_)
  have hI := invM_up_7 hI eS54 ⟨_, rfl, ⟨upd_mn b3.1 (by decide), upd_mn b3.2.1 (by decide), upd_mn b3.2.2.1 (by decide), upd_m b3.2.2.2.1 ba2, upd_mn b3.2.2.2.2.1 (by decide), upd_mn b3.2.2.2.2.2.1 (by decide), upd_mn b3.2.2.2.2.2.2.1 (by decide), upd_mn b3.2.2.2.2.2.2.2 (by decide)⟩⟩
  have b56 : (∀ j, j % 10 = 0 → Bd ((upd f1 (43 : Int32).toNatClampNeg a2) j) (0) (12)) ∧ (∀ j, j % 10 = 1 → Bd ((upd f1 (43 : Int32).toNatClampNeg a2) j) (0) (12)) ∧ (∀ j, j % 10 = 2 → Bd ((upd f1 (43 : Int32).toNatClampNeg a2) j) (0) (6)) ∧ (∀ j, j % 10 = 3 → Bd ((upd f1 (43 : Int32).toNatClampNeg a2) j) (0) (12)) ∧ (∀ j, j % 10 = 6 → Bd ((upd f1 (43 : Int32).toNatClampNeg a2) j) (0) (8)) ∧ (∀ j, j % 10 = 7 → Bd ((upd f1 (43 : Int32).toNatClampNeg a2) j) (0) (6)) ∧ (∀ j, j % 10 = 8 → Bd ((upd f1 (43 : Int32).toNatClampNeg a2) j) (0) (3)) ∧ (∀ j, j % 10 = 9 → Bd ((upd f1 (43 : Int32).toNatClampNeg a2) j) (0) (40)) := ⟨upd_mn b3.1 (by decide), upd_mn b3.2.1 (by decide), upd_mn b3.2.2.1 (by decide), upd_m b3.2.2.2.1 ba2, upd_mn b3.2.2.2.2.1 (by decide), upd_mn b3.2.2.2.2.2.1 (by decide), upd_mn b3.2.2.2.2.2.2.1 (by decide), upd_mn b3.2.2.2.2.2.2.2 (by decide)⟩
  have c55 : S54 7 = .inl (g.2 0, 50, .inl (upd f1 (43 : Int32).toNatClampNeg a2)) := up_at eS54 rfl
  have ef57 : EFp (S54 7) (S 7) 0 40 := ef_up ef7_0 c2 c55 (by decide)
  have q58 : elm (S54 7) 43 = a2.toInt := (elm_of c55 43).trans (congrArg Int32.toInt ((upd_s)))
  have q59 : elm (S 7) 40 = v7.toInt := (elm_of c2 40).trans (congrArg Int32.toInt (ee8))
  have q60 : elm (S54 7) 40 = v7.toInt := (elm_of c55 40).trans (congrArg Int32.toInt (((upd_o (by decide)).trans (ee8))))
  have q61 : elm (S 7) 41 = v10.toInt := (elm_of c2 41).trans (congrArg Int32.toInt (ee11))
  have q62 : elm (S54 7) 41 = v10.toInt := (elm_of c55 41).trans (congrArg Int32.toInt (((upd_o (by decide)).trans (ee11))))
  have q63 : elm (S 7) 46 = v13.toInt := (elm_of c2 46).trans (congrArg Int32.toInt (ee14))
  have q64 : elm (S54 7) 46 = v13.toInt := (elm_of c55 46).trans (congrArg Int32.toInt (((upd_o (by decide)).trans (ee14))))
  have q65 : elm (S 7) 47 = v16.toInt := (elm_of c2 47).trans (congrArg Int32.toInt (ee17))
  have q66 : elm (S54 7) 47 = v16.toInt := (elm_of c55 47).trans (congrArg Int32.toInt (((upd_o (by decide)).trans (ee17))))
  have q67 : elm (S 7) 48 = v19.toInt := (elm_of c2 48).trans (congrArg Int32.toInt (ee20))
  have q68 : elm (S54 7) 48 = v19.toInt := (elm_of c55 48).trans (congrArg Int32.toInt (((upd_o (by decide)).trans (ee20))))
  have q69 : elm (S 7) 49 = v22.toInt := (elm_of c2 49).trans (congrArg Int32.toInt (ee23))
  have q70 : elm (S54 7) 49 = v22.toInt := (elm_of c55 49).trans (congrArg Int32.toInt (((upd_o (by decide)).trans (ee23))))
  exact xrv E hr hlk hQ (⟨hI, (up_o o_refl eS54 (by decide)), ⟨by omega, by omega⟩, ⟨by omega, by omega⟩, ⟨by omega, by omega⟩, ⟨by omega, by omega⟩, ⟨by omega, by omega⟩, ⟨by omega, by omega⟩, ⟨by omega, by omega⟩, ef57⟩) dX12_tells_10
set_option maxHeartbeats 4000000 in
set_option maxRecDepth 100000 in
theorem gX12_tells_4 (l : Launch) (g : GG) (ad : Nat → Nat) (hD : Dj ad 20) (S : SS) (hI : InvM g ad S) (a2 : Int32) : Met l yX12_tells (wG (.code yX12_tells cX12_tells 3 none)) (Rm 0) (XPre g ad 20 S [.ref (ad 0), .int 4, .int a2]) (va_Qv (fun S' => InvM g ad S' ∧ (∀ j, j ∉ ([7] : List Nat) → S' j = S j) ∧ (0 ≤ elm (S 7) 40 + (-1) * elm (S' 7) 40 ∧ 0 ≤ elm (S' 7) 40 + (-1) * elm (S 7) 40) ∧ (0 ≤ elm (S 7) 41 + (-1) * elm (S' 7) 41 ∧ 0 ≤ elm (S' 7) 41 + (-1) * elm (S 7) 41) ∧ (0 ≤ elm (S 7) 43 + (-1) * elm (S' 7) 43 ∧ 0 ≤ elm (S' 7) 43 + (-1) * elm (S 7) 43) ∧ (0 ≤ elm (S 7) 46 + (-1) * elm (S' 7) 46 ∧ 0 ≤ elm (S' 7) 46 + (-1) * elm (S 7) 46) ∧ (0 ≤ elm (S 7) 47 + (-1) * elm (S' 7) 47 ∧ 0 ≤ elm (S' 7) 47 + (-1) * elm (S 7) 47) ∧ (0 ≤ elm (S 7) 48 + (-1) * elm (S' 7) 48 ∧ 0 ≤ elm (S' 7) 48 + (-1) * elm (S 7) 48) ∧ (0 ≤ elm (S 7) 49 + (-1) * elm (S' 7) 49 ∧ 0 ≤ elm (S' 7) 49 + (-1) * elm (S 7) 49) ∧ EFp (S' 7) (S 7) 0 40) (QB g ad 20) (FA ad 20)) 0 0 (FA ad 20) := by
  refine xmet cX12_tells "EbbWreckModel" (by decide) rfl (Nat.le_of_ble_eq_true rfl) (fun p e s m below meth c E hr hlk hml hQ ls hl => ?_)
  have hx := E.1
  have hb := E.2.1
  have hs : Sp ad 20 (FA ad 20) := Sp.fa hD
  have hl : lv_has ls 3 [(0, .ref (ad 0)), (1, .int 4), (2, .int a2)] := hl
  obtain ⟨f1, c2, b3⟩ := invM_7 hI
  obtain ⟨v4, ee5⟩ : ∃ z : Int32, f1 40 = z := ⟨_, rfl⟩
  have b6 : Bd v4 (0) (12) := (by rw [← ee5]; exact b3.1 40 (by decide))
  obtain ⟨v7, ee8⟩ : ∃ z : Int32, f1 41 = z := ⟨_, rfl⟩
  have b9 : Bd v7 (0) (12) := (by rw [← ee8]; exact b3.2.1 41 (by decide))
  obtain ⟨v10, ee11⟩ : ∃ z : Int32, f1 43 = z := ⟨_, rfl⟩
  have b12 : Bd v10 (0) (12) := (by rw [← ee11]; exact b3.2.2.2.1 43 (by decide))
  obtain ⟨v13, ee14⟩ : ∃ z : Int32, f1 46 = z := ⟨_, rfl⟩
  have b15 : Bd v13 (0) (8) := (by rw [← ee14]; exact b3.2.2.2.2.1 46 (by decide))
  obtain ⟨v16, ee17⟩ : ∃ z : Int32, f1 47 = z := ⟨_, rfl⟩
  have b18 : Bd v16 (0) (6) := (by rw [← ee17]; exact b3.2.2.2.2.2.1 47 (by decide))
  obtain ⟨v19, ee20⟩ : ∃ z : Int32, f1 48 = z := ⟨_, rfl⟩
  have b21 : Bd v19 (0) (3) := (by rw [← ee20]; exact b3.2.2.2.2.2.2.1 48 (by decide))
  obtain ⟨v22, ee23⟩ : ∃ z : Int32, f1 49 = z := ⟨_, rfl⟩
  have b24 : Bd v22 (0) (40) := (by rw [← ee23]; exact b3.2.2.2.2.2.2.2 49 (by decide))
  have ef7_0 : EFp (S 7) (S 7) 0 40 := fun _ _ _ => rfl
  refine lv_aload_n hx hb dX12_tells_0 rfl (lv_at hl 0 rfl) ?_
  obtain ⟨v25, v26, v28, v30, v32, v33, w34, v35, v37, v38, v39, v40, v42, v44, v46, v48, v50, v51, v52, c53, b27, b29, b31, b36, b41, b43, b45, b47, b49⟩ := invM_0 hI
  have c53 : S 0 = .inr (12, [.int v25, .ref (ad 1), .ref (ad 2), .ref (ad 3), .ref (ad 4), .ref (ad 5), .int v26, .int v28, .int v30, .int v32, .int v33, .long w34, .int v35, .int v37, .int v38, .int v39, .ref (ad 6), .ref (ad 7), .ref (ad 8), .ref (ad 9), .ref (ad 10), .ref (ad 11), .ref (ad 12), .ref (ad 13), .ref (ad 14), .ref (ad 15), .int v40, .int v42, .ref (ad 16), .int v44, .int v46, .int v48, .int v50, .int v51, .ref (ad 17), .ref (ad 18), .int v52, .ref (ad 19)]) := c53
  refine xget E hQ 0 (by decide) c53 rfl 17 (by decide) q1485 rfl dX12_tells_1 ?_
  refine lv_bipush (v := 40) hx hb dX12_tells_4 (by decide) ?_
  refine lv_iload_n hx hb dX12_tells_6 rfl (lv_at hl 1 rfl) ?_
  refine lv_iadd hx hb dX12_tells_7 ?_
  refine sb_at (P := fun z => W _ _ _ _ _ _ _ _ _ _ _ _ _ _ _ (F0 _ _ _ (.int z :: _))) (show (40 : Int32) + 4 = 44 by decide) ?_
  refine lv_iload_n hx hb dX12_tells_8 rfl (lv_at hl 2 rfl) ?_
  refine xiast E hs hQ 7 (by decide) c2 (vp_in_lit 44 50 (by decide)) dX12_tells_9 (fun H locs S54 eS54 hQ => ?_)
  have hI := invM_up_7 hI eS54 ⟨_, rfl, ⟨upd_mn b3.1 (by decide), upd_mn b3.2.1 (by decide), upd_mn b3.2.2.1 (by decide), upd_mn b3.2.2.2.1 (by decide), upd_mn b3.2.2.2.2.1 (by decide), upd_mn b3.2.2.2.2.2.1 (by decide), upd_mn b3.2.2.2.2.2.2.1 (by decide), upd_mn b3.2.2.2.2.2.2.2 (by decide)⟩⟩
  have b56 : (∀ j, j % 10 = 0 → Bd ((upd f1 (44 : Int32).toNatClampNeg a2) j) (0) (12)) ∧ (∀ j, j % 10 = 1 → Bd ((upd f1 (44 : Int32).toNatClampNeg a2) j) (0) (12)) ∧ (∀ j, j % 10 = 2 → Bd ((upd f1 (44 : Int32).toNatClampNeg a2) j) (0) (6)) ∧ (∀ j, j % 10 = 3 → Bd ((upd f1 (44 : Int32).toNatClampNeg a2) j) (0) (12)) ∧ (∀ j, j % 10 = 6 → Bd ((upd f1 (44 : Int32).toNatClampNeg a2) j) (0) (8)) ∧ (∀ j, j % 10 = 7 → Bd ((upd f1 (44 : Int32).toNatClampNeg a2) j) (0) (6)) ∧ (∀ j, j % 10 = 8 → Bd ((upd f1 (44 : Int32).toNatClampNeg a2) j) (0) (3)) ∧ (∀ j, j % 10 = 9 → Bd ((upd f1 (44 : Int32).toNatClampNeg a2) j) (0) (40)) := ⟨upd_mn b3.1 (by decide), upd_mn b3.2.1 (by decide), upd_mn b3.2.2.1 (by decide), upd_mn b3.2.2.2.1 (by decide), upd_mn b3.2.2.2.2.1 (by decide), upd_mn b3.2.2.2.2.2.1 (by decide), upd_mn b3.2.2.2.2.2.2.1 (by decide), upd_mn b3.2.2.2.2.2.2.2 (by decide)⟩
  have c55 : S54 7 = .inl (g.2 0, 50, .inl (upd f1 (44 : Int32).toNatClampNeg a2)) := up_at eS54 rfl
  have ef57 : EFp (S54 7) (S 7) 0 40 := ef_up ef7_0 c2 c55 (by decide)
  have q58 : elm (S 7) 40 = v4.toInt := (elm_of c2 40).trans (congrArg Int32.toInt (ee5))
  have q59 : elm (S54 7) 40 = v4.toInt := (elm_of c55 40).trans (congrArg Int32.toInt (((upd_o (by decide)).trans (ee5))))
  have q60 : elm (S 7) 41 = v7.toInt := (elm_of c2 41).trans (congrArg Int32.toInt (ee8))
  have q61 : elm (S54 7) 41 = v7.toInt := (elm_of c55 41).trans (congrArg Int32.toInt (((upd_o (by decide)).trans (ee8))))
  have q62 : elm (S 7) 43 = v10.toInt := (elm_of c2 43).trans (congrArg Int32.toInt (ee11))
  have q63 : elm (S54 7) 43 = v10.toInt := (elm_of c55 43).trans (congrArg Int32.toInt (((upd_o (by decide)).trans (ee11))))
  have q64 : elm (S 7) 46 = v13.toInt := (elm_of c2 46).trans (congrArg Int32.toInt (ee14))
  have q65 : elm (S54 7) 46 = v13.toInt := (elm_of c55 46).trans (congrArg Int32.toInt (((upd_o (by decide)).trans (ee14))))
  have q66 : elm (S 7) 47 = v16.toInt := (elm_of c2 47).trans (congrArg Int32.toInt (ee17))
  have q67 : elm (S54 7) 47 = v16.toInt := (elm_of c55 47).trans (congrArg Int32.toInt (((upd_o (by decide)).trans (ee17))))
  have q68 : elm (S 7) 48 = v19.toInt := (elm_of c2 48).trans (congrArg Int32.toInt (ee20))
  have q69 : elm (S54 7) 48 = v19.toInt := (elm_of c55 48).trans (congrArg Int32.toInt (((upd_o (by decide)).trans (ee20))))
  have q70 : elm (S 7) 49 = v22.toInt := (elm_of c2 49).trans (congrArg Int32.toInt (ee23))
  have q71 : elm (S54 7) 49 = v22.toInt := (elm_of c55 49).trans (congrArg Int32.toInt (((upd_o (by decide)).trans (ee23))))
  exact xrv E hr hlk hQ (⟨hI, (up_o o_refl eS54 (by decide)), ⟨by omega, by omega⟩, ⟨by omega, by omega⟩, ⟨by omega, by omega⟩, ⟨by omega, by omega⟩, ⟨by omega, by omega⟩, ⟨by omega, by omega⟩, ⟨by omega, by omega⟩, ef57⟩) dX12_tells_10
