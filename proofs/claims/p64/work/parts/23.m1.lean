set_option maxHeartbeats 4000000 in
set_option maxRecDepth 100000 in
theorem gX12_in (l : Launch) (g : GG) (ad : Nat → Nat) (hD : Dj ad 20) (S : SS) (hI : InvM g ad S) (wa1 : Int64) (wa2 : Int64) (wa3 : Int64) : Met l yX12_in (wG (.code yX12_in cX12_in 6 (some .boolean))) (Rm 0) (XPre g ad 20 S [.long wa1, .long wa2, .long wa3]) (va_Qi (fun r S' => S = S' ∧ Bd r (0) (1) ∧ ((r.toInt + (-1) < 0 ∨ (0 ≤ wa1.toInt + (-1) * wa2.toInt ∧ 0 ≤ wa3.toInt + (-1) * wa1.toInt))) ∧ (InP r.toInt wa1.toInt wa2.toInt wa3.toInt)) (QB g ad 20) (FA ad 20)) 0 0 (FA ad 20) := by
  refine xmet cX12_in "EbbWreckModel" (by decide) rfl (Nat.le_of_ble_eq_true rfl) (fun p e s m below meth c E hr hlk hml hQ ls hl => ?_)
  have hx := E.1
  have hb := E.2.1
  have hs : Sp ad 20 (FA ad 20) := Sp.fa hD
  have hl : lv_has ls 6 [(0, .long wa1), (2, .long wa2), (4, .long wa3)] := hl
  refine lv_lload_n hx hb dX12_in_0 rfl (lv_at hl 0 rfl) ?_
  refine lv_lload_n hx hb dX12_in_1 rfl (lv_at hl 1 rfl) ?_
  refine W.lcmp hx hb dX12_in_2 ?_
  refine lv_if_lt (tgt := 17) hx hb dX12_in_3 (by decide) (fun k1 => ?_) (fun k1 => ?_)
  · have h2 := lc_lt k1
    have b3 : BdL wa1 (-9223372036854775808) (9223372036854775806) := ⟨((ib_fullL wa1)).1, ((rf_ltL (ib_fullL wa1) (ib_fullL wa2) h2).1).2⟩
    have b4 : BdL wa2 (-9223372036854775807) (9223372036854775807) := ⟨((rf_ltL (ib_fullL wa1) (ib_fullL wa2) h2).2).1, ((ib_fullL wa2)).2⟩
    refine lv_iconst (v := 0) hx hb dX12_in_17 (by decide) ?_
    have q5 : (0 : Int32).toInt = 0 := by decide
    exact xrz E hr hlk hQ rfl (⟨rfl, (ib_wk (by decide : Bd 0 (0) (0)) (by decide) (by decide)), Or.inl (by omega), (by have h1 : (0 : Int32).toInt = 0 := (by decide); unfold InP; omega)⟩) dX12_in_18
  · have h6 := lc_nlt k1
    refine lv_lload_n hx hb dX12_in_6 rfl (lv_at hl 0 rfl) ?_
    refine lv_lload hx hb dX12_in_7 (lv_at hl 2 rfl) ?_
    refine W.lcmp hx hb dX12_in_9 ?_
    refine lv_if_gt (tgt := 17) hx hb dX12_in_10 (by decide) (fun k7 => ?_) (fun k7 => ?_)
    · have h8 := lc_gt k7
      have b9 : BdL wa3 (-9223372036854775808) (9223372036854775806) := ⟨((ib_fullL wa3)).1, ((rf_ltL (ib_fullL wa3) (ib_fullL wa1) h8).1).2⟩
      have b10 : BdL wa1 (-9223372036854775807) (9223372036854775807) := ⟨((rf_ltL (ib_fullL wa3) (ib_fullL wa1) h8).2).1, ((ib_fullL wa1)).2⟩
      refine lv_iconst (v := 0) hx hb dX12_in_17 (by decide) ?_
      have q11 : (0 : Int32).toInt = 0 := by decide
      exact xrz E hr hlk hQ rfl (⟨rfl, (ib_wk (by decide : Bd 0 (0) (0)) (by decide) (by decide)), Or.inl (by omega), (by have h1 : (0 : Int32).toInt = 0 := (by decide); unfold InP; omega)⟩) dX12_in_18
    · have h12 := lc_ngt k7
      refine lv_iconst (v := 1) hx hb dX12_in_13 (by decide) ?_
      refine lv_goto (tgt := 18) hx hb dX12_in_14 (by decide) ?_
      have q13 : (1 : Int32).toInt = 1 := by decide
      exact xrz E hr hlk hQ rfl (⟨rfl, (ib_wk (by decide : Bd 1 (1) (1)) (by decide) (by decide)), Or.inr ⟨by omega, by omega⟩, (by have h1 : (1 : Int32).toInt = 1 := (by decide); unfold InP; omega)⟩) dX12_in_18
set_option maxHeartbeats 4000000 in
set_option maxRecDepth 100000 in
theorem gX12_isSlot (l : Launch) (g : GG) (ad : Nat → Nat) (hD : Dj ad 20) (S : SS) (hI : InvM g ad S) (a1 : Int32) : Met l yX12_isSlot (wG (.code yX12_isSlot cX12_isSlot 1 (some .boolean))) (Rm 1) (XPre g ad 20 S [.int a1]) (va_Qi (fun r S' => S = S' ∧ Bd r (0) (1) ∧ ((r.toInt + (-1) < 0 ∨ (0 ≤ a1.toInt ∧ 0 ≤ (-1) * a1.toInt + 3))) ∧ (InP r.toInt a1.toInt 0 3)) (QB g ad 20) (FA ad 20)) 0 0 (FA ad 20) := by
  refine xmet cX12_isSlot "EbbWreckModel" (by decide) rfl (Nat.le_of_ble_eq_true rfl) (fun p e s m below meth c E hr hlk hml hQ ls hl => ?_)
  have hx := E.1
  have hb := E.2.1
  have hs : Sp ad 20 (FA ad 20) := Sp.fa hD
  have hl : lv_has ls 1 [(0, .int a1)] := hl
  refine lv_iload_n hx hb dX12_isSlot_0 rfl (lv_at hl 0 rfl) ?_
  refine lv_i2l hx hb dX12_isSlot_1 rfl ?_
  refine lv_topl (fun w1 e2 => ?_)
  have t3 : w1.toInt = a1.toInt := by rw [e2]; exact i2l_i _
  have b4 : BdL w1 (-2147483648) (2147483647) := (by have h1 := ((ib_full a1)).1; have h2 := ((ib_full a1)).2; exact ⟨by omega, by omega⟩)
  refine lv_lconst (v := 0) hx hb dX12_isSlot_2 (by decide) ?_
  refine lv_ldc2 (v := 3) hx hb E.2.2.1 (E.2.2.2.1 _ q1590) dX12_isSlot_3 ?_
  have q5 : (0 : Int64).toInt = 0 := by decide
  have q6 : (3 : Int64).toInt = 3 := by decide
  refine xcSi E hs hQ hml hl.1 (gX12_in l g ad hD S hI w1 0 3) mX12_in q1591 rfl ⟨(Nat.le_of_ble_eq_true rfl), (Nat.le_of_ble_eq_true rfl)⟩ ⟨(Nat.le_of_ble_eq_true rfl), (Nat.le_of_ble_eq_true rfl)⟩ (Nat.le_of_ble_eq_true rfl) rfl dX12_isSlot_6 (fun r7 S7 H locs hp7 hQ => ?_)
  obtain ⟨rfl, b7, g7_0, u7_0⟩ := hp7
  exact xrz E hr hlk hQ (z_nar b7) (⟨rfl, b7, (by omega), (by have h1 := u7_0; unfold InP at h1 ⊢; omega)⟩) dX12_isSlot_9
set_option maxHeartbeats 4000000 in
set_option maxRecDepth 100000 in
theorem gX12_cut (l : Launch) (g : GG) (ad : Nat → Nat) (hD : Dj ad 20) (S : SS) (hI : InvM g ad S) (wa1 : Int64) (a2 : Int32) : Met l yX12_cut (wG (.code yX12_cut cX12_cut 3 (some .long))) (Rm 0) (XPre g ad 20 S [.long wa1, .int a2]) (va_Ql (fun _ S' => S = S') (QB g ad 20) (FA ad 20)) 0 0 (FA ad 20) := by
  refine xmet cX12_cut "EbbWreckModel" (by decide) rfl (Nat.le_of_ble_eq_true rfl) (fun p e s m below meth c E hr hlk hml hQ ls hl => ?_)
  have hx := E.1
  have hb := E.2.1
  have hs : Sp ad 20 (FA ad 20) := Sp.fa hD
  have hl : lv_has ls 3 [(0, .long wa1), (2, .int a2)] := hl
  refine lv_iload_n hx hb dX12_cut_0 rfl (lv_at hl 1 rfl) ?_
  refine lv_if_ne (tgt := 11) hx hb dX12_cut_1 (by decide) (fun k1 => ?_) (fun k1 => ?_)
  · have h2 := ib_ne k1
    refine lv_iload_n hx hb dX12_cut_11 rfl (lv_at hl 1 rfl) ?_
    refine lv_iconst (v := 1) hx hb dX12_cut_12 (by decide) ?_
    refine lv_icmp_ne (tgt := 23) hx hb dX12_cut_13 (by decide) (fun k3 => ?_) (fun k3 => ?_)
    · have h4 := ib_ne k3
      refine lv_iload_n hx hb dX12_cut_23 rfl (lv_at hl 1 rfl) ?_
      refine lv_iconst (v := 2) hx hb dX12_cut_24 (by decide) ?_
      refine lv_icmp_ne (tgt := 34) hx hb dX12_cut_25 (by decide) (fun k5 => ?_) (fun k5 => ?_)
      · have h6 := ib_ne k5
        refine lv_lload_n hx hb dX12_cut_34 rfl (lv_at hl 0 rfl) ?_
        exact xrl E hr hlk hQ (rfl) dX12_cut_35
      · have h7 := ib_eq k5
        have b8 : Bd a2 (2) (2) := ⟨((rf_eq (ib_full a2) (by decide : Bd 2 (2) (2)) h7).1).1, ((rf_eq (ib_full a2) (by decide : Bd 2 (2) (2)) h7).1).2⟩
        refine lv_lload_n hx hb dX12_cut_28 rfl (lv_at hl 0 rfl) ?_
        refine lv_l2i hx hb dX12_cut_29 rfl ?_
        refine lv_topi (fun z9 e10 => ?_)
        refine lv_i2l hx hb dX12_cut_30 rfl ?_
        refine lv_topl (fun w11 e12 => ?_)
        have t13 : w11.toInt = z9.toInt := by rw [e12]; exact i2l_i _
        have b14 : BdL w11 (-2147483648) (2147483647) := (by have h1 := ((ib_full z9)).1; have h2 := ((ib_full z9)).2; exact ⟨by omega, by omega⟩)
        refine lv_goto (tgt := 35) hx hb dX12_cut_31 (by decide) ?_
        exact xrl E hr hlk hQ (rfl) dX12_cut_35
    · have h15 := ib_eq k3
      have b16 : Bd a2 (1) (1) := ⟨((rf_eq (ib_full a2) (by decide : Bd 1 (1) (1)) h15).1).1, ((rf_eq (ib_full a2) (by decide : Bd 1 (1) (1)) h15).1).2⟩
      refine lv_lload_n hx hb dX12_cut_16 rfl (lv_at hl 0 rfl) ?_
      refine lv_l2i hx hb dX12_cut_17 rfl ?_
      refine lv_topi (fun z17 e18 => ?_)
      refine lv_i2s hx hb dX12_cut_18 rfl ?_
      refine lv_topi (fun z19 e20 => ?_)
      refine lv_i2l hx hb dX12_cut_19 rfl ?_
      refine lv_topl (fun w21 e22 => ?_)
      have t23 : w21.toInt = z19.toInt := by rw [e22]; exact i2l_i _
      have b24 : BdL w21 (-2147483648) (2147483647) := (by have h1 := ((ib_full z19)).1; have h2 := ((ib_full z19)).2; exact ⟨by omega, by omega⟩)
      refine lv_goto (tgt := 35) hx hb dX12_cut_20 (by decide) ?_
      exact xrl E hr hlk hQ (rfl) dX12_cut_35
  · have h25 := ib_eq k1
    have b26 : Bd a2 (0) (0) := ⟨((rf_eq (ib_full a2) (by decide : Bd 0 (0) (0)) h25).1).1, ((rf_eq (ib_full a2) (by decide : Bd 0 (0) (0)) h25).1).2⟩
    refine lv_lload_n hx hb dX12_cut_4 rfl (lv_at hl 0 rfl) ?_
    refine lv_l2i hx hb dX12_cut_5 rfl ?_
    refine lv_topi (fun z27 e28 => ?_)
    refine lv_i2b hx hb dX12_cut_6 rfl ?_
    refine lv_topi (fun z29 e30 => ?_)
    have b31 : Bd z29 (-128) (127) := (by rw [e30]; exact ib_byte _)
    refine lv_i2l hx hb dX12_cut_7 rfl ?_
    refine lv_topl (fun w32 e33 => ?_)
    have t34 : w32.toInt = z29.toInt := by rw [e33]; exact i2l_i _
    have b35 : BdL w32 (-128) (127) := (by have h1 := (b31).1; have h2 := (b31).2; exact ⟨by omega, by omega⟩)
    refine lv_goto (tgt := 35) hx hb dX12_cut_8 (by decide) ?_
    exact xrl E hr hlk hQ (rfl) dX12_cut_35
def fBit (e7 e8 e10 : va_E) (a1 : Int32) (a2 : Int32) : Int32 := if ((a1 >>> (a2 &&& 31)) &&& (1 : Int32)) = (1 : Int32) then (1 : Int32) else (0 : Int32)
set_option maxHeartbeats 4000000 in
set_option maxRecDepth 100000 in
theorem gX12_isBit (l : Launch) (g : GG) (ad : Nat → Nat) (hD : Dj ad 20) (S : SS) (hI : InvM g ad S) (a1 : Int32) (a2 : Int32) : Met l yX12_isBit (wG (.code yX12_isBit cX12_isBit 2 (some .boolean))) (Rm 0) (XPre g ad 20 S [.int a1, .int a2]) (va_Qi (fun r S' => S = S' ∧ Bd r (0) (1) ∧ r = fBit (S 7) (S 8) (S 10) a1 a2) (QB g ad 20) (FA ad 20)) 0 0 (FA ad 20) := by
  refine xmet cX12_isBit "EbbWreckModel" (by decide) rfl (Nat.le_of_ble_eq_true rfl) (fun p e s m below meth c E hr hlk hml hQ ls hl => ?_)
  have hx := E.1
  have hb := E.2.1
  have hs : Sp ad 20 (FA ad 20) := Sp.fa hD
  have hl : lv_has ls 2 [(0, .int a1), (1, .int a2)] := hl
  refine lv_iload_n hx hb dX12_isBit_0 rfl (lv_at hl 0 rfl) ?_
  refine lv_iload_n hx hb dX12_isBit_1 rfl (lv_at hl 1 rfl) ?_
  refine lv_ishr hx hb dX12_isBit_2 ?_
  refine lv_topi (fun z1 e2 => ?_)
  have tt3 : z1 = (a1 >>> (a2 &&& 31)) := by rw [e2]
  refine lv_iconst (v := 1) hx hb dX12_isBit_3 (by decide) ?_
  refine lv_iand hx hb dX12_isBit_4 ?_
  refine lv_topi (fun z4 e5 => ?_)
  have b6 : Bd z4 (0) (1) := ib_and 1 e5 (by decide) (by decide)
  have tt7 : z4 = ((a1 >>> (a2 &&& 31)) &&& (1 : Int32)) := by rw [e5, tt3]
  refine lv_iconst (v := 1) hx hb dX12_isBit_5 (by decide) ?_
  refine lv_icmp_ne (tgt := 13) hx hb dX12_isBit_6 (by decide) (fun k8 => ?_) (fun k8 => ?_)
  · have h9 := ib_ne k8
    have kc10 : ¬ (((a1 >>> (a2 &&& 31)) &&& (1 : Int32)) = (1 : Int32)) := by have h0 := k8; rw [tt7] at h0; exact h0
    have b11 : Bd z4 (0) (0) := rf_nhi b6 (by decide : Bd 1 (1) (1)) h9
    refine lv_iconst (v := 0) hx hb dX12_isBit_13 (by decide) ?_
    exact xrz E hr hlk hQ rfl (⟨rfl, (ib_wk (by decide : Bd 0 (0) (0)) (by decide) (by decide)), (by rw [fBit, if_neg kc10])⟩) dX12_isBit_14
  · have h12 := ib_eq k8
    have kc13 : ((a1 >>> (a2 &&& 31)) &&& (1 : Int32)) = (1 : Int32) := by have h0 := k8; rw [tt7] at h0; exact h0
    have b14 : Bd z4 (1) (1) := ⟨((rf_eq b6 (by decide : Bd 1 (1) (1)) h12).1).1, (b6).2⟩
    refine lv_iconst (v := 1) hx hb dX12_isBit_9 (by decide) ?_
    refine lv_goto (tgt := 14) hx hb dX12_isBit_10 (by decide) ?_
    exact xrz E hr hlk hQ rfl (⟨rfl, (ib_wk (by decide : Bd 1 (1) (1)) (by decide) (by decide)), (by rw [fBit, if_pos kc13])⟩) dX12_isBit_14
set_option maxHeartbeats 4000000 in
set_option maxRecDepth 100000 in
theorem gX12_size (l : Launch) (g : GG) (ad : Nat → Nat) (hD : Dj ad 20) (S : SS) (hI : InvM g ad S) (a1 : Int32) : Met l yX12_size (wG (.code yX12_size cX12_size 1 (some .int))) (Rm 0) (XPre g ad 20 S [.int a1]) (va_Qi (fun _ S' => S = S') (QB g ad 20) (FA ad 20)) 0 0 (FA ad 20) := by
  refine xmet cX12_size "EbbWreckModel" (by decide) rfl (Nat.le_of_ble_eq_true rfl) (fun p e s m below meth c E hr hlk hml hQ ls hl => ?_)
  have hx := E.1
  have hb := E.2.1
  have hs : Sp ad 20 (FA ad 20) := Sp.fa hD
  have hl : lv_has ls 1 [(0, .int a1)] := hl
  refine lv_iload_n hx hb dX12_size_0 rfl (lv_at hl 0 rfl) ?_
  refine lv_if_ge (tgt := 9) hx hb dX12_size_1 (by decide) (fun k1 => ?_) (fun k1 => ?_)
  · have h2 := ib_le k1
    have b3 : Bd a1 (0) (2147483647) := ⟨((rf_le (by decide : Bd 0 (0) (0)) (ib_full a1) h2).2).1, ((ib_full a1)).2⟩
    refine lv_iload_n hx hb dX12_size_9 rfl (lv_at hl 0 rfl) ?_
    exact xri E hr hlk hQ (rfl) dX12_size_10
  · have h4 := ib_nle k1
    have b5 : Bd a1 (-2147483648) (-1) := ⟨((ib_full a1)).1, ((rf_lt (ib_full a1) (by decide : Bd 0 (0) (0)) h4).1).2⟩
    refine lv_iload_n hx hb dX12_size_4 rfl (lv_at hl 0 rfl) ?_
    refine lv_ineg hx hb dX12_size_5 ?_
    refine lv_topi (fun z6 e7 => ?_)
    refine lv_goto (tgt := 10) hx hb dX12_size_6 (by decide) ?_
    exact xri E hr hlk hQ (rfl) dX12_size_10
set_option maxHeartbeats 4000000 in
set_option maxRecDepth 100000 in
theorem gX12_isShore_0 (l : Launch) (g : GG) (ad : Nat → Nat) (hD : Dj ad 20) (S : SS) (hI : InvM g ad S) : Met l yX12_isShore (wG (.code yX12_isShore cX12_isShore 1 (some .boolean))) (Rm 0) (XPre g ad 20 S [.ref (ad 0)]) (va_Qi (fun r S' => S = S' ∧ Bd r (0) (1) ∧ ((r.toInt + (-1) < 0 ∨ (0 ≤ elm (S 6) 0 + (-1))))) (QB g ad 20) (FA ad 20)) 0 0 (FA ad 20) := by
  refine xmet cX12_isShore "EbbWreckModel" (by decide) rfl (Nat.le_of_ble_eq_true rfl) (fun p e s m below meth c E hr hlk hml hQ ls hl => ?_)
  have hx := E.1
  have hb := E.2.1
  have hs : Sp ad 20 (FA ad 20) := Sp.fa hD
  have hl : lv_has ls 1 [(0, .ref (ad 0))] := hl
  obtain ⟨f1, c2, b3⟩ := invM_6 hI
  obtain ⟨v4, ee5⟩ : ∃ z : Int32, f1 0 = z := ⟨_, rfl⟩
  have b6 : Bd v4 (0) (40000) := (by rw [← ee5]; exact b3 0)
  refine lv_aload_n hx hb dX12_isShore_0 rfl (lv_at hl 0 rfl) ?_
  obtain ⟨v7, v8, v10, v12, v14, v15, w16, v17, v19, v20, v21, v22, v24, v26, v28, v30, v32, v33, v34, c35, b9, b11, b13, b18, b23, b25, b27, b29, b31⟩ := invM_0 hI
  have c35 : S 0 = .inr (12, [.int v7, .ref (ad 1), .ref (ad 2), .ref (ad 3), .ref (ad 4), .ref (ad 5), .int v8, .int v10, .int v12, .int v14, .int v15, .long w16, .int v17, .int v19, .int v20, .int v21, .ref (ad 6), .ref (ad 7), .ref (ad 8), .ref (ad 9), .ref (ad 10), .ref (ad 11), .ref (ad 12), .ref (ad 13), .ref (ad 14), .ref (ad 15), .int v22, .int v24, .ref (ad 16), .int v26, .int v28, .int v30, .int v32, .int v33, .ref (ad 17), .ref (ad 18), .int v34, .ref (ad 19)]) := c35
  refine xget E hQ 0 (by decide) c35 rfl 16 (by decide) q1484 rfl dX12_isShore_1 ?_
  refine lv_iconst (v := 0) hx hb dX12_isShore_4 (by decide) ?_
  refine xiald E hQ 6 (by decide) c2 (vp_in_lit 0 5 (by decide)) dX12_isShore_5 ?_
  refine sb_at (P := fun z => W _ _ _ _ _ _ _ _ _ _ _ _ _ _ _ (F0 _ _ _ (.int z :: _))) (show f1 (0 : Int32).toNatClampNeg = v4 from ee5) ?_
  refine lv_if_le (tgt := 13) hx hb dX12_isShore_6 (by decide) (fun k36 => ?_) (fun k36 => ?_)
  · have h37 := ib_le k36
    have b38 : Bd v4 (0) (0) := ⟨(b6).1, ((rf_le b6 (by decide : Bd 0 (0) (0)) h37).1).2⟩
    refine lv_iconst (v := 0) hx hb dX12_isShore_13 (by decide) ?_
    have q39 : elm (S 6) 0 = v4.toInt := (elm_of c2 0).trans (congrArg Int32.toInt (ee5))
    have q40 : (0 : Int32).toInt = 0 := by decide
    exact xrz E hr hlk hQ rfl (⟨rfl, (ib_wk (by decide : Bd 0 (0) (0)) (by decide) (by decide)), Or.inl (by omega)⟩) dX12_isShore_14
  · have h41 := ib_nle k36
    have b42 : Bd v4 (1) (40000) := ⟨((rf_lt (by decide : Bd 0 (0) (0)) b6 h41).2).1, (b6).2⟩
    refine lv_iconst (v := 1) hx hb dX12_isShore_9 (by decide) ?_
    refine lv_goto (tgt := 14) hx hb dX12_isShore_10 (by decide) ?_
    have q43 : elm (S 6) 0 = v4.toInt := (elm_of c2 0).trans (congrArg Int32.toInt (ee5))
    have q44 : (1 : Int32).toInt = 1 := by decide
    exact xrz E hr hlk hQ rfl (⟨rfl, (ib_wk (by decide : Bd 1 (1) (1)) (by decide) (by decide)), Or.inr (by omega)⟩) dX12_isShore_14
set_option maxHeartbeats 4000000 in
set_option maxRecDepth 100000 in
theorem gX12_isCell_0 (l : Launch) (g : GG) (ad : Nat → Nat) (hD : Dj ad 20) (S : SS) (hI : InvM g ad S) (wa1 : Int64) : Met l yX12_isCell (wG (.code yX12_isCell cX12_isCell 3 (some .boolean))) (Rm 1) (XPre g ad 20 S [.ref (ad 0), .long wa1]) (va_Qi (fun r S' => S = S' ∧ Bd r (0) (1) ∧ ((r.toInt + (-1) < 0 ∨ (0 ≤ wa1.toInt ∧ 0 ≤ elm (S 7) 0 + (-1) * wa1.toInt + (-1))))) (QB g ad 20) (FA ad 20)) 0 0 (FA ad 20) := by
  refine xmet cX12_isCell "EbbWreckModel" (by decide) rfl (Nat.le_of_ble_eq_true rfl) (fun p e s m below meth c E hr hlk hml hQ ls hl => ?_)
  have hx := E.1
  have hb := E.2.1
  have hs : Sp ad 20 (FA ad 20) := Sp.fa hD
  have hl : lv_has ls 3 [(0, .ref (ad 0)), (1, .long wa1)] := hl
  obtain ⟨f1, c2, b3⟩ := invM_7 hI
  obtain ⟨v4, ee5⟩ : ∃ z : Int32, f1 0 = z := ⟨_, rfl⟩
  have b6 : Bd v4 (0) (12) := (by rw [← ee5]; exact b3.1 0 (by decide))
  refine lv_lload_n hx hb dX12_isCell_0 rfl (lv_at hl 1 rfl) ?_
  refine lv_lconst (v := 0) hx hb dX12_isCell_1 (by decide) ?_
  refine lv_aload_n hx hb dX12_isCell_2 rfl (lv_at hl 0 rfl) ?_
  obtain ⟨v7, v8, v10, v12, v14, v15, w16, v17, v19, v20, v21, v22, v24, v26, v28, v30, v32, v33, v34, c35, b9, b11, b13, b18, b23, b25, b27, b29, b31⟩ := invM_0 hI
  have c35 : S 0 = .inr (12, [.int v7, .ref (ad 1), .ref (ad 2), .ref (ad 3), .ref (ad 4), .ref (ad 5), .int v8, .int v10, .int v12, .int v14, .int v15, .long w16, .int v17, .int v19, .int v20, .int v21, .ref (ad 6), .ref (ad 7), .ref (ad 8), .ref (ad 9), .ref (ad 10), .ref (ad 11), .ref (ad 12), .ref (ad 13), .ref (ad 14), .ref (ad 15), .int v22, .int v24, .ref (ad 16), .int v26, .int v28, .int v30, .int v32, .int v33, .ref (ad 17), .ref (ad 18), .int v34, .ref (ad 19)]) := c35
  refine xget E hQ 0 (by decide) c35 rfl 17 (by decide) q1485 rfl dX12_isCell_3 ?_
  refine lv_iconst (v := 0) hx hb dX12_isCell_6 (by decide) ?_
  refine xiald E hQ 7 (by decide) c2 (vp_in_lit 0 50 (by decide)) dX12_isCell_7 ?_
  refine sb_at (P := fun z => W _ _ _ _ _ _ _ _ _ _ _ _ _ _ _ (F0 _ _ _ (.int z :: _))) (show f1 (0 : Int32).toNatClampNeg = v4 from ee5) ?_
  refine lv_i2l hx hb dX12_isCell_8 rfl ?_
  refine lv_topl (fun w36 e37 => ?_)
  have t38 : w36.toInt = v4.toInt := by rw [e37]; exact i2l_i _
  have b39 : BdL w36 (0) (12) := (by have h1 := (b6).1; have h2 := (b6).2; exact ⟨by omega, by omega⟩)
  refine lv_lconst (v := 1) hx hb dX12_isCell_9 (by decide) ?_
  refine lv_lsub hx hb dX12_isCell_10 ?_
  refine lv_topl (fun w40 e41 => ?_)
  have t42 : w40.toInt = w36.toInt - 1 := ib_subL e41 b39 (by decide : BdL 1 (1) (1)) (by decide) (by decide) rfl (by decide)
  have b43 : BdL w40 (-1) (11) := (by have h1 := b39; exact ⟨by omega, by omega⟩)
  have q44 : (0 : Int64).toInt = 0 := by decide
  refine xcSi E hs hQ hml hl.1 (gX12_in l g ad hD S hI wa1 0 w40) mX12_in q1591 rfl ⟨(Nat.le_of_ble_eq_true rfl), (Nat.le_of_ble_eq_true rfl)⟩ ⟨(Nat.le_of_ble_eq_true rfl), (Nat.le_of_ble_eq_true rfl)⟩ (Nat.le_of_ble_eq_true rfl) rfl dX12_isCell_11 (fun r45 S45 H locs hp45 hQ => ?_)
  obtain ⟨rfl, b45, g45_0, u45_0⟩ := hp45
  have q46 : elm (S 7) 0 = v4.toInt := (elm_of c2 0).trans (congrArg Int32.toInt (ee5))
  exact xrz E hr hlk hQ (z_nar b45) (⟨rfl, b45, (by omega)⟩) dX12_isCell_14
set_option maxHeartbeats 4000000 in
set_option maxRecDepth 100000 in
theorem gX12_isThing_0 (l : Launch) (g : GG) (ad : Nat → Nat) (hD : Dj ad 20) (S : SS) (hI : InvM g ad S) (a1 : Int32) : Met l yX12_isThing (wG (.code yX12_isThing cX12_isThing 2 (some .boolean))) (Rm 1) (XPre g ad 20 S [.ref (ad 0), .int a1]) (va_Qi (fun r S' => S = S' ∧ Bd r (0) (1) ∧ ((r.toInt + (-1) < 0 ∨ (0 ≤ a1.toInt ∧ 0 ≤ elm (S 7) 6 + (-1) * a1.toInt + (-1))))) (QB g ad 20) (FA ad 20)) 0 0 (FA ad 20) := by
  refine xmet cX12_isThing "EbbWreckModel" (by decide) rfl (Nat.le_of_ble_eq_true rfl) (fun p e s m below meth c E hr hlk hml hQ ls hl => ?_)
  have hx := E.1
  have hb := E.2.1
  have hs : Sp ad 20 (FA ad 20) := Sp.fa hD
  have hl : lv_has ls 2 [(0, .ref (ad 0)), (1, .int a1)] := hl
  obtain ⟨f1, c2, b3⟩ := invM_7 hI
  obtain ⟨v4, ee5⟩ : ∃ z : Int32, f1 6 = z := ⟨_, rfl⟩
  have b6 : Bd v4 (0) (8) := (by rw [← ee5]; exact b3.2.2.2.2.1 6 (by decide))
  refine lv_iload_n hx hb dX12_isThing_0 rfl (lv_at hl 1 rfl) ?_
  refine lv_i2l hx hb dX12_isThing_1 rfl ?_
  refine lv_topl (fun w7 e8 => ?_)
  have t9 : w7.toInt = a1.toInt := by rw [e8]; exact i2l_i _
  have b10 : BdL w7 (-2147483648) (2147483647) := (by have h1 := ((ib_full a1)).1; have h2 := ((ib_full a1)).2; exact ⟨by omega, by omega⟩)
  refine lv_lconst (v := 0) hx hb dX12_isThing_2 (by decide) ?_
  refine lv_aload_n hx hb dX12_isThing_3 rfl (lv_at hl 0 rfl) ?_
  obtain ⟨v11, v12, v14, v16, v18, v19, w20, v21, v23, v24, v25, v26, v28, v30, v32, v34, v36, v37, v38, c39, b13, b15, b17, b22, b27, b29, b31, b33, b35⟩ := invM_0 hI
  have c39 : S 0 = .inr (12, [.int v11, .ref (ad 1), .ref (ad 2), .ref (ad 3), .ref (ad 4), .ref (ad 5), .int v12, .int v14, .int v16, .int v18, .int v19, .long w20, .int v21, .int v23, .int v24, .int v25, .ref (ad 6), .ref (ad 7), .ref (ad 8), .ref (ad 9), .ref (ad 10), .ref (ad 11), .ref (ad 12), .ref (ad 13), .ref (ad 14), .ref (ad 15), .int v26, .int v28, .ref (ad 16), .int v30, .int v32, .int v34, .int v36, .int v37, .ref (ad 17), .ref (ad 18), .int v38, .ref (ad 19)]) := c39
  refine xget E hQ 0 (by decide) c39 rfl 17 (by decide) q1485 rfl dX12_isThing_4 ?_
  refine lv_bipush (v := 6) hx hb dX12_isThing_7 (by decide) ?_
  refine xiald E hQ 7 (by decide) c2 (vp_in_lit 6 50 (by decide)) dX12_isThing_9 ?_
  refine sb_at (P := fun z => W _ _ _ _ _ _ _ _ _ _ _ _ _ _ _ (F0 _ _ _ (.int z :: _))) (show f1 (6 : Int32).toNatClampNeg = v4 from ee5) ?_
  refine lv_iconst (v := 1) hx hb dX12_isThing_10 (by decide) ?_
  refine lv_isub hx hb dX12_isThing_11 ?_
  refine lv_topi (fun z40 e41 => ?_)
  have t42 := ib_sub e41 b6 (by decide : Bd 1 (1) (1)) (by decide) (by decide)
  have b43 : Bd z40 (-1) (7) := ib_subb t42 b6 (by decide : Bd 1 (1) (1))
  have t42 : z40.toInt = v4.toInt - 1 := fold_sub t42 rfl (by decide)
  refine lv_i2l hx hb dX12_isThing_12 rfl ?_
  refine lv_topl (fun w44 e45 => ?_)
  have t46 : w44.toInt = z40.toInt := by rw [e45]; exact i2l_i _
  have b47 : BdL w44 (-1) (7) := (by have h1 := (b43).1; have h2 := (b43).2; exact ⟨by omega, by omega⟩)
  have q48 : (0 : Int64).toInt = 0 := by decide
  refine xcSi E hs hQ hml hl.1 (gX12_in l g ad hD S hI w7 0 w44) mX12_in q1591 rfl ⟨(Nat.le_of_ble_eq_true rfl), (Nat.le_of_ble_eq_true rfl)⟩ ⟨(Nat.le_of_ble_eq_true rfl), (Nat.le_of_ble_eq_true rfl)⟩ (Nat.le_of_ble_eq_true rfl) rfl dX12_isThing_13 (fun r49 S49 H locs hp49 hQ => ?_)
  obtain ⟨rfl, b49, g49_0, u49_0⟩ := hp49
  have q50 : elm (S 7) 6 = v4.toInt := (elm_of c2 6).trans (congrArg Int32.toInt (ee5))
  exact xrz E hr hlk hQ (z_nar b49) (⟨rfl, b49, (by omega)⟩) dX12_isThing_16
set_option maxHeartbeats 4000000 in
set_option maxRecDepth 100000 in
theorem gX12_isRule_0 (l : Launch) (g : GG) (ad : Nat → Nat) (hD : Dj ad 20) (S : SS) (hI : InvM g ad S) (a1 : Int32) : Met l yX12_isRule (wG (.code yX12_isRule cX12_isRule 2 (some .boolean))) (Rm 1) (XPre g ad 20 S [.ref (ad 0), .int a1]) (va_Qi (fun r S' => S = S' ∧ Bd r (0) (1) ∧ ((r.toInt + (-1) < 0 ∨ (0 ≤ a1.toInt ∧ 0 ≤ elm (S 7) 7 + (-1) * a1.toInt + (-1))))) (QB g ad 20) (FA ad 20)) 0 0 (FA ad 20) := by
  refine xmet cX12_isRule "EbbWreckModel" (by decide) rfl (Nat.le_of_ble_eq_true rfl) (fun p e s m below meth c E hr hlk hml hQ ls hl => ?_)
  have hx := E.1
  have hb := E.2.1
  have hs : Sp ad 20 (FA ad 20) := Sp.fa hD
  have hl : lv_has ls 2 [(0, .ref (ad 0)), (1, .int a1)] := hl
  obtain ⟨f1, c2, b3⟩ := invM_7 hI
  obtain ⟨v4, ee5⟩ : ∃ z : Int32, f1 7 = z := ⟨_, rfl⟩
  have b6 : Bd v4 (0) (6) := (by rw [← ee5]; exact b3.2.2.2.2.2.1 7 (by decide))
  refine lv_iload_n hx hb dX12_isRule_0 rfl (lv_at hl 1 rfl) ?_
  refine lv_i2l hx hb dX12_isRule_1 rfl ?_
  refine lv_topl (fun w7 e8 => ?_)
  have t9 : w7.toInt = a1.toInt := by rw [e8]; exact i2l_i _
  have b10 : BdL w7 (-2147483648) (2147483647) := (by have h1 := ((ib_full a1)).1; have h2 := ((ib_full a1)).2; exact ⟨by omega, by omega⟩)
  refine lv_lconst (v := 0) hx hb dX12_isRule_2 (by decide) ?_
  refine lv_aload_n hx hb dX12_isRule_3 rfl (lv_at hl 0 rfl) ?_
  obtain ⟨v11, v12, v14, v16, v18, v19, w20, v21, v23, v24, v25, v26, v28, v30, v32, v34, v36, v37, v38, c39, b13, b15, b17, b22, b27, b29, b31, b33, b35⟩ := invM_0 hI
  have c39 : S 0 = .inr (12, [.int v11, .ref (ad 1), .ref (ad 2), .ref (ad 3), .ref (ad 4), .ref (ad 5), .int v12, .int v14, .int v16, .int v18, .int v19, .long w20, .int v21, .int v23, .int v24, .int v25, .ref (ad 6), .ref (ad 7), .ref (ad 8), .ref (ad 9), .ref (ad 10), .ref (ad 11), .ref (ad 12), .ref (ad 13), .ref (ad 14), .ref (ad 15), .int v26, .int v28, .ref (ad 16), .int v30, .int v32, .int v34, .int v36, .int v37, .ref (ad 17), .ref (ad 18), .int v38, .ref (ad 19)]) := c39
  refine xget E hQ 0 (by decide) c39 rfl 17 (by decide) q1485 rfl dX12_isRule_4 ?_
  refine lv_bipush (v := 7) hx hb dX12_isRule_7 (by decide) ?_
  refine xiald E hQ 7 (by decide) c2 (vp_in_lit 7 50 (by decide)) dX12_isRule_9 ?_
  refine sb_at (P := fun z => W _ _ _ _ _ _ _ _ _ _ _ _ _ _ _ (F0 _ _ _ (.int z :: _))) (show f1 (7 : Int32).toNatClampNeg = v4 from ee5) ?_
  refine lv_iconst (v := 1) hx hb dX12_isRule_10 (by decide) ?_
  refine lv_isub hx hb dX12_isRule_11 ?_
  refine lv_topi (fun z40 e41 => ?_)
  have t42 := ib_sub e41 b6 (by decide : Bd 1 (1) (1)) (by decide) (by decide)
  have b43 : Bd z40 (-1) (5) := ib_subb t42 b6 (by decide : Bd 1 (1) (1))
  have t42 : z40.toInt = v4.toInt - 1 := fold_sub t42 rfl (by decide)
  refine lv_i2l hx hb dX12_isRule_12 rfl ?_
  refine lv_topl (fun w44 e45 => ?_)
  have t46 : w44.toInt = z40.toInt := by rw [e45]; exact i2l_i _
  have b47 : BdL w44 (-1) (5) := (by have h1 := (b43).1; have h2 := (b43).2; exact ⟨by omega, by omega⟩)
  have q48 : (0 : Int64).toInt = 0 := by decide
  refine xcSi E hs hQ hml hl.1 (gX12_in l g ad hD S hI w7 0 w44) mX12_in q1591 rfl ⟨(Nat.le_of_ble_eq_true rfl), (Nat.le_of_ble_eq_true rfl)⟩ ⟨(Nat.le_of_ble_eq_true rfl), (Nat.le_of_ble_eq_true rfl)⟩ (Nat.le_of_ble_eq_true rfl) rfl dX12_isRule_13 (fun r49 S49 H locs hp49 hQ => ?_)
  obtain ⟨rfl, b49, g49_0, u49_0⟩ := hp49
  have q50 : elm (S 7) 7 = v4.toInt := (elm_of c2 7).trans (congrArg Int32.toInt (ee5))
  exact xrz E hr hlk hQ (z_nar b49) (⟨rfl, b49, (by omega)⟩) dX12_isRule_16
set_option maxHeartbeats 4000000 in
set_option maxRecDepth 100000 in
theorem gX12_isSitter_0 (l : Launch) (g : GG) (ad : Nat → Nat) (hD : Dj ad 20) (S : SS) (hI : InvM g ad S) (a1 : Int32) : Met l yX12_isSitter (wG (.code yX12_isSitter cX12_isSitter 2 (some .boolean))) (Rm 1) (XPre g ad 20 S [.ref (ad 0), .int a1]) (va_Qi (fun r S' => S = S' ∧ Bd r (0) (1) ∧ ((r.toInt + (-1) < 0 ∨ (0 ≤ a1.toInt ∧ 0 ≤ elm (S 7) 8 + (-1) * a1.toInt + (-1))))) (QB g ad 20) (FA ad 20)) 0 0 (FA ad 20) := by
  refine xmet cX12_isSitter "EbbWreckModel" (by decide) rfl (Nat.le_of_ble_eq_true rfl) (fun p e s m below meth c E hr hlk hml hQ ls hl => ?_)
  have hx := E.1
  have hb := E.2.1
  have hs : Sp ad 20 (FA ad 20) := Sp.fa hD
  have hl : lv_has ls 2 [(0, .ref (ad 0)), (1, .int a1)] := hl
  obtain ⟨f1, c2, b3⟩ := invM_7 hI
  obtain ⟨v4, ee5⟩ : ∃ z : Int32, f1 8 = z := ⟨_, rfl⟩
  have b6 : Bd v4 (0) (3) := (by rw [← ee5]; exact b3.2.2.2.2.2.2.1 8 (by decide))
  refine lv_iload_n hx hb dX12_isSitter_0 rfl (lv_at hl 1 rfl) ?_
  refine lv_i2l hx hb dX12_isSitter_1 rfl ?_
  refine lv_topl (fun w7 e8 => ?_)
  have t9 : w7.toInt = a1.toInt := by rw [e8]; exact i2l_i _
  have b10 : BdL w7 (-2147483648) (2147483647) := (by have h1 := ((ib_full a1)).1; have h2 := ((ib_full a1)).2; exact ⟨by omega, by omega⟩)
  refine lv_lconst (v := 0) hx hb dX12_isSitter_2 (by decide) ?_
  refine lv_aload_n hx hb dX12_isSitter_3 rfl (lv_at hl 0 rfl) ?_
  obtain ⟨v11, v12, v14, v16, v18, v19, w20, v21, v23, v24, v25, v26, v28, v30, v32, v34, v36, v37, v38, c39, b13, b15, b17, b22, b27, b29, b31, b33, b35⟩ := invM_0 hI
  have c39 : S 0 = .inr (12, [.int v11, .ref (ad 1), .ref (ad 2), .ref (ad 3), .ref (ad 4), .ref (ad 5), .int v12, .int v14, .int v16, .int v18, .int v19, .long w20, .int v21, .int v23, .int v24, .int v25, .ref (ad 6), .ref (ad 7), .ref (ad 8), .ref (ad 9), .ref (ad 10), .ref (ad 11), .ref (ad 12), .ref (ad 13), .ref (ad 14), .ref (ad 15), .int v26, .int v28, .ref (ad 16), .int v30, .int v32, .int v34, .int v36, .int v37, .ref (ad 17), .ref (ad 18), .int v38, .ref (ad 19)]) := c39
  refine xget E hQ 0 (by decide) c39 rfl 17 (by decide) q1485 rfl dX12_isSitter_4 ?_
  refine lv_bipush (v := 8) hx hb dX12_isSitter_7 (by decide) ?_
  refine xiald E hQ 7 (by decide) c2 (vp_in_lit 8 50 (by decide)) dX12_isSitter_9 ?_
  refine sb_at (P := fun z => W _ _ _ _ _ _ _ _ _ _ _ _ _ _ _ (F0 _ _ _ (.int z :: _))) (show f1 (8 : Int32).toNatClampNeg = v4 from ee5) ?_
  refine lv_iconst (v := 1) hx hb dX12_isSitter_10 (by decide) ?_
  refine lv_isub hx hb dX12_isSitter_11 ?_
  refine lv_topi (fun z40 e41 => ?_)
  have t42 := ib_sub e41 b6 (by decide : Bd 1 (1) (1)) (by decide) (by decide)
  have b43 : Bd z40 (-1) (2) := ib_subb t42 b6 (by decide : Bd 1 (1) (1))
  have t42 : z40.toInt = v4.toInt - 1 := fold_sub t42 rfl (by decide)
  refine lv_i2l hx hb dX12_isSitter_12 rfl ?_
  refine lv_topl (fun w44 e45 => ?_)
  have t46 : w44.toInt = z40.toInt := by rw [e45]; exact i2l_i _
  have b47 : BdL w44 (-1) (2) := (by have h1 := (b43).1; have h2 := (b43).2; exact ⟨by omega, by omega⟩)
  have q48 : (0 : Int64).toInt = 0 := by decide
  refine xcSi E hs hQ hml hl.1 (gX12_in l g ad hD S hI w7 0 w44) mX12_in q1591 rfl ⟨(Nat.le_of_ble_eq_true rfl), (Nat.le_of_ble_eq_true rfl)⟩ ⟨(Nat.le_of_ble_eq_true rfl), (Nat.le_of_ble_eq_true rfl)⟩ (Nat.le_of_ble_eq_true rfl) rfl dX12_isSitter_13 (fun r49 S49 H locs hp49 hQ => ?_)
  obtain ⟨rfl, b49, g49_0, u49_0⟩ := hp49
  have q50 : elm (S 7) 8 = v4.toInt := (elm_of c2 8).trans (congrArg Int32.toInt (ee5))
  exact xrz E hr hlk hQ (z_nar b49) (⟨rfl, b49, (by omega)⟩) dX12_isSitter_16
set_option maxHeartbeats 4000000 in
set_option maxRecDepth 100000 in
theorem gX12_isParty_0 (l : Launch) (g : GG) (ad : Nat → Nat) (hD : Dj ad 20) (S : SS) (hI : InvM g ad S) (a1 : Int32) : Met l yX12_isParty (wG (.code yX12_isParty cX12_isParty 2 (some .boolean))) (Rm 1) (XPre g ad 20 S [.ref (ad 0), .int a1]) (va_Qi (fun r S' => S = S' ∧ Bd r (0) (1) ∧ ((r.toInt + (-1) < 0 ∨ (0 ≤ elm (S 6) 0 + (-1) ∧ 0 ≤ a1.toInt ∧ 0 ≤ (-1) * a1.toInt + 5)))) (QB g ad 20) (FA ad 20)) 0 0 (FA ad 20) := by
  refine xmet cX12_isParty "EbbWreckModel" (by decide) rfl (Nat.le_of_ble_eq_true rfl) (fun p e s m below meth c E hr hlk hml hQ ls hl => ?_)
  have hx := E.1
  have hb := E.2.1
  have hs : Sp ad 20 (FA ad 20) := Sp.fa hD
  have hl : lv_has ls 2 [(0, .ref (ad 0)), (1, .int a1)] := hl
  obtain ⟨f1, c2, b3⟩ := invM_6 hI
  obtain ⟨v4, ee5⟩ : ∃ z : Int32, f1 0 = z := ⟨_, rfl⟩
  have b6 : Bd v4 (0) (40000) := (by rw [← ee5]; exact b3 0)
  refine lv_aload_n hx hb dX12_isParty_0 rfl (lv_at hl 0 rfl) ?_
  obtain ⟨v8, v9, v11, v13, v15, v16, w17, v18, v20, v21, v22, v23, v25, v27, v29, v31, v33, v34, v35, c36, b10, b12, b14, b19, b24, b26, b28, b30, b32⟩ := invM_0 hI
  have c36 : S 0 = .inr (12, [.int v8, .ref (ad 1), .ref (ad 2), .ref (ad 3), .ref (ad 4), .ref (ad 5), .int v9, .int v11, .int v13, .int v15, .int v16, .long w17, .int v18, .int v20, .int v21, .int v22, .ref (ad 6), .ref (ad 7), .ref (ad 8), .ref (ad 9), .ref (ad 10), .ref (ad 11), .ref (ad 12), .ref (ad 13), .ref (ad 14), .ref (ad 15), .int v23, .int v25, .ref (ad 16), .int v27, .int v29, .int v31, .int v33, .int v34, .ref (ad 17), .ref (ad 18), .int v35, .ref (ad 19)]) := c36
  refine xcVi E hs hQ hml hl.1 0 (gX12_isShore_0 l g ad hD S hI ) mX12_isShore q1782 (by decide) c36 rfl rfl ⟨(Nat.le_of_ble_eq_true rfl), (Nat.le_of_ble_eq_true rfl)⟩ ⟨(Nat.le_of_ble_eq_true rfl), (Nat.le_of_ble_eq_true rfl)⟩ (Nat.le_of_ble_eq_true rfl) rfl dX12_isParty_1 (fun r7 S7 H locs hp7 hQ _ => ?_)
  obtain ⟨rfl, b7, g7_0⟩ := hp7
  have q37 : elm (S 6) 0 = v4.toInt := (elm_of c2 0).trans (congrArg Int32.toInt (ee5))
  refine lv_if_eq (tgt := 23) hx hb dX12_isParty_4 (by decide) (fun k38 => ?_) (fun k38 => ?_)
  · have h39 := ib_eq k38
    have b40 : Bd r7 (0) (0) := ⟨(b7).1, ((rf_eq b7 (by decide : Bd 0 (0) (0)) h39).1).2⟩
    clear g7_0
    refine lv_iconst (v := 0) hx hb dX12_isParty_23 (by decide) ?_
    have q41 : (0 : Int32).toInt = 0 := by decide
    exact xrz E hr hlk hQ rfl (⟨rfl, (ib_wk (by decide : Bd 0 (0) (0)) (by decide) (by decide)), Or.inl (by omega)⟩) dX12_isParty_24
  · have h42 := ib_ne k38
    have b43 : Bd r7 (1) (1) := rf_nlo b7 (by decide : Bd 0 (0) (0)) h42
    have g44 := g7_0.resolve_left (by omega)
    clear g7_0
    have b45 : Bd v4 (1) (40000) := ⟨by omega, (b6).2⟩
    refine lv_iload_n hx hb dX12_isParty_7 rfl (lv_at hl 1 rfl) ?_
    refine lv_i2l hx hb dX12_isParty_8 rfl ?_
    refine lv_topl (fun w46 e47 => ?_)
    have t48 : w46.toInt = a1.toInt := by rw [e47]; exact i2l_i _
    have b49 : BdL w46 (-2147483648) (2147483647) := (by have h1 := ((ib_full a1)).1; have h2 := ((ib_full a1)).2; exact ⟨by omega, by omega⟩)
    refine lv_lconst (v := 0) hx hb dX12_isParty_9 (by decide) ?_
    refine lv_ldc2 (v := 5) hx hb E.2.2.1 (E.2.2.2.1 _ q1878) dX12_isParty_10 ?_
    have q50 : (0 : Int64).toInt = 0 := by decide
    have q51 : (5 : Int64).toInt = 5 := by decide
    refine xcSi E hs hQ hml hl.1 (gX12_in l g ad hD S hI w46 0 5) mX12_in q1591 rfl ⟨(Nat.le_of_ble_eq_true rfl), (Nat.le_of_ble_eq_true rfl)⟩ ⟨(Nat.le_of_ble_eq_true rfl), (Nat.le_of_ble_eq_true rfl)⟩ (Nat.le_of_ble_eq_true rfl) rfl dX12_isParty_13 (fun r52 S52 H locs hp52 hQ => ?_)
    obtain ⟨rfl, b52, g52_0, u52_0⟩ := hp52
    refine lv_if_eq (tgt := 23) hx hb dX12_isParty_16 (by decide) (fun k53 => ?_) (fun k53 => ?_)
    · have h54 := ib_eq k53
      have b55 : Bd r52 (0) (0) := ⟨(b52).1, ((rf_eq b52 (by decide : Bd 0 (0) (0)) h54).1).2⟩
      clear g52_0
      refine lv_iconst (v := 0) hx hb dX12_isParty_23 (by decide) ?_
      have q56 : (0 : Int32).toInt = 0 := by decide
      exact xrz E hr hlk hQ rfl (⟨rfl, (ib_wk (by decide : Bd 0 (0) (0)) (by decide) (by decide)), Or.inl (by omega)⟩) dX12_isParty_24
    · have h57 := ib_ne k53
      have b58 : Bd r52 (1) (1) := rf_nlo b52 (by decide : Bd 0 (0) (0)) h57
      have g59 := g52_0.resolve_left (by omega)
      clear g52_0
      have b60 : BdL w46 (0) (5) := ⟨by omega, by omega⟩
      have b61 : Bd a1 (0) (5) := ⟨by omega, by omega⟩
      refine lv_iconst (v := 1) hx hb dX12_isParty_19 (by decide) ?_
      refine lv_goto (tgt := 24) hx hb dX12_isParty_20 (by decide) ?_
      have q62 : (1 : Int32).toInt = 1 := by decide
      exact xrz E hr hlk hQ rfl (⟨rfl, (ib_wk (by decide : Bd 1 (1) (1)) (by decide) (by decide)), Or.inr ⟨by omega, by omega, by omega⟩⟩) dX12_isParty_24
def fBeach (e7 e8 e10 : va_E) (a1 : Int32) : Int32 := (fBit e7 e8 e10 (arr e7 5) a1)
set_option maxHeartbeats 4000000 in
set_option maxRecDepth 100000 in
theorem gX12_isBeach_0 (l : Launch) (g : GG) (ad : Nat → Nat) (hD : Dj ad 20) (S : SS) (hI : InvM g ad S) (a1 : Int32) : Met l yX12_isBeach (wG (.code yX12_isBeach cX12_isBeach 2 (some .boolean))) (Rm 1) (XPre g ad 20 S [.ref (ad 0), .int a1]) (va_Qi (fun r S' => S = S' ∧ Bd r (0) (1) ∧ r = fBeach (S 7) (S 8) (S 10) a1) (QB g ad 20) (FA ad 20)) 0 0 (FA ad 20) := by
  refine xmet cX12_isBeach "EbbWreckModel" (by decide) rfl (Nat.le_of_ble_eq_true rfl) (fun p e s m below meth c E hr hlk hml hQ ls hl => ?_)
  have hx := E.1
  have hb := E.2.1
  have hs : Sp ad 20 (FA ad 20) := Sp.fa hD
  have hl : lv_has ls 2 [(0, .ref (ad 0)), (1, .int a1)] := hl
  refine lv_aload_n hx hb dX12_isBeach_0 rfl (lv_at hl 0 rfl) ?_
  obtain ⟨v1, v2, v4, v6, v8, v9, w10, v11, v13, v14, v15, v16, v18, v20, v22, v24, v26, v27, v28, c29, b3, b5, b7, b12, b17, b19, b21, b23, b25⟩ := invM_0 hI
  have c29 : S 0 = .inr (12, [.int v1, .ref (ad 1), .ref (ad 2), .ref (ad 3), .ref (ad 4), .ref (ad 5), .int v2, .int v4, .int v6, .int v8, .int v9, .long w10, .int v11, .int v13, .int v14, .int v15, .ref (ad 6), .ref (ad 7), .ref (ad 8), .ref (ad 9), .ref (ad 10), .ref (ad 11), .ref (ad 12), .ref (ad 13), .ref (ad 14), .ref (ad 15), .int v16, .int v18, .ref (ad 16), .int v20, .int v22, .int v24, .int v26, .int v27, .ref (ad 17), .ref (ad 18), .int v28, .ref (ad 19)]) := c29
  refine xget E hQ 0 (by decide) c29 rfl 17 (by decide) q1485 rfl dX12_isBeach_1 ?_
  refine lv_iconst (v := 5) hx hb dX12_isBeach_4 (by decide) ?_
  obtain ⟨f30, c31, b32⟩ := invM_7 hI
  refine xiald E hQ 7 (by decide) c31 (vp_in_lit 5 50 (by decide)) dX12_isBeach_5 ?_
  obtain ⟨v33, ee34⟩ : ∃ z : Int32, f30 5 = z := ⟨_, rfl⟩
  refine sb_at (P := fun z => W _ _ _ _ _ _ _ _ _ _ _ _ _ _ _ (F0 _ _ _ (.int z :: _))) (show f30 (5 : Int32).toNatClampNeg = v33 from ee34) ?_
  have tt35 : v33 = (arr (S 7) 5) := by rw [arr_of c31]; exact (ee34).symm
  refine lv_iload_n hx hb dX12_isBeach_6 rfl (lv_at hl 1 rfl) ?_
  refine xcSi E hs hQ hml hl.1 (gX12_isBit l g ad hD S hI v33 a1) mX12_isBit q1759 rfl ⟨(Nat.le_of_ble_eq_true rfl), (Nat.le_of_ble_eq_true rfl)⟩ ⟨(Nat.le_of_ble_eq_true rfl), (Nat.le_of_ble_eq_true rfl)⟩ (Nat.le_of_ble_eq_true rfl) rfl dX12_isBeach_7 (fun r36 S36 H locs hp36 hQ => ?_)
  obtain ⟨rfl, b36, fg36⟩ := hp36
  have tt37 : r36 = (fBit (S 7) (S 8) (S 10) (arr (S 7) 5) a1) := by rw [fg36, tt35]
  exact xrz E hr hlk hQ (z_nar b36) (⟨rfl, b36, (by rw [fBeach]; exact tt37)⟩) dX12_isBeach_10
set_option maxHeartbeats 4000000 in
set_option maxRecDepth 100000 in
theorem gX12_worth_0 (l : Launch) (g : GG) (ad : Nat → Nat) (hD : Dj ad 20) (S : SS) (hI : InvM g ad S) (a1 : Int32) (ba1 : Bd a1 (0) (7)) : Met l yX12_worth (wG (.code yX12_worth cX12_worth 2 (some .int))) (Rm 0) (XPre g ad 20 S [.ref (ad 0), .int a1]) (va_Qi (fun _ S' => S = S') (QB g ad 20) (FA ad 20)) 0 0 (FA ad 20) := by
  refine xmet cX12_worth "EbbWreckModel" (by decide) rfl (Nat.le_of_ble_eq_true rfl) (fun p e s m below meth c E hr hlk hml hQ ls hl => ?_)
  have hx := E.1
  have hb := E.2.1
  have hs : Sp ad 20 (FA ad 20) := Sp.fa hD
  have hl : lv_has ls 2 [(0, .ref (ad 0)), (1, .int a1)] := hl
  refine lv_aload_n hx hb dX12_worth_0 rfl (lv_at hl 0 rfl) ?_
  obtain ⟨v1, v2, v4, v6, v8, v9, w10, v11, v13, v14, v15, v16, v18, v20, v22, v24, v26, v27, v28, c29, b3, b5, b7, b12, b17, b19, b21, b23, b25⟩ := invM_0 hI
  have c29 : S 0 = .inr (12, [.int v1, .ref (ad 1), .ref (ad 2), .ref (ad 3), .ref (ad 4), .ref (ad 5), .int v2, .int v4, .int v6, .int v8, .int v9, .long w10, .int v11, .int v13, .int v14, .int v15, .ref (ad 6), .ref (ad 7), .ref (ad 8), .ref (ad 9), .ref (ad 10), .ref (ad 11), .ref (ad 12), .ref (ad 13), .ref (ad 14), .ref (ad 15), .int v16, .int v18, .ref (ad 16), .int v20, .int v22, .int v24, .int v26, .int v27, .ref (ad 17), .ref (ad 18), .int v28, .ref (ad 19)]) := c29
  refine xget E hQ 0 (by decide) c29 rfl 19 (by decide) q1487 rfl dX12_worth_1 ?_
  refine lv_iconst (v := 3) hx hb dX12_worth_4 (by decide) ?_
  refine lv_iload_n hx hb dX12_worth_5 rfl (lv_at hl 1 rfl) ?_
  refine lv_imul hx hb dX12_worth_6 ?_
  refine lv_topi (fun z30 e31 => ?_)
  have t32 := ib_cmul (q := 3) e31 (by decide) (by decide) ba1 (by decide) (by decide)
  have b33 : Bd z30 (0) (21) := ib_mulb t32 (by decide) ba1
  obtain ⟨f34, c35, b36⟩ := invM_9 hI
  refine xiald E hQ 9 (by decide) c35 (ib_in b33 (by decide) (by decide)) dX12_worth_7 ?_
  refine lv_topi (fun z37 e38 => ?_)
  exact xri E hr hlk hQ (rfl) dX12_worth_8
def fRound (e7 e8 e10 : va_E) : Int32 := (((arr e7 1) + ((2 : Int32) * (arr e7 2))) + (arr e7 3))
set_option maxHeartbeats 4000000 in
set_option maxRecDepth 100000 in
theorem gX12_round_0 (l : Launch) (g : GG) (ad : Nat → Nat) (hD : Dj ad 20) (S : SS) (hI : InvM g ad S) : Met l yX12_round (wG (.code yX12_round cX12_round 1 (some .int))) (Rm 0) (XPre g ad 20 S [.ref (ad 0)]) (va_Qi (fun r S' => S = S' ∧ Bd r (0) (36) ∧ (0 ≤ elm (S 7) 1 + 2 * elm (S 7) 2 + elm (S 7) 3 + (-1) * r.toInt ∧ 0 ≤ r.toInt + (-1) * elm (S 7) 1 + (-2) * elm (S 7) 2 + (-1) * elm (S 7) 3) ∧ r = fRound (S 7) (S 8) (S 10) ) (QB g ad 20) (FA ad 20)) 0 0 (FA ad 20) := by
  refine xmet cX12_round "EbbWreckModel" (by decide) rfl (Nat.le_of_ble_eq_true rfl) (fun p e s m below meth c E hr hlk hml hQ ls hl => ?_)
  have hx := E.1
  have hb := E.2.1
  have hs : Sp ad 20 (FA ad 20) := Sp.fa hD
  have hl : lv_has ls 1 [(0, .ref (ad 0))] := hl
  obtain ⟨f1, c2, b3⟩ := invM_7 hI
  obtain ⟨v4, ee5⟩ : ∃ z : Int32, f1 1 = z := ⟨_, rfl⟩
  have b6 : Bd v4 (0) (12) := (by rw [← ee5]; exact b3.2.1 1 (by decide))
  obtain ⟨v7, ee8⟩ : ∃ z : Int32, f1 2 = z := ⟨_, rfl⟩
  have b9 : Bd v7 (0) (6) := (by rw [← ee8]; exact b3.2.2.1 2 (by decide))
  obtain ⟨v10, ee11⟩ : ∃ z : Int32, f1 3 = z := ⟨_, rfl⟩
  have b12 : Bd v10 (0) (12) := (by rw [← ee11]; exact b3.2.2.2.1 3 (by decide))
  refine lv_aload_n hx hb dX12_round_0 rfl (lv_at hl 0 rfl) ?_
  obtain ⟨v13, v14, v16, v18, v20, v21, w22, v23, v25, v26, v27, v28, v30, v32, v34, v36, v38, v39, v40, c41, b15, b17, b19, b24, b29, b31, b33, b35, b37⟩ := invM_0 hI
  have c41 : S 0 = .inr (12, [.int v13, .ref (ad 1), .ref (ad 2), .ref (ad 3), .ref (ad 4), .ref (ad 5), .int v14, .int v16, .int v18, .int v20, .int v21, .long w22, .int v23, .int v25, .int v26, .int v27, .ref (ad 6), .ref (ad 7), .ref (ad 8), .ref (ad 9), .ref (ad 10), .ref (ad 11), .ref (ad 12), .ref (ad 13), .ref (ad 14), .ref (ad 15), .int v28, .int v30, .ref (ad 16), .int v32, .int v34, .int v36, .int v38, .int v39, .ref (ad 17), .ref (ad 18), .int v40, .ref (ad 19)]) := c41
  refine xget E hQ 0 (by decide) c41 rfl 17 (by decide) q1485 rfl dX12_round_1 ?_
  refine lv_iconst (v := 1) hx hb dX12_round_4 (by decide) ?_
  refine xiald E hQ 7 (by decide) c2 (vp_in_lit 1 50 (by decide)) dX12_round_5 ?_
  refine sb_at (P := fun z => W _ _ _ _ _ _ _ _ _ _ _ _ _ _ _ (F0 _ _ _ (.int z :: _))) (show f1 (1 : Int32).toNatClampNeg = v4 from ee5) ?_
  have tt42 : v4 = (arr (S 7) 1) := by rw [arr_of c2]; exact (ee5).symm
  refine lv_iconst (v := 2) hx hb dX12_round_6 (by decide) ?_
  refine lv_aload_n hx hb dX12_round_7 rfl (lv_at hl 0 rfl) ?_
  refine xget E hQ 0 (by decide) c41 rfl 17 (by decide) q1485 rfl dX12_round_8 ?_
  refine lv_iconst (v := 2) hx hb dX12_round_11 (by decide) ?_
  refine xiald E hQ 7 (by decide) c2 (vp_in_lit 2 50 (by decide)) dX12_round_12 ?_
  refine sb_at (P := fun z => W _ _ _ _ _ _ _ _ _ _ _ _ _ _ _ (F0 _ _ _ (.int z :: _))) (show f1 (2 : Int32).toNatClampNeg = v7 from ee8) ?_
  have tt43 : v7 = (arr (S 7) 2) := by rw [arr_of c2]; exact (ee8).symm
  refine lv_imul hx hb dX12_round_13 ?_
  refine lv_topi (fun z44 e45 => ?_)
  have t46 := ib_cmul (q := 2) e45 (by decide) (by decide) b9 (by decide) (by decide)
  have b47 : Bd z44 (0) (12) := ib_mulb t46 (by decide) b9
  have tt48 : z44 = ((2 : Int32) * (arr (S 7) 2)) := by rw [e45, tt43]
  refine lv_iadd hx hb dX12_round_14 ?_
  refine lv_topi (fun z49 e50 => ?_)
  have t51 := ib_add e50 b6 b47 (by decide) (by decide)
  have b52 : Bd z49 (0) (24) := ib_addb t51 b6 b47
  have tt53 : z49 = ((arr (S 7) 1) + ((2 : Int32) * (arr (S 7) 2))) := by rw [e50, tt42, tt48]
  refine lv_aload_n hx hb dX12_round_15 rfl (lv_at hl 0 rfl) ?_
  refine xget E hQ 0 (by decide) c41 rfl 17 (by decide) q1485 rfl dX12_round_16 ?_
  refine lv_iconst (v := 3) hx hb dX12_round_19 (by decide) ?_
  refine xiald E hQ 7 (by decide) c2 (vp_in_lit 3 50 (by decide)) dX12_round_20 ?_
  refine sb_at (P := fun z => W _ _ _ _ _ _ _ _ _ _ _ _ _ _ _ (F0 _ _ _ (.int z :: _))) (show f1 (3 : Int32).toNatClampNeg = v10 from ee11) ?_
  have tt54 : v10 = (arr (S 7) 3) := by rw [arr_of c2]; exact (ee11).symm
  refine lv_iadd hx hb dX12_round_21 ?_
  refine lv_topi (fun z55 e56 => ?_)
  have t57 := ib_add e56 b52 b12 (by decide) (by decide)
  have b58 : Bd z55 (0) (36) := ib_addb t57 b52 b12
  have tt59 : z55 = (((arr (S 7) 1) + ((2 : Int32) * (arr (S 7) 2))) + (arr (S 7) 3)) := by rw [e56, tt53, tt54]
  have q60 : elm (S 7) 1 = v4.toInt := (elm_of c2 1).trans (congrArg Int32.toInt (ee5))
  have q61 : elm (S 7) 2 = v7.toInt := (elm_of c2 2).trans (congrArg Int32.toInt (ee8))
  have q62 : elm (S 7) 3 = v10.toInt := (elm_of c2 3).trans (congrArg Int32.toInt (ee11))
  exact xri E hr hlk hQ (⟨rfl, b58, ⟨by omega, by omega⟩, (by rw [fRound]; exact tt59)⟩) dX12_round_22
def fPhase (e7 e8 e10 : va_E) (a1 : Int32) : Int32 := if (0 : Int32) ≤ (a1 - a1 / (fRound e7 e8 e10) * (fRound e7 e8 e10)) then (if (arr e7 1) ≤ (a1 - a1 / (fRound e7 e8 e10) * (fRound e7 e8 e10)) then (if ((arr e7 1) + (arr e7 2)) ≤ (a1 - a1 / (fRound e7 e8 e10) * (fRound e7 e8 e10)) then (if (((arr e7 1) + (arr e7 2)) + (arr e7 3)) ≤ (a1 - a1 / (fRound e7 e8 e10) * (fRound e7 e8 e10)) then (1 : Int32) else (2 : Int32)) else (1 : Int32)) else (0 : Int32)) else (if (arr e7 1) ≤ ((a1 - a1 / (fRound e7 e8 e10) * (fRound e7 e8 e10)) + (fRound e7 e8 e10)) then (if ((arr e7 1) + (arr e7 2)) ≤ ((a1 - a1 / (fRound e7 e8 e10) * (fRound e7 e8 e10)) + (fRound e7 e8 e10)) then (if (((arr e7 1) + (arr e7 2)) + (arr e7 3)) ≤ ((a1 - a1 / (fRound e7 e8 e10) * (fRound e7 e8 e10)) + (fRound e7 e8 e10)) then (1 : Int32) else (2 : Int32)) else (1 : Int32)) else (0 : Int32))
set_option maxHeartbeats 4000000 in
set_option maxRecDepth 100000 in
theorem gX12_phaseOf_0 (l : Launch) (g : GG) (ad : Nat → Nat) (hD : Dj ad 20) (S : SS) (hI : InvM g ad S) (a1 : Int32) (hq1 : 0 ≤ elm (S 7) 1 + (-1)) : Met l yX12_phaseOf (wG (.code yX12_phaseOf cX12_phaseOf 3 (some .int))) (Rm 1) (XPre g ad 20 S [.ref (ad 0), .int a1]) (va_Qi (fun r S' => S = S' ∧ Bd r (0) (2) ∧ r = fPhase (S 7) (S 8) (S 10) a1) (QB g ad 20) (FA ad 20)) 0 0 (FA ad 20) := by
  refine xmet cX12_phaseOf "EbbWreckModel" (by decide) rfl (Nat.le_of_ble_eq_true rfl) (fun p e s m below meth c E hr hlk hml hQ ls hl => ?_)
  have hx := E.1
  have hb := E.2.1
  have hs : Sp ad 20 (FA ad 20) := Sp.fa hD
  have hl : lv_has ls 3 [(0, .ref (ad 0)), (1, .int a1)] := hl
  obtain ⟨f1, c2, b3⟩ := invM_7 hI
  obtain ⟨v4, ee5⟩ : ∃ z : Int32, f1 1 = z := ⟨_, rfl⟩
  have b6 : Bd v4 (0) (12) := (by rw [← ee5]; exact b3.2.1 1 (by decide))
  have q7 : elm (S 7) 1 = v4.toInt := (elm_of c2 1).trans (congrArg Int32.toInt (ee5))
  have b8 : Bd v4 (1) (12) := ⟨by omega, (b6).2⟩
  refine lv_iload_n hx hb dX12_phaseOf_0 rfl (lv_at hl 1 rfl) ?_
  refine lv_aload_n hx hb dX12_phaseOf_1 rfl (lv_at hl 0 rfl) ?_
  obtain ⟨v9, ee10⟩ : ∃ z : Int32, f1 2 = z := ⟨_, rfl⟩
  have b11 : Bd v9 (0) (6) := (by rw [← ee10]; exact b3.2.2.1 2 (by decide))
  obtain ⟨v12, ee13⟩ : ∃ z : Int32, f1 3 = z := ⟨_, rfl⟩
  have b14 : Bd v12 (0) (12) := (by rw [← ee13]; exact b3.2.2.2.1 3 (by decide))
  obtain ⟨v16, v17, v19, v21, v23, v24, w25, v26, v28, v29, v30, v31, v33, v35, v37, v39, v41, v42, v43, c44, b18, b20, b22, b27, b32, b34, b36, b38, b40⟩ := invM_0 hI
  have c44 : S 0 = .inr (12, [.int v16, .ref (ad 1), .ref (ad 2), .ref (ad 3), .ref (ad 4), .ref (ad 5), .int v17, .int v19, .int v21, .int v23, .int v24, .long w25, .int v26, .int v28, .int v29, .int v30, .ref (ad 6), .ref (ad 7), .ref (ad 8), .ref (ad 9), .ref (ad 10), .ref (ad 11), .ref (ad 12), .ref (ad 13), .ref (ad 14), .ref (ad 15), .int v31, .int v33, .ref (ad 16), .int v35, .int v37, .int v39, .int v41, .int v42, .ref (ad 17), .ref (ad 18), .int v43, .ref (ad 19)]) := c44
  refine xcVi E hs hQ hml hl.1 0 (gX12_round_0 l g ad hD S hI ) mX12_round q1791 (by decide) c44 rfl rfl ⟨(Nat.le_of_ble_eq_true rfl), (Nat.le_of_ble_eq_true rfl)⟩ ⟨(Nat.le_of_ble_eq_true rfl), (Nat.le_of_ble_eq_true rfl)⟩ (Nat.le_of_ble_eq_true rfl) rfl dX12_phaseOf_2 (fun r15 S15 H locs hp15 hQ _ => ?_)
  obtain ⟨rfl, b15, g15_0, fg15⟩ := hp15
  have q45 : elm (S 7) 2 = v9.toInt := (elm_of c2 2).trans (congrArg Int32.toInt (ee10))
  have q46 : elm (S 7) 3 = v12.toInt := (elm_of c2 3).trans (congrArg Int32.toInt (ee13))
  have b47 : Bd r15 (1) (36) := ⟨by omega, (b15).2⟩
  have tt48 : r15 = (fRound (S 7) (S 8) (S 10)) := by rw [fg15]
  refine lv_irem hx hb dX12_phaseOf_5 (ib_ne0 b47 (by decide)) ?_
  refine lv_topi (fun z49 e50 => ?_)
  have rx51 := ib_remx e50 (ib_full a1) b47 (by decide)
  have b52 : Bd z49 (-35) (35) := ib_remb e50 (ib_full a1) b47 (by decide)
  have tt53 : z49 = (a1 - a1 / (fRound (S 7) (S 8) (S 10)) * (fRound (S 7) (S 8) (S 10))) := by rw [e50, tt48]
  refine lv_istore_n (lv' := [(2, .int z49), (0, .ref (ad 0)), (1, .int a1)]) hx hb dX12_phaseOf_6 rfl hl (by decide) rfl (fun ls hl => ?_)
  refine lv_iload_n hx hb dX12_phaseOf_7 rfl (lv_at hl 0 rfl) ?_
  refine lv_if_ge (tgt := 18) hx hb dX12_phaseOf_8 (by decide) (fun k54 => ?_) (fun k54 => ?_)
  · have h55 := ib_le k54
    have kc56 : (0 : Int32) ≤ (a1 - a1 / (fRound (S 7) (S 8) (S 10)) * (fRound (S 7) (S 8) (S 10))) := by have h0 := k54; rw [tt53] at h0; exact h0
    have b57 : Bd z49 (0) (35) := ⟨((rf_le (by decide : Bd 0 (0) (0)) b52 h55).2).1, (b52).2⟩
    refine lv_iload_n hx hb dX12_phaseOf_18 rfl (lv_at hl 0 rfl) ?_
    refine lv_aload_n hx hb dX12_phaseOf_19 rfl (lv_at hl 1 rfl) ?_
    refine xget E hQ 0 (by decide) c44 rfl 17 (by decide) q1485 rfl dX12_phaseOf_20 ?_
    refine lv_iconst (v := 1) hx hb dX12_phaseOf_23 (by decide) ?_
    refine xiald E hQ 7 (by decide) c2 (vp_in_lit 1 50 (by decide)) dX12_phaseOf_24 ?_
    refine sb_at (P := fun z => W _ _ _ _ _ _ _ _ _ _ _ _ _ _ _ (F0 _ _ _ (.int z :: _))) (show f1 (1 : Int32).toNatClampNeg = v4 from ee5) ?_
    have tt58 : v4 = (arr (S 7) 1) := by rw [arr_of c2]; exact (ee5).symm
    refine lv_icmp_ge (tgt := 30) hx hb dX12_phaseOf_25 (by decide) (fun k59 => ?_) (fun k59 => ?_)
    · have h60 := ib_le k59
      have kc61 : (arr (S 7) 1) ≤ (a1 - a1 / (fRound (S 7) (S 8) (S 10)) * (fRound (S 7) (S 8) (S 10))) := by have h0 := k59; rw [tt58, tt53] at h0; exact h0
      have b62 : Bd z49 (1) (35) := ⟨((rf_le b8 b57 h60).2).1, (b57).2⟩
      refine lv_iload_n hx hb dX12_phaseOf_30 rfl (lv_at hl 0 rfl) ?_
      refine lv_aload_n hx hb dX12_phaseOf_31 rfl (lv_at hl 1 rfl) ?_
      refine xget E hQ 0 (by decide) c44 rfl 17 (by decide) q1485 rfl dX12_phaseOf_32 ?_
      refine lv_iconst (v := 1) hx hb dX12_phaseOf_35 (by decide) ?_
      refine xiald E hQ 7 (by decide) c2 (vp_in_lit 1 50 (by decide)) dX12_phaseOf_36 ?_
      refine sb_at (P := fun z => W _ _ _ _ _ _ _ _ _ _ _ _ _ _ _ (F0 _ _ _ (.int z :: _))) (show f1 (1 : Int32).toNatClampNeg = v4 from ee5) ?_
      refine lv_aload_n hx hb dX12_phaseOf_37 rfl (lv_at hl 1 rfl) ?_
      refine xget E hQ 0 (by decide) c44 rfl 17 (by decide) q1485 rfl dX12_phaseOf_38 ?_
      refine lv_iconst (v := 2) hx hb dX12_phaseOf_41 (by decide) ?_
      refine xiald E hQ 7 (by decide) c2 (vp_in_lit 2 50 (by decide)) dX12_phaseOf_42 ?_
      refine sb_at (P := fun z => W _ _ _ _ _ _ _ _ _ _ _ _ _ _ _ (F0 _ _ _ (.int z :: _))) (show f1 (2 : Int32).toNatClampNeg = v9 from ee10) ?_
      have tt63 : v9 = (arr (S 7) 2) := by rw [arr_of c2]; exact (ee10).symm
      refine lv_iadd hx hb dX12_phaseOf_43 ?_
      refine lv_topi (fun z64 e65 => ?_)
      have t66 := ib_add e65 b8 b11 (by decide) (by decide)
      have b67 : Bd z64 (1) (18) := ib_addb t66 b8 b11
      have tt68 : z64 = ((arr (S 7) 1) + (arr (S 7) 2)) := by rw [e65, tt58, tt63]
      refine lv_icmp_ge (tgt := 49) hx hb dX12_phaseOf_44 (by decide) (fun k69 => ?_) (fun k69 => ?_)
      · have h70 := ib_le k69
        have kc71 : ((arr (S 7) 1) + (arr (S 7) 2)) ≤ (a1 - a1 / (fRound (S 7) (S 8) (S 10)) * (fRound (S 7) (S 8) (S 10))) := by have h0 := k69; rw [tt68, tt53] at h0; exact h0
        refine lv_iload_n hx hb dX12_phaseOf_49 rfl (lv_at hl 0 rfl) ?_
        refine lv_aload_n hx hb dX12_phaseOf_50 rfl (lv_at hl 1 rfl) ?_
        refine xget E hQ 0 (by decide) c44 rfl 17 (by decide) q1485 rfl dX12_phaseOf_51 ?_
        refine lv_iconst (v := 1) hx hb dX12_phaseOf_54 (by decide) ?_
        refine xiald E hQ 7 (by decide) c2 (vp_in_lit 1 50 (by decide)) dX12_phaseOf_55 ?_
        refine sb_at (P := fun z => W _ _ _ _ _ _ _ _ _ _ _ _ _ _ _ (F0 _ _ _ (.int z :: _))) (show f1 (1 : Int32).toNatClampNeg = v4 from ee5) ?_
        refine lv_aload_n hx hb dX12_phaseOf_56 rfl (lv_at hl 1 rfl) ?_
        refine xget E hQ 0 (by decide) c44 rfl 17 (by decide) q1485 rfl dX12_phaseOf_57 ?_
        refine lv_iconst (v := 2) hx hb dX12_phaseOf_60 (by decide) ?_
        refine xiald E hQ 7 (by decide) c2 (vp_in_lit 2 50 (by decide)) dX12_phaseOf_61 ?_
        refine sb_at (P := fun z => W _ _ _ _ _ _ _ _ _ _ _ _ _ _ _ (F0 _ _ _ (.int z :: _))) (show f1 (2 : Int32).toNatClampNeg = v9 from ee10) ?_
        refine lv_iadd hx hb dX12_phaseOf_62 ?_
        refine lv_topi (fun z72 e73 => ?_)
        have t74 := ib_add e73 b8 b11 (by decide) (by decide)
        have b75 : Bd z72 (1) (18) := ib_addb t74 b8 b11
        have tt76 : z72 = ((arr (S 7) 1) + (arr (S 7) 2)) := by rw [e73, tt58, tt63]
        refine lv_aload_n hx hb dX12_phaseOf_63 rfl (lv_at hl 1 rfl) ?_
        refine xget E hQ 0 (by decide) c44 rfl 17 (by decide) q1485 rfl dX12_phaseOf_64 ?_
        refine lv_iconst (v := 3) hx hb dX12_phaseOf_67 (by decide) ?_
        refine xiald E hQ 7 (by decide) c2 (vp_in_lit 3 50 (by decide)) dX12_phaseOf_68 ?_
        refine sb_at (P := fun z => W _ _ _ _ _ _ _ _ _ _ _ _ _ _ _ (F0 _ _ _ (.int z :: _))) (show f1 (3 : Int32).toNatClampNeg = v12 from ee13) ?_
        have tt77 : v12 = (arr (S 7) 3) := by rw [arr_of c2]; exact (ee13).symm
        refine lv_iadd hx hb dX12_phaseOf_69 ?_
        refine lv_topi (fun z78 e79 => ?_)
        have t80 := ib_add e79 b75 b14 (by decide) (by decide)
        have b81 : Bd z78 (1) (30) := ib_addb t80 b75 b14
        have tt82 : z78 = (((arr (S 7) 1) + (arr (S 7) 2)) + (arr (S 7) 3)) := by rw [e79, tt76, tt77]
        refine lv_icmp_ge (tgt := 77) hx hb dX12_phaseOf_70 (by decide) (fun k83 => ?_) (fun k83 => ?_)
        · have h84 := ib_le k83
          have kc85 : (((arr (S 7) 1) + (arr (S 7) 2)) + (arr (S 7) 3)) ≤ (a1 - a1 / (fRound (S 7) (S 8) (S 10)) * (fRound (S 7) (S 8) (S 10))) := by have h0 := k83; rw [tt82, tt53] at h0; exact h0
          refine lv_iconst (v := 1) hx hb dX12_phaseOf_77 (by decide) ?_
          exact xri E hr hlk hQ (⟨rfl, (ib_wk (by decide : Bd 1 (1) (1)) (by decide) (by decide)), (by rw [fPhase, if_pos kc56, if_pos kc61, if_pos kc71, if_pos kc85])⟩) dX12_phaseOf_78
        · have h86 := ib_nle k83
          have kc87 : ¬ ((((arr (S 7) 1) + (arr (S 7) 2)) + (arr (S 7) 3)) ≤ (a1 - a1 / (fRound (S 7) (S 8) (S 10)) * (fRound (S 7) (S 8) (S 10)))) := by have h0 := k83; rw [tt82, tt53] at h0; exact h0
          have b88 : Bd z49 (1) (29) := ⟨(b62).1, ((rf_lt b62 b81 h86).1).2⟩
          have b89 : Bd z78 (2) (30) := ⟨((rf_lt b62 b81 h86).2).1, (b81).2⟩
          refine lv_iconst (v := 2) hx hb dX12_phaseOf_73 (by decide) ?_
          refine lv_goto (tgt := 78) hx hb dX12_phaseOf_74 (by decide) ?_
          exact xri E hr hlk hQ (⟨rfl, (ib_wk (by decide : Bd 2 (2) (2)) (by decide) (by decide)), (by rw [fPhase, if_pos kc56, if_pos kc61, if_pos kc71, if_neg kc87])⟩) dX12_phaseOf_78
      · have h90 := ib_nle k69
        have kc91 : ¬ (((arr (S 7) 1) + (arr (S 7) 2)) ≤ (a1 - a1 / (fRound (S 7) (S 8) (S 10)) * (fRound (S 7) (S 8) (S 10)))) := by have h0 := k69; rw [tt68, tt53] at h0; exact h0
        have b92 : Bd z49 (1) (17) := ⟨(b62).1, ((rf_lt b62 b67 h90).1).2⟩
        have b93 : Bd z64 (2) (18) := ⟨((rf_lt b62 b67 h90).2).1, (b67).2⟩
        refine lv_iconst (v := 1) hx hb dX12_phaseOf_47 (by decide) ?_
        exact xri E hr hlk hQ (⟨rfl, (ib_wk (by decide : Bd 1 (1) (1)) (by decide) (by decide)), (by rw [fPhase, if_pos kc56, if_pos kc61, if_neg kc91])⟩) dX12_phaseOf_48
    · have h94 := ib_nle k59
      have kc95 : ¬ ((arr (S 7) 1) ≤ (a1 - a1 / (fRound (S 7) (S 8) (S 10)) * (fRound (S 7) (S 8) (S 10)))) := by have h0 := k59; rw [tt58, tt53] at h0; exact h0
      have b96 : Bd z49 (0) (11) := ⟨(b57).1, ((rf_lt b57 b8 h94).1).2⟩
      refine lv_iconst (v := 0) hx hb dX12_phaseOf_28 (by decide) ?_
      exact xri E hr hlk hQ (⟨rfl, (ib_wk (by decide : Bd 0 (0) (0)) (by decide) (by decide)), (by rw [fPhase, if_pos kc56, if_neg kc95])⟩) dX12_phaseOf_29
  · have h97 := ib_nle k54
    have kc98 : ¬ ((0 : Int32) ≤ (a1 - a1 / (fRound (S 7) (S 8) (S 10)) * (fRound (S 7) (S 8) (S 10)))) := by have h0 := k54; rw [tt53] at h0; exact h0
    have b99 : Bd z49 (-35) (-1) := ⟨(b52).1, ((rf_lt b52 (by decide : Bd 0 (0) (0)) h97).1).2⟩
    refine lv_iload_n hx hb dX12_phaseOf_11 rfl (lv_at hl 0 rfl) ?_
    refine lv_aload_n hx hb dX12_phaseOf_12 rfl (lv_at hl 1 rfl) ?_
    refine xcVi E hs hQ hml hl.1 0 (gX12_round_0 l g ad hD S hI ) mX12_round q1791 (by decide) c44 rfl rfl ⟨(Nat.le_of_ble_eq_true rfl), (Nat.le_of_ble_eq_true rfl)⟩ ⟨(Nat.le_of_ble_eq_true rfl), (Nat.le_of_ble_eq_true rfl)⟩ (Nat.le_of_ble_eq_true rfl) rfl dX12_phaseOf_13 (fun r100 S100 H locs hp100 hQ _ => ?_)
    obtain ⟨rfl, b100, g100_0, fg100⟩ := hp100
    have b101 : Bd r100 (2) (36) := ⟨by omega, (b100).2⟩
    have tt102 : r100 = (fRound (S 7) (S 8) (S 10)) := by rw [fg100]
    have t103 : r100.toInt = r15.toInt := by rw [fg100, fg15]
    refine lv_iadd hx hb dX12_phaseOf_16 ?_
    refine lv_topi (fun z104 e105 => ?_)
    have t106 := ib_add e105 b99 b101 (by decide) (by decide)
    have b107 : Bd z104 (-33) (35) := ib_addb t106 b99 b101
    have tt108 : z104 = ((a1 - a1 / (fRound (S 7) (S 8) (S 10)) * (fRound (S 7) (S 8) (S 10))) + (fRound (S 7) (S 8) (S 10))) := by rw [e105, tt53, tt102]
    refine lv_istore_n (lv' := [(2, .int z104), (0, .ref (ad 0)), (1, .int a1)]) hx hb dX12_phaseOf_17 rfl hl (by decide) rfl (fun ls hl => ?_)
    refine lv_iload_n hx hb dX12_phaseOf_18 rfl (lv_at hl 0 rfl) ?_
    refine lv_aload_n hx hb dX12_phaseOf_19 rfl (lv_at hl 1 rfl) ?_
    refine xget E hQ 0 (by decide) c44 rfl 17 (by decide) q1485 rfl dX12_phaseOf_20 ?_
    refine lv_iconst (v := 1) hx hb dX12_phaseOf_23 (by decide) ?_
    refine xiald E hQ 7 (by decide) c2 (vp_in_lit 1 50 (by decide)) dX12_phaseOf_24 ?_
    refine sb_at (P := fun z => W _ _ _ _ _ _ _ _ _ _ _ _ _ _ _ (F0 _ _ _ (.int z :: _))) (show f1 (1 : Int32).toNatClampNeg = v4 from ee5) ?_
    have tt109 : v4 = (arr (S 7) 1) := by rw [arr_of c2]; exact (ee5).symm
    refine lv_icmp_ge (tgt := 30) hx hb dX12_phaseOf_25 (by decide) (fun k110 => ?_) (fun k110 => ?_)
    · have h111 := ib_le k110
      have kc112 : (arr (S 7) 1) ≤ ((a1 - a1 / (fRound (S 7) (S 8) (S 10)) * (fRound (S 7) (S 8) (S 10))) + (fRound (S 7) (S 8) (S 10))) := by have h0 := k110; rw [tt109, tt108] at h0; exact h0
      have b113 : Bd z104 (1) (35) := ⟨((rf_le b8 b107 h111).2).1, (b107).2⟩
      refine lv_iload_n hx hb dX12_phaseOf_30 rfl (lv_at hl 0 rfl) ?_
      refine lv_aload_n hx hb dX12_phaseOf_31 rfl (lv_at hl 1 rfl) ?_
      refine xget E hQ 0 (by decide) c44 rfl 17 (by decide) q1485 rfl dX12_phaseOf_32 ?_
      refine lv_iconst (v := 1) hx hb dX12_phaseOf_35 (by decide) ?_
      refine xiald E hQ 7 (by decide) c2 (vp_in_lit 1 50 (by decide)) dX12_phaseOf_36 ?_
      refine sb_at (P := fun z => W _ _ _ _ _ _ _ _ _ _ _ _ _ _ _ (F0 _ _ _ (.int z :: _))) (show f1 (1 : Int32).toNatClampNeg = v4 from ee5) ?_
      refine lv_aload_n hx hb dX12_phaseOf_37 rfl (lv_at hl 1 rfl) ?_
      refine xget E hQ 0 (by decide) c44 rfl 17 (by decide) q1485 rfl dX12_phaseOf_38 ?_
      refine lv_iconst (v := 2) hx hb dX12_phaseOf_41 (by decide) ?_
      refine xiald E hQ 7 (by decide) c2 (vp_in_lit 2 50 (by decide)) dX12_phaseOf_42 ?_
      refine sb_at (P := fun z => W _ _ _ _ _ _ _ _ _ _ _ _ _ _ _ (F0 _ _ _ (.int z :: _))) (show f1 (2 : Int32).toNatClampNeg = v9 from ee10) ?_
      have tt114 : v9 = (arr (S 7) 2) := by rw [arr_of c2]; exact (ee10).symm
      refine lv_iadd hx hb dX12_phaseOf_43 ?_
      refine lv_topi (fun z115 e116 => ?_)
      have t117 := ib_add e116 b8 b11 (by decide) (by decide)
      have b118 : Bd z115 (1) (18) := ib_addb t117 b8 b11
      have tt119 : z115 = ((arr (S 7) 1) + (arr (S 7) 2)) := by rw [e116, tt109, tt114]
      refine lv_icmp_ge (tgt := 49) hx hb dX12_phaseOf_44 (by decide) (fun k120 => ?_) (fun k120 => ?_)
      · have h121 := ib_le k120
        have kc122 : ((arr (S 7) 1) + (arr (S 7) 2)) ≤ ((a1 - a1 / (fRound (S 7) (S 8) (S 10)) * (fRound (S 7) (S 8) (S 10))) + (fRound (S 7) (S 8) (S 10))) := by have h0 := k120; rw [tt119, tt108] at h0; exact h0
        refine lv_iload_n hx hb dX12_phaseOf_49 rfl (lv_at hl 0 rfl) ?_
        refine lv_aload_n hx hb dX12_phaseOf_50 rfl (lv_at hl 1 rfl) ?_
        refine xget E hQ 0 (by decide) c44 rfl 17 (by decide) q1485 rfl dX12_phaseOf_51 ?_
        refine lv_iconst (v := 1) hx hb dX12_phaseOf_54 (by decide) ?_
        refine xiald E hQ 7 (by decide) c2 (vp_in_lit 1 50 (by decide)) dX12_phaseOf_55 ?_
        refine sb_at (P := fun z => W _ _ _ _ _ _ _ _ _ _ _ _ _ _ _ (F0 _ _ _ (.int z :: _))) (show f1 (1 : Int32).toNatClampNeg = v4 from ee5) ?_
        refine lv_aload_n hx hb dX12_phaseOf_56 rfl (lv_at hl 1 rfl) ?_
        refine xget E hQ 0 (by decide) c44 rfl 17 (by decide) q1485 rfl dX12_phaseOf_57 ?_
        refine lv_iconst (v := 2) hx hb dX12_phaseOf_60 (by decide) ?_
        refine xiald E hQ 7 (by decide) c2 (vp_in_lit 2 50 (by decide)) dX12_phaseOf_61 ?_
        refine sb_at (P := fun z => W _ _ _ _ _ _ _ _ _ _ _ _ _ _ _ (F0 _ _ _ (.int z :: _))) (show f1 (2 : Int32).toNatClampNeg = v9 from ee10) ?_
        refine lv_iadd hx hb dX12_phaseOf_62 ?_
        refine lv_topi (fun z123 e124 => ?_)
        have t125 := ib_add e124 b8 b11 (by decide) (by decide)
        have b126 : Bd z123 (1) (18) := ib_addb t125 b8 b11
        have tt127 : z123 = ((arr (S 7) 1) + (arr (S 7) 2)) := by rw [e124, tt109, tt114]
        refine lv_aload_n hx hb dX12_phaseOf_63 rfl (lv_at hl 1 rfl) ?_
        refine xget E hQ 0 (by decide) c44 rfl 17 (by decide) q1485 rfl dX12_phaseOf_64 ?_
        refine lv_iconst (v := 3) hx hb dX12_phaseOf_67 (by decide) ?_
        refine xiald E hQ 7 (by decide) c2 (vp_in_lit 3 50 (by decide)) dX12_phaseOf_68 ?_
        refine sb_at (P := fun z => W _ _ _ _ _ _ _ _ _ _ _ _ _ _ _ (F0 _ _ _ (.int z :: _))) (show f1 (3 : Int32).toNatClampNeg = v12 from ee13) ?_
        have tt128 : v12 = (arr (S 7) 3) := by rw [arr_of c2]; exact (ee13).symm
        refine lv_iadd hx hb dX12_phaseOf_69 ?_
        refine lv_topi (fun z129 e130 => ?_)
        have t131 := ib_add e130 b126 b14 (by decide) (by decide)
        have b132 : Bd z129 (1) (30) := ib_addb t131 b126 b14
        have tt133 : z129 = (((arr (S 7) 1) + (arr (S 7) 2)) + (arr (S 7) 3)) := by rw [e130, tt127, tt128]
        refine lv_icmp_ge (tgt := 77) hx hb dX12_phaseOf_70 (by decide) (fun k134 => ?_) (fun k134 => ?_)
        · have h135 := ib_le k134
          have kc136 : (((arr (S 7) 1) + (arr (S 7) 2)) + (arr (S 7) 3)) ≤ ((a1 - a1 / (fRound (S 7) (S 8) (S 10)) * (fRound (S 7) (S 8) (S 10))) + (fRound (S 7) (S 8) (S 10))) := by have h0 := k134; rw [tt133, tt108] at h0; exact h0
          refine lv_iconst (v := 1) hx hb dX12_phaseOf_77 (by decide) ?_
          exact xri E hr hlk hQ (⟨rfl, (ib_wk (by decide : Bd 1 (1) (1)) (by decide) (by decide)), (by rw [fPhase, if_neg kc98, if_pos kc112, if_pos kc122, if_pos kc136])⟩) dX12_phaseOf_78
        · have h137 := ib_nle k134
          have kc138 : ¬ ((((arr (S 7) 1) + (arr (S 7) 2)) + (arr (S 7) 3)) ≤ ((a1 - a1 / (fRound (S 7) (S 8) (S 10)) * (fRound (S 7) (S 8) (S 10))) + (fRound (S 7) (S 8) (S 10)))) := by have h0 := k134; rw [tt133, tt108] at h0; exact h0
          have b139 : Bd z104 (1) (29) := ⟨(b113).1, ((rf_lt b113 b132 h137).1).2⟩
          have b140 : Bd z129 (2) (30) := ⟨((rf_lt b113 b132 h137).2).1, (b132).2⟩
          refine lv_iconst (v := 2) hx hb dX12_phaseOf_73 (by decide) ?_
          refine lv_goto (tgt := 78) hx hb dX12_phaseOf_74 (by decide) ?_
          exact xri E hr hlk hQ (⟨rfl, (ib_wk (by decide : Bd 2 (2) (2)) (by decide) (by decide)), (by rw [fPhase, if_neg kc98, if_pos kc112, if_pos kc122, if_neg kc138])⟩) dX12_phaseOf_78
      · have h141 := ib_nle k120
        have kc142 : ¬ (((arr (S 7) 1) + (arr (S 7) 2)) ≤ ((a1 - a1 / (fRound (S 7) (S 8) (S 10)) * (fRound (S 7) (S 8) (S 10))) + (fRound (S 7) (S 8) (S 10)))) := by have h0 := k120; rw [tt119, tt108] at h0; exact h0
        have b143 : Bd z104 (1) (17) := ⟨(b113).1, ((rf_lt b113 b118 h141).1).2⟩
        have b144 : Bd z115 (2) (18) := ⟨((rf_lt b113 b118 h141).2).1, (b118).2⟩
        refine lv_iconst (v := 1) hx hb dX12_phaseOf_47 (by decide) ?_
        exact xri E hr hlk hQ (⟨rfl, (ib_wk (by decide : Bd 1 (1) (1)) (by decide) (by decide)), (by rw [fPhase, if_neg kc98, if_pos kc112, if_neg kc142])⟩) dX12_phaseOf_48
    · have h145 := ib_nle k110
      have kc146 : ¬ ((arr (S 7) 1) ≤ ((a1 - a1 / (fRound (S 7) (S 8) (S 10)) * (fRound (S 7) (S 8) (S 10))) + (fRound (S 7) (S 8) (S 10)))) := by have h0 := k110; rw [tt109, tt108] at h0; exact h0
      have b147 : Bd z104 (-33) (11) := ⟨(b107).1, ((rf_lt b107 b8 h145).1).2⟩
      refine lv_iconst (v := 0) hx hb dX12_phaseOf_28 (by decide) ?_
      exact xri E hr hlk hQ (⟨rfl, (ib_wk (by decide : Bd 0 (0) (0)) (by decide) (by decide)), (by rw [fPhase, if_neg kc98, if_neg kc146])⟩) dX12_phaseOf_29
def fHeld (e7 e8 e10 : va_E) (a1 : Int32) : Int32 := if (0 : Int32) ≤ a1 then (if a1 < (arr e7 0) then a1 else ((arr e7 0) - (1 : Int32))) else (0 : Int32)
set_option maxHeartbeats 4000000 in
set_option maxRecDepth 100000 in
theorem gX12_held_0 (l : Launch) (g : GG) (ad : Nat → Nat) (hD : Dj ad 20) (S : SS) (hI : InvM g ad S) (a1 : Int32) (hq1 : 0 ≤ elm (S 7) 0 + (-1)) : Met l yX12_held (wG (.code yX12_held cX12_held 2 (some .int))) (Rm 0) (XPre g ad 20 S [.ref (ad 0), .int a1]) (va_Qi (fun r S' => S = S' ∧ Bd r (0) (11) ∧ (0 ≤ elm (S 7) 0 + (-1) * r.toInt + (-1)) ∧ r = fHeld (S 7) (S 8) (S 10) a1) (QB g ad 20) (FA ad 20)) 0 0 (FA ad 20) := by
  refine xmet cX12_held "EbbWreckModel" (by decide) rfl (Nat.le_of_ble_eq_true rfl) (fun p e s m below meth c E hr hlk hml hQ ls hl => ?_)
  have hx := E.1
  have hb := E.2.1
  have hs : Sp ad 20 (FA ad 20) := Sp.fa hD
  have hl : lv_has ls 2 [(0, .ref (ad 0)), (1, .int a1)] := hl
  obtain ⟨f1, c2, b3⟩ := invM_7 hI
  obtain ⟨v4, ee5⟩ : ∃ z : Int32, f1 0 = z := ⟨_, rfl⟩
  have b6 : Bd v4 (0) (12) := (by rw [← ee5]; exact b3.1 0 (by decide))
  have q7 : elm (S 7) 0 = v4.toInt := (elm_of c2 0).trans (congrArg Int32.toInt (ee5))
  have b8 : Bd v4 (1) (12) := ⟨by omega, (b6).2⟩
  refine lv_iload_n hx hb dX12_held_0 rfl (lv_at hl 1 rfl) ?_
  refine lv_if_ge (tgt := 8) hx hb dX12_held_1 (by decide) (fun k9 => ?_) (fun k9 => ?_)
  · have h10 := ib_le k9
    have kc11 : (0 : Int32) ≤ a1 := by have h0 := k9; exact h0
    have b12 : Bd a1 (0) (2147483647) := ⟨((rf_le (by decide : Bd 0 (0) (0)) (ib_full a1) h10).2).1, ((ib_full a1)).2⟩
    refine lv_iload_n hx hb dX12_held_8 rfl (lv_at hl 1 rfl) ?_
    refine lv_aload_n hx hb dX12_held_9 rfl (lv_at hl 0 rfl) ?_
    obtain ⟨v13, v14, v16, v18, v20, v21, w22, v23, v25, v26, v27, v28, v30, v32, v34, v36, v38, v39, v40, c41, b15, b17, b19, b24, b29, b31, b33, b35, b37⟩ := invM_0 hI
    have c41 : S 0 = .inr (12, [.int v13, .ref (ad 1), .ref (ad 2), .ref (ad 3), .ref (ad 4), .ref (ad 5), .int v14, .int v16, .int v18, .int v20, .int v21, .long w22, .int v23, .int v25, .int v26, .int v27, .ref (ad 6), .ref (ad 7), .ref (ad 8), .ref (ad 9), .ref (ad 10), .ref (ad 11), .ref (ad 12), .ref (ad 13), .ref (ad 14), .ref (ad 15), .int v28, .int v30, .ref (ad 16), .int v32, .int v34, .int v36, .int v38, .int v39, .ref (ad 17), .ref (ad 18), .int v40, .ref (ad 19)]) := c41
    refine xget E hQ 0 (by decide) c41 rfl 17 (by decide) q1485 rfl dX12_held_10 ?_
    refine lv_iconst (v := 0) hx hb dX12_held_13 (by decide) ?_
    refine xiald E hQ 7 (by decide) c2 (vp_in_lit 0 50 (by decide)) dX12_held_14 ?_
    refine sb_at (P := fun z => W _ _ _ _ _ _ _ _ _ _ _ _ _ _ _ (F0 _ _ _ (.int z :: _))) (show f1 (0 : Int32).toNatClampNeg = v4 from ee5) ?_
    have tt42 : v4 = (arr (S 7) 0) := by rw [arr_of c2]; exact (ee5).symm
    refine lv_icmp_lt (tgt := 29) hx hb dX12_held_15 (by decide) (fun k43 => ?_) (fun k43 => ?_)
    · have h44 := ib_lt k43
      have kc45 : a1 < (arr (S 7) 0) := by have h0 := k43; rw [tt42] at h0; exact h0
      have b46 : Bd a1 (0) (11) := ⟨(b12).1, ((rf_lt b12 b8 h44).1).2⟩
      refine lv_iload_n hx hb dX12_held_29 rfl (lv_at hl 1 rfl) ?_
      exact xri E hr hlk hQ (⟨rfl, b46, (by omega), (by rw [fHeld, if_pos kc11, if_pos kc45])⟩) dX12_held_30
    · have h47 := ib_nlt k43
      have kc48 : ¬ (a1 < (arr (S 7) 0)) := by have h0 := k43; rw [tt42] at h0; exact h0
      have b49 : Bd a1 (1) (2147483647) := ⟨((rf_le b8 b12 h47).2).1, (b12).2⟩
      refine lv_aload_n hx hb dX12_held_18 rfl (lv_at hl 0 rfl) ?_
      refine xget E hQ 0 (by decide) c41 rfl 17 (by decide) q1485 rfl dX12_held_19 ?_
      refine lv_iconst (v := 0) hx hb dX12_held_22 (by decide) ?_
      refine xiald E hQ 7 (by decide) c2 (vp_in_lit 0 50 (by decide)) dX12_held_23 ?_
      refine sb_at (P := fun z => W _ _ _ _ _ _ _ _ _ _ _ _ _ _ _ (F0 _ _ _ (.int z :: _))) (show f1 (0 : Int32).toNatClampNeg = v4 from ee5) ?_
      refine lv_iconst (v := 1) hx hb dX12_held_24 (by decide) ?_
      refine lv_isub hx hb dX12_held_25 ?_
      refine lv_topi (fun z50 e51 => ?_)
      have t52 := ib_sub e51 b8 (by decide : Bd 1 (1) (1)) (by decide) (by decide)
      have b53 : Bd z50 (0) (11) := ib_subb t52 b8 (by decide : Bd 1 (1) (1))
      have t52 : z50.toInt = v4.toInt - 1 := fold_sub t52 rfl (by decide)
      have tt54 : z50 = ((arr (S 7) 0) - (1 : Int32)) := by rw [e51, tt42]
      refine lv_goto (tgt := 30) hx hb dX12_held_26 (by decide) ?_
      exact xri E hr hlk hQ (⟨rfl, b53, (by omega), (by rw [fHeld, if_pos kc11, if_neg kc48]; exact tt54)⟩) dX12_held_30
  · have h55 := ib_nle k9
    have kc56 : ¬ ((0 : Int32) ≤ a1) := by have h0 := k9; exact h0
    have b57 : Bd a1 (-2147483648) (-1) := ⟨((ib_full a1)).1, ((rf_lt (ib_full a1) (by decide : Bd 0 (0) (0)) h55).1).2⟩
    refine lv_iconst (v := 0) hx hb dX12_held_4 (by decide) ?_
    refine lv_goto (tgt := 30) hx hb dX12_held_5 (by decide) ?_
    have q58 : (0 : Int32).toInt = 0 := by decide
    exact xri E hr hlk hQ (⟨rfl, (ib_wk (by decide : Bd 0 (0) (0)) (by decide) (by decide)), (by omega), (by rw [fHeld, if_neg kc56])⟩) dX12_held_30
def fOn (e7 e8 e10 : va_E) (a1 : Int32) (a2 : Int32) : Int32 := if (fPhase e7 e8 e10 a2) = (0 : Int32) then (fHeld e7 e8 e10 (a1 + (arr e8 ((2 : Int32) * a1).toNatClampNeg))) else (if (fPhase e7 e8 e10 a2) = (2 : Int32) then (fHeld e7 e8 e10 (a1 + (arr e8 (((2 : Int32) * a1) + (1 : Int32)).toNatClampNeg))) else (fHeld e7 e8 e10 (a1 + (0 : Int32))))
set_option maxHeartbeats 4000000 in
set_option maxRecDepth 100000 in
theorem gX12_on_0 (l : Launch) (g : GG) (ad : Nat → Nat) (hD : Dj ad 20) (S : SS) (hI : InvM g ad S) (a1 : Int32) (a2 : Int32) (ba1 : Bd a1 (0) (11)) (hq1 : 0 ≤ elm (S 7) 0 + (-1)) (hq2 : 0 ≤ elm (S 7) 1 + (-1)) : Met l yX12_on (wG (.code yX12_on cX12_on 4 (some .int))) (Rm 2) (XPre g ad 20 S [.ref (ad 0), .int a1, .int a2]) (va_Qi (fun r S' => S = S' ∧ Bd r (0) (11) ∧ (0 ≤ elm (S 7) 0 + (-1) * r.toInt + (-1)) ∧ r = fOn (S 7) (S 8) (S 10) a1 a2) (QB g ad 20) (FA ad 20)) 0 0 (FA ad 20) := by
  refine xmet cX12_on "EbbWreckModel" (by decide) rfl (Nat.le_of_ble_eq_true rfl) (fun p e s m below meth c E hr hlk hml hQ ls hl => ?_)
  have hx := E.1
  have hb := E.2.1
  have hs : Sp ad 20 (FA ad 20) := Sp.fa hD
  have hl : lv_has ls 4 [(0, .ref (ad 0)), (1, .int a1), (2, .int a2)] := hl
  obtain ⟨f1, c2, b3⟩ := invM_7 hI
  obtain ⟨v4, ee5⟩ : ∃ z : Int32, f1 0 = z := ⟨_, rfl⟩
  have b6 : Bd v4 (0) (12) := (by rw [← ee5]; exact b3.1 0 (by decide))
  obtain ⟨v7, ee8⟩ : ∃ z : Int32, f1 1 = z := ⟨_, rfl⟩
  have b9 : Bd v7 (0) (12) := (by rw [← ee8]; exact b3.2.1 1 (by decide))
  have q10 : elm (S 7) 0 = v4.toInt := (elm_of c2 0).trans (congrArg Int32.toInt (ee5))
  have b11 : Bd v4 (1) (12) := ⟨by omega, (b6).2⟩
  have q12 : elm (S 7) 1 = v7.toInt := (elm_of c2 1).trans (congrArg Int32.toInt (ee8))
  have b13 : Bd v7 (1) (12) := ⟨by omega, (b9).2⟩
  refine lv_aload_n hx hb dX12_on_0 rfl (lv_at hl 0 rfl) ?_
  refine lv_iload_n hx hb dX12_on_1 rfl (lv_at hl 2 rfl) ?_
  obtain ⟨v15, v16, v18, v20, v22, v23, w24, v25, v27, v28, v29, v30, v32, v34, v36, v38, v40, v41, v42, c43, b17, b19, b21, b26, b31, b33, b35, b37, b39⟩ := invM_0 hI
  have c43 : S 0 = .inr (12, [.int v15, .ref (ad 1), .ref (ad 2), .ref (ad 3), .ref (ad 4), .ref (ad 5), .int v16, .int v18, .int v20, .int v22, .int v23, .long w24, .int v25, .int v27, .int v28, .int v29, .ref (ad 6), .ref (ad 7), .ref (ad 8), .ref (ad 9), .ref (ad 10), .ref (ad 11), .ref (ad 12), .ref (ad 13), .ref (ad 14), .ref (ad 15), .int v30, .int v32, .ref (ad 16), .int v34, .int v36, .int v38, .int v40, .int v41, .ref (ad 17), .ref (ad 18), .int v42, .ref (ad 19)]) := c43
  refine xcVi E hs hQ hml hl.1 0 (gX12_phaseOf_0 l g ad hD S hI a2 (by omega)) mX12_phaseOf q1787 (by decide) c43 rfl rfl ⟨(Nat.le_of_ble_eq_true rfl), (Nat.le_of_ble_eq_true rfl)⟩ ⟨(Nat.le_of_ble_eq_true rfl), (Nat.le_of_ble_eq_true rfl)⟩ (Nat.le_of_ble_eq_true rfl) rfl dX12_on_2 (fun r14 S14 H locs hp14 hQ _ => ?_)
  obtain ⟨rfl, b14, fg14⟩ := hp14
  have tt44 : r14 = (fPhase (S 7) (S 8) (S 10) a2) := by rw [fg14]
  refine lv_istore_n (lv' := [(3, .int r14), (0, .ref (ad 0)), (1, .int a1), (2, .int a2)]) hx hb dX12_on_5 rfl hl (by decide) rfl (fun ls hl => ?_)
  refine lv_aload_n hx hb dX12_on_6 rfl (lv_at hl 1 rfl) ?_
  refine lv_iload_n hx hb dX12_on_7 rfl (lv_at hl 2 rfl) ?_
  refine lv_iload_n hx hb dX12_on_8 rfl (lv_at hl 0 rfl) ?_
  refine lv_if_ne (tgt := 23) hx hb dX12_on_9 (by decide) (fun k45 => ?_) (fun k45 => ?_)
  · have h46 := ib_ne k45
    have kc47 : ¬ ((fPhase (S 7) (S 8) (S 10) a2) = (0 : Int32)) := by have h0 := k45; rw [tt44] at h0; exact h0
    have b48 : Bd r14 (1) (2) := rf_nlo b14 (by decide : Bd 0 (0) (0)) h46
    refine lv_iload_n hx hb dX12_on_23 rfl (lv_at hl 0 rfl) ?_
    refine lv_iconst (v := 2) hx hb dX12_on_24 (by decide) ?_
    refine lv_icmp_ne (tgt := 41) hx hb dX12_on_25 (by decide) (fun k49 => ?_) (fun k49 => ?_)
    · have h50 := ib_ne k49
      have kc51 : ¬ ((fPhase (S 7) (S 8) (S 10) a2) = (2 : Int32)) := by have h0 := k49; rw [tt44] at h0; exact h0
      have b52 : Bd r14 (1) (1) := rf_nhi b48 (by decide : Bd 2 (2) (2)) h50
      refine lv_iconst (v := 0) hx hb dX12_on_41 (by decide) ?_
      refine lv_iadd hx hb dX12_on_42 ?_
      refine lv_topi (fun z53 e54 => ?_)
      have t55 := ib_add e54 ba1 (by decide : Bd 0 (0) (0)) (by decide) (by decide)
      have b56 : Bd z53 (0) (11) := ib_addb t55 ba1 (by decide : Bd 0 (0) (0))
      have t55 : z53.toInt = a1.toInt + 0 := fold_add t55 rfl (by decide)
      have tt57 : z53 = (a1 + (0 : Int32)) := by rw [e54]
      refine xcVi E hs hQ hml hl.1 0 (gX12_held_0 l g ad hD S hI z53 (by omega)) mX12_held q1808 (by decide) c43 rfl rfl ⟨(Nat.le_of_ble_eq_true rfl), (Nat.le_of_ble_eq_true rfl)⟩ ⟨(Nat.le_of_ble_eq_true rfl), (Nat.le_of_ble_eq_true rfl)⟩ (Nat.le_of_ble_eq_true rfl) rfl dX12_on_43 (fun r58 S58 H locs hp58 hQ _ => ?_)
      obtain ⟨rfl, b58, g58_0, fg58⟩ := hp58
      have tt59 : r58 = (fHeld (S 7) (S 8) (S 10) (a1 + (0 : Int32))) := by rw [fg58, tt57]
      exact xri E hr hlk hQ (⟨rfl, b58, (by omega), (by rw [fOn, if_neg kc47, if_neg kc51]; exact tt59)⟩) dX12_on_46
    · have h60 := ib_eq k49
      have kc61 : (fPhase (S 7) (S 8) (S 10) a2) = (2 : Int32) := by have h0 := k49; rw [tt44] at h0; exact h0
      have b62 : Bd r14 (2) (2) := ⟨((rf_eq b48 (by decide : Bd 2 (2) (2)) h60).1).1, (b48).2⟩
      refine lv_aload_n hx hb dX12_on_28 rfl (lv_at hl 1 rfl) ?_
      refine xget E hQ 0 (by decide) c43 rfl 18 (by decide) q1486 rfl dX12_on_29 ?_
      refine lv_iconst (v := 2) hx hb dX12_on_32 (by decide) ?_
      refine lv_iload_n hx hb dX12_on_33 rfl (lv_at hl 2 rfl) ?_
      refine lv_imul hx hb dX12_on_34 ?_
      refine lv_topi (fun z63 e64 => ?_)
      have t65 := ib_cmul (q := 2) e64 (by decide) (by decide) ba1 (by decide) (by decide)
      have b66 : Bd z63 (0) (22) := ib_mulb t65 (by decide) ba1
      have tt67 : z63 = ((2 : Int32) * a1) := by rw [e64]
      refine lv_iconst (v := 1) hx hb dX12_on_35 (by decide) ?_
      refine lv_iadd hx hb dX12_on_36 ?_
      refine lv_topi (fun z68 e69 => ?_)
      have t70 := ib_add e69 b66 (by decide : Bd 1 (1) (1)) (by decide) (by decide)
      have b71 : Bd z68 (1) (23) := ib_addb t70 b66 (by decide : Bd 1 (1) (1))
      have t70 : z68.toInt = z63.toInt + 1 := fold_add t70 rfl (by decide)
      have tt72 : z68 = (((2 : Int32) * a1) + (1 : Int32)) := by rw [e69, tt67]
      obtain ⟨f73, c74⟩ := invM_8 hI
      refine xiald E hQ 8 (by decide) c74 (ib_in b71 (by decide) (by decide)) dX12_on_37 ?_
      refine lv_topi (fun z76 e77 => ?_)
      have tt78 : z76 = (arr (S 8) (((2 : Int32) * a1) + (1 : Int32)).toNatClampNeg) := by rw [e77, arr_of c74, tt72]
      refine lv_goto (tgt := 42) hx hb dX12_on_38 (by decide) ?_
      refine lv_iadd hx hb dX12_on_42 ?_
      refine lv_topi (fun z79 e80 => ?_)
      have tt81 : z79 = (a1 + (arr (S 8) (((2 : Int32) * a1) + (1 : Int32)).toNatClampNeg)) := by rw [e80, tt78]
      refine xcVi E hs hQ hml hl.1 0 (gX12_held_0 l g ad hD S hI z79 (by omega)) mX12_held q1808 (by decide) c43 rfl rfl ⟨(Nat.le_of_ble_eq_true rfl), (Nat.le_of_ble_eq_true rfl)⟩ ⟨(Nat.le_of_ble_eq_true rfl), (Nat.le_of_ble_eq_true rfl)⟩ (Nat.le_of_ble_eq_true rfl) rfl dX12_on_43 (fun r82 S82 H locs hp82 hQ _ => ?_)
      obtain ⟨rfl, b82, g82_0, fg82⟩ := hp82
      have tt83 : r82 = (fHeld (S 7) (S 8) (S 10) (a1 + (arr (S 8) (((2 : Int32) * a1) + (1 : Int32)).toNatClampNeg))) := by rw [fg82, tt81]
      exact xri E hr hlk hQ (⟨rfl, b82, (by omega), (by rw [fOn, if_neg kc47, if_pos kc61]; exact tt83)⟩) dX12_on_46
  · have h84 := ib_eq k45
    have kc85 : (fPhase (S 7) (S 8) (S 10) a2) = (0 : Int32) := by have h0 := k45; rw [tt44] at h0; exact h0
    have b86 : Bd r14 (0) (0) := ⟨(b14).1, ((rf_eq b14 (by decide : Bd 0 (0) (0)) h84).1).2⟩
    refine lv_aload_n hx hb dX12_on_12 rfl (lv_at hl 1 rfl) ?_
    refine xget E hQ 0 (by decide) c43 rfl 18 (by decide) q1486 rfl dX12_on_13 ?_
    refine lv_iconst (v := 2) hx hb dX12_on_16 (by decide) ?_
    refine lv_iload_n hx hb dX12_on_17 rfl (lv_at hl 2 rfl) ?_
    refine lv_imul hx hb dX12_on_18 ?_
    refine lv_topi (fun z87 e88 => ?_)
    have t89 := ib_cmul (q := 2) e88 (by decide) (by decide) ba1 (by decide) (by decide)
    have b90 : Bd z87 (0) (22) := ib_mulb t89 (by decide) ba1
    have tt91 : z87 = ((2 : Int32) * a1) := by rw [e88]
    obtain ⟨f92, c93⟩ := invM_8 hI
    refine xiald E hQ 8 (by decide) c93 (ib_in b90 (by decide) (by decide)) dX12_on_19 ?_
    refine lv_topi (fun z95 e96 => ?_)
    have tt97 : z95 = (arr (S 8) ((2 : Int32) * a1).toNatClampNeg) := by rw [e96, arr_of c93, tt91]
    refine lv_goto (tgt := 42) hx hb dX12_on_20 (by decide) ?_
    refine lv_iadd hx hb dX12_on_42 ?_
    refine lv_topi (fun z98 e99 => ?_)
    have tt100 : z98 = (a1 + (arr (S 8) ((2 : Int32) * a1).toNatClampNeg)) := by rw [e99, tt97]
    refine xcVi E hs hQ hml hl.1 0 (gX12_held_0 l g ad hD S hI z98 (by omega)) mX12_held q1808 (by decide) c43 rfl rfl ⟨(Nat.le_of_ble_eq_true rfl), (Nat.le_of_ble_eq_true rfl)⟩ ⟨(Nat.le_of_ble_eq_true rfl), (Nat.le_of_ble_eq_true rfl)⟩ (Nat.le_of_ble_eq_true rfl) rfl dX12_on_43 (fun r101 S101 H locs hp101 hQ _ => ?_)
    obtain ⟨rfl, b101, g101_0, fg101⟩ := hp101
    have tt102 : r101 = (fHeld (S 7) (S 8) (S 10) (a1 + (arr (S 8) ((2 : Int32) * a1).toNatClampNeg))) := by rw [fg101, tt100]
    exact xri E hr hlk hQ (⟨rfl, b101, (by omega), (by rw [fOn, if_pos kc85]; exact tt102)⟩) dX12_on_46
def fShoved (e7 e8 e10 : va_E) (a1 : Int32) (a2 : Int32) : Int32 := if a2 = (0 : Int32) then a1 else (if a2 = (1 : Int32) then (fHeld e7 e8 e10 (a1 + (1 : Int32))) else (fHeld e7 e8 e10 (a1 - (1 : Int32))))
set_option maxHeartbeats 4000000 in
set_option maxRecDepth 100000 in
theorem gX12_shoved_0 (l : Launch) (g : GG) (ad : Nat → Nat) (hD : Dj ad 20) (S : SS) (hI : InvM g ad S) (a1 : Int32) (a2 : Int32) (ba1 : Bd a1 (0) (11)) (hq1 : 0 ≤ elm (S 7) 0 + (-1)) : Met l yX12_shoved (wG (.code yX12_shoved cX12_shoved 3 (some .int))) (Rm 1) (XPre g ad 20 S [.ref (ad 0), .int a1, .int a2]) (va_Qi (fun r S' => S = S' ∧ Bd r (0) (11) ∧ r = fShoved (S 7) (S 8) (S 10) a1 a2) (QB g ad 20) (FA ad 20)) 0 0 (FA ad 20) := by
  refine xmet cX12_shoved "EbbWreckModel" (by decide) rfl (Nat.le_of_ble_eq_true rfl) (fun p e s m below meth c E hr hlk hml hQ ls hl => ?_)
  have hx := E.1
  have hb := E.2.1
  have hs : Sp ad 20 (FA ad 20) := Sp.fa hD
  have hl : lv_has ls 3 [(0, .ref (ad 0)), (1, .int a1), (2, .int a2)] := hl
  obtain ⟨f1, c2, b3⟩ := invM_7 hI
  obtain ⟨v4, ee5⟩ : ∃ z : Int32, f1 0 = z := ⟨_, rfl⟩
  have b6 : Bd v4 (0) (12) := (by rw [← ee5]; exact b3.1 0 (by decide))
  have q7 : elm (S 7) 0 = v4.toInt := (elm_of c2 0).trans (congrArg Int32.toInt (ee5))
  have b8 : Bd v4 (1) (12) := ⟨by omega, (b6).2⟩
  refine lv_iload_n hx hb dX12_shoved_0 rfl (lv_at hl 2 rfl) ?_
  refine lv_if_ne (tgt := 8) hx hb dX12_shoved_1 (by decide) (fun k9 => ?_) (fun k9 => ?_)
  · have h10 := ib_ne k9
    have kc11 : ¬ (a2 = (0 : Int32)) := by have h0 := k9; exact h0
    refine lv_aload_n hx hb dX12_shoved_8 rfl (lv_at hl 0 rfl) ?_
    refine lv_iload_n hx hb dX12_shoved_9 rfl (lv_at hl 2 rfl) ?_
    refine lv_iconst (v := 1) hx hb dX12_shoved_10 (by decide) ?_
    refine lv_icmp_ne (tgt := 20) hx hb dX12_shoved_11 (by decide) (fun k12 => ?_) (fun k12 => ?_)
    · have h13 := ib_ne k12
      have kc14 : ¬ (a2 = (1 : Int32)) := by have h0 := k12; exact h0
      refine lv_iload_n hx hb dX12_shoved_20 rfl (lv_at hl 1 rfl) ?_
      refine lv_iconst (v := 1) hx hb dX12_shoved_21 (by decide) ?_
      refine lv_isub hx hb dX12_shoved_22 ?_
      refine lv_topi (fun z15 e16 => ?_)
      have t17 := ib_sub e16 ba1 (by decide : Bd 1 (1) (1)) (by decide) (by decide)
      have b18 : Bd z15 (-1) (10) := ib_subb t17 ba1 (by decide : Bd 1 (1) (1))
      have t17 : z15.toInt = a1.toInt - 1 := fold_sub t17 rfl (by decide)
      have tt19 : z15 = (a1 - (1 : Int32)) := by rw [e16]
      obtain ⟨v21, v22, v24, v26, v28, v29, w30, v31, v33, v34, v35, v36, v38, v40, v42, v44, v46, v47, v48, c49, b23, b25, b27, b32, b37, b39, b41, b43, b45⟩ := invM_0 hI
      have c49 : S 0 = .inr (12, [.int v21, .ref (ad 1), .ref (ad 2), .ref (ad 3), .ref (ad 4), .ref (ad 5), .int v22, .int v24, .int v26, .int v28, .int v29, .long w30, .int v31, .int v33, .int v34, .int v35, .ref (ad 6), .ref (ad 7), .ref (ad 8), .ref (ad 9), .ref (ad 10), .ref (ad 11), .ref (ad 12), .ref (ad 13), .ref (ad 14), .ref (ad 15), .int v36, .int v38, .ref (ad 16), .int v40, .int v42, .int v44, .int v46, .int v47, .ref (ad 17), .ref (ad 18), .int v48, .ref (ad 19)]) := c49
      refine xcVi E hs hQ hml hl.1 0 (gX12_held_0 l g ad hD S hI z15 (by omega)) mX12_held q1808 (by decide) c49 rfl rfl ⟨(Nat.le_of_ble_eq_true rfl), (Nat.le_of_ble_eq_true rfl)⟩ ⟨(Nat.le_of_ble_eq_true rfl), (Nat.le_of_ble_eq_true rfl)⟩ (Nat.le_of_ble_eq_true rfl) rfl dX12_shoved_23 (fun r20 S20 H locs hp20 hQ _ => ?_)
      obtain ⟨rfl, b20, g20_0, fg20⟩ := hp20
      have tt50 : r20 = (fHeld (S 7) (S 8) (S 10) (a1 - (1 : Int32))) := by rw [fg20, tt19]
      exact xri E hr hlk hQ (⟨rfl, b20, (by rw [fShoved, if_neg kc11, if_neg kc14]; exact tt50)⟩) dX12_shoved_26
    · have h51 := ib_eq k12
      have kc52 : a2 = (1 : Int32) := by have h0 := k12; exact h0
      have b53 : Bd a2 (1) (1) := ⟨((rf_eq (ib_full a2) (by decide : Bd 1 (1) (1)) h51).1).1, ((rf_eq (ib_full a2) (by decide : Bd 1 (1) (1)) h51).1).2⟩
      refine lv_iload_n hx hb dX12_shoved_14 rfl (lv_at hl 1 rfl) ?_
      refine lv_iconst (v := 1) hx hb dX12_shoved_15 (by decide) ?_
      refine lv_iadd hx hb dX12_shoved_16 ?_
      refine lv_topi (fun z54 e55 => ?_)
      have t56 := ib_add e55 ba1 (by decide : Bd 1 (1) (1)) (by decide) (by decide)
      have b57 : Bd z54 (1) (12) := ib_addb t56 ba1 (by decide : Bd 1 (1) (1))
      have t56 : z54.toInt = a1.toInt + 1 := fold_add t56 rfl (by decide)
      have tt58 : z54 = (a1 + (1 : Int32)) := by rw [e55]
      refine lv_goto (tgt := 23) hx hb dX12_shoved_17 (by decide) ?_
      obtain ⟨v60, v61, v63, v65, v67, v68, w69, v70, v72, v73, v74, v75, v77, v79, v81, v83, v85, v86, v87, c88, b62, b64, b66, b71, b76, b78, b80, b82, b84⟩ := invM_0 hI
      have c88 : S 0 = .inr (12, [.int v60, .ref (ad 1), .ref (ad 2), .ref (ad 3), .ref (ad 4), .ref (ad 5), .int v61, .int v63, .int v65, .int v67, .int v68, .long w69, .int v70, .int v72, .int v73, .int v74, .ref (ad 6), .ref (ad 7), .ref (ad 8), .ref (ad 9), .ref (ad 10), .ref (ad 11), .ref (ad 12), .ref (ad 13), .ref (ad 14), .ref (ad 15), .int v75, .int v77, .ref (ad 16), .int v79, .int v81, .int v83, .int v85, .int v86, .ref (ad 17), .ref (ad 18), .int v87, .ref (ad 19)]) := c88
      refine xcVi E hs hQ hml hl.1 0 (gX12_held_0 l g ad hD S hI z54 (by omega)) mX12_held q1808 (by decide) c88 rfl rfl ⟨(Nat.le_of_ble_eq_true rfl), (Nat.le_of_ble_eq_true rfl)⟩ ⟨(Nat.le_of_ble_eq_true rfl), (Nat.le_of_ble_eq_true rfl)⟩ (Nat.le_of_ble_eq_true rfl) rfl dX12_shoved_23 (fun r59 S59 H locs hp59 hQ _ => ?_)
      obtain ⟨rfl, b59, g59_0, fg59⟩ := hp59
      have tt89 : r59 = (fHeld (S 7) (S 8) (S 10) (a1 + (1 : Int32))) := by rw [fg59, tt58]
      exact xri E hr hlk hQ (⟨rfl, b59, (by rw [fShoved, if_neg kc11, if_pos kc52]; exact tt89)⟩) dX12_shoved_26
  · have h90 := ib_eq k9
    have kc91 : a2 = (0 : Int32) := by have h0 := k9; exact h0
    have b92 : Bd a2 (0) (0) := ⟨((rf_eq (ib_full a2) (by decide : Bd 0 (0) (0)) h90).1).1, ((rf_eq (ib_full a2) (by decide : Bd 0 (0) (0)) h90).1).2⟩
    refine lv_iload_n hx hb dX12_shoved_4 rfl (lv_at hl 1 rfl) ?_
    refine lv_goto (tgt := 26) hx hb dX12_shoved_5 (by decide) ?_
    exact xri E hr hlk hQ (⟨rfl, ba1, (by rw [fShoved, if_pos kc91])⟩) dX12_shoved_26
def fStands (e7 e8 e10 : va_E) (a1 : Int32) (a2 : Int32) (a3 : Int32) : Int32 := if a2 < (arr e10 ((4 : Int32) * a1).toNatClampNeg) then (0 : Int32) else (if (arr e10 (((4 : Int32) * a1) + (1 : Int32)).toNatClampNeg) < a2 then (0 : Int32) else (if (fBit e7 e8 e10 (arr e10 (((4 : Int32) * a1) + (2 : Int32)).toNatClampNeg) a3) = (0 : Int32) then (0 : Int32) else (1 : Int32)))
set_option maxHeartbeats 4000000 in
set_option maxRecDepth 100000 in
theorem gX12_stands_0 (l : Launch) (g : GG) (ad : Nat → Nat) (hD : Dj ad 20) (S : SS) (hI : InvM g ad S) (a1 : Int32) (a2 : Int32) (a3 : Int32) (ba1 : Bd a1 (0) (5)) : Met l yX12_stands (wG (.code yX12_stands cX12_stands 4 (some .boolean))) (Rm 1) (XPre g ad 20 S [.ref (ad 0), .int a1, .int a2, .int a3]) (va_Qi (fun r S' => S = S' ∧ Bd r (0) (1) ∧ r = fStands (S 7) (S 8) (S 10) a1 a2 a3) (QB g ad 20) (FA ad 20)) 0 0 (FA ad 20) := by
  refine xmet cX12_stands "EbbWreckModel" (by decide) rfl (Nat.le_of_ble_eq_true rfl) (fun p e s m below meth c E hr hlk hml hQ ls hl => ?_)
  have hx := E.1
  have hb := E.2.1
  have hs : Sp ad 20 (FA ad 20) := Sp.fa hD
  have hl : lv_has ls 4 [(0, .ref (ad 0)), (1, .int a1), (2, .int a2), (3, .int a3)] := hl
  refine lv_aload_n hx hb dX12_stands_0 rfl (lv_at hl 0 rfl) ?_
  obtain ⟨v1, v2, v4, v6, v8, v9, w10, v11, v13, v14, v15, v16, v18, v20, v22, v24, v26, v27, v28, c29, b3, b5, b7, b12, b17, b19, b21, b23, b25⟩ := invM_0 hI
  have c29 : S 0 = .inr (12, [.int v1, .ref (ad 1), .ref (ad 2), .ref (ad 3), .ref (ad 4), .ref (ad 5), .int v2, .int v4, .int v6, .int v8, .int v9, .long w10, .int v11, .int v13, .int v14, .int v15, .ref (ad 6), .ref (ad 7), .ref (ad 8), .ref (ad 9), .ref (ad 10), .ref (ad 11), .ref (ad 12), .ref (ad 13), .ref (ad 14), .ref (ad 15), .int v16, .int v18, .ref (ad 16), .int v20, .int v22, .int v24, .int v26, .int v27, .ref (ad 17), .ref (ad 18), .int v28, .ref (ad 19)]) := c29
  refine xget E hQ 0 (by decide) c29 rfl 20 (by decide) q1488 rfl dX12_stands_1 ?_
  refine lv_iconst (v := 4) hx hb dX12_stands_4 (by decide) ?_
  refine lv_iload_n hx hb dX12_stands_5 rfl (lv_at hl 1 rfl) ?_
  refine lv_imul hx hb dX12_stands_6 ?_
  refine lv_topi (fun z30 e31 => ?_)
  have t32 := ib_cmul (q := 4) e31 (by decide) (by decide) ba1 (by decide) (by decide)
  have b33 : Bd z30 (0) (20) := ib_mulb t32 (by decide) ba1
  have tt34 : z30 = ((4 : Int32) * a1) := by rw [e31]
  obtain ⟨f35, c36⟩ := invM_10 hI
  refine xiald E hQ 10 (by decide) c36 (ib_in b33 (by decide) (by decide)) dX12_stands_7 ?_
  refine lv_topi (fun z38 e39 => ?_)
  have tt40 : z38 = (arr (S 10) ((4 : Int32) * a1).toNatClampNeg) := by rw [e39, arr_of c36, tt34]
  refine lv_iload_n hx hb dX12_stands_8 rfl (lv_at hl 2 rfl) ?_
  refine lv_icmp_gt (tgt := 47) hx hb dX12_stands_9 (by decide) (fun k41 => ?_) (fun k41 => ?_)
  · have h42 := ib_lt k41
    have kc43 : a2 < (arr (S 10) ((4 : Int32) * a1).toNatClampNeg) := by have h0 := k41; rw [tt40] at h0; exact h0
    have b44 : Bd a2 (-2147483648) (2147483646) := ⟨((ib_full a2)).1, ((rf_lt (ib_full a2) (ib_full z38) h42).1).2⟩
    have b45 : Bd z38 (-2147483647) (2147483647) := ⟨((rf_lt (ib_full a2) (ib_full z38) h42).2).1, ((ib_full z38)).2⟩
    refine lv_iconst (v := 0) hx hb dX12_stands_47 (by decide) ?_
    exact xrz E hr hlk hQ rfl (⟨rfl, (ib_wk (by decide : Bd 0 (0) (0)) (by decide) (by decide)), (by rw [fStands, if_pos kc43])⟩) dX12_stands_48
  · have h46 := ib_nlt k41
    have kc47 : ¬ (a2 < (arr (S 10) ((4 : Int32) * a1).toNatClampNeg)) := by have h0 := k41; rw [tt40] at h0; exact h0
    refine lv_iload_n hx hb dX12_stands_12 rfl (lv_at hl 2 rfl) ?_
    refine lv_aload_n hx hb dX12_stands_13 rfl (lv_at hl 0 rfl) ?_
    refine xget E hQ 0 (by decide) c29 rfl 20 (by decide) q1488 rfl dX12_stands_14 ?_
    refine lv_iconst (v := 4) hx hb dX12_stands_17 (by decide) ?_
    refine lv_iload_n hx hb dX12_stands_18 rfl (lv_at hl 1 rfl) ?_
    refine lv_imul hx hb dX12_stands_19 ?_
    refine lv_topi (fun z48 e49 => ?_)
    have t50 := ib_cmul (q := 4) e49 (by decide) (by decide) ba1 (by decide) (by decide)
    have b51 : Bd z48 (0) (20) := ib_mulb t50 (by decide) ba1
    have tt52 : z48 = ((4 : Int32) * a1) := by rw [e49]
    refine lv_iconst (v := 1) hx hb dX12_stands_20 (by decide) ?_
    refine lv_iadd hx hb dX12_stands_21 ?_
    refine lv_topi (fun z53 e54 => ?_)
    have t55 := ib_add e54 b51 (by decide : Bd 1 (1) (1)) (by decide) (by decide)
    have b56 : Bd z53 (1) (21) := ib_addb t55 b51 (by decide : Bd 1 (1) (1))
    have t55 : z53.toInt = z48.toInt + 1 := fold_add t55 rfl (by decide)
    have tt57 : z53 = (((4 : Int32) * a1) + (1 : Int32)) := by rw [e54, tt52]
    refine xiald E hQ 10 (by decide) c36 (ib_in b56 (by decide) (by decide)) dX12_stands_22 ?_
    refine lv_topi (fun z58 e59 => ?_)
    have tt60 : z58 = (arr (S 10) (((4 : Int32) * a1) + (1 : Int32)).toNatClampNeg) := by rw [e59, arr_of c36, tt57]
    refine lv_icmp_gt (tgt := 47) hx hb dX12_stands_23 (by decide) (fun k61 => ?_) (fun k61 => ?_)
    · have h62 := ib_lt k61
      have kc63 : (arr (S 10) (((4 : Int32) * a1) + (1 : Int32)).toNatClampNeg) < a2 := by have h0 := k61; rw [tt60] at h0; exact h0
      have b64 : Bd z58 (-2147483648) (2147483646) := ⟨((ib_full z58)).1, ((rf_lt (ib_full z58) (ib_full a2) h62).1).2⟩
      have b65 : Bd a2 (-2147483647) (2147483647) := ⟨((rf_lt (ib_full z58) (ib_full a2) h62).2).1, ((ib_full a2)).2⟩
      refine lv_iconst (v := 0) hx hb dX12_stands_47 (by decide) ?_
      exact xrz E hr hlk hQ rfl (⟨rfl, (ib_wk (by decide : Bd 0 (0) (0)) (by decide) (by decide)), (by rw [fStands, if_neg kc47, if_pos kc63])⟩) dX12_stands_48
    · have h66 := ib_nlt k61
      have kc67 : ¬ ((arr (S 10) (((4 : Int32) * a1) + (1 : Int32)).toNatClampNeg) < a2) := by have h0 := k61; rw [tt60] at h0; exact h0
      refine lv_aload_n hx hb dX12_stands_26 rfl (lv_at hl 0 rfl) ?_
      refine xget E hQ 0 (by decide) c29 rfl 20 (by decide) q1488 rfl dX12_stands_27 ?_
      refine lv_iconst (v := 4) hx hb dX12_stands_30 (by decide) ?_
      refine lv_iload_n hx hb dX12_stands_31 rfl (lv_at hl 1 rfl) ?_
      refine lv_imul hx hb dX12_stands_32 ?_
      refine lv_topi (fun z68 e69 => ?_)
      have t70 := ib_cmul (q := 4) e69 (by decide) (by decide) ba1 (by decide) (by decide)
      have b71 : Bd z68 (0) (20) := ib_mulb t70 (by decide) ba1
      have tt72 : z68 = ((4 : Int32) * a1) := by rw [e69]
      refine lv_iconst (v := 2) hx hb dX12_stands_33 (by decide) ?_
      refine lv_iadd hx hb dX12_stands_34 ?_
      refine lv_topi (fun z73 e74 => ?_)
      have t75 := ib_add e74 b71 (by decide : Bd 2 (2) (2)) (by decide) (by decide)
      have b76 : Bd z73 (2) (22) := ib_addb t75 b71 (by decide : Bd 2 (2) (2))
      have t75 : z73.toInt = z68.toInt + 2 := fold_add t75 rfl (by decide)
      have tt77 : z73 = (((4 : Int32) * a1) + (2 : Int32)) := by rw [e74, tt72]
      refine xiald E hQ 10 (by decide) c36 (ib_in b76 (by decide) (by decide)) dX12_stands_35 ?_
      refine lv_topi (fun z78 e79 => ?_)
      have tt80 : z78 = (arr (S 10) (((4 : Int32) * a1) + (2 : Int32)).toNatClampNeg) := by rw [e79, arr_of c36, tt77]
      refine lv_iload_n hx hb dX12_stands_36 rfl (lv_at hl 3 rfl) ?_
      refine xcSi E hs hQ hml hl.1 (gX12_isBit l g ad hD S hI z78 a3) mX12_isBit q1759 rfl ⟨(Nat.le_of_ble_eq_true rfl), (Nat.le_of_ble_eq_true rfl)⟩ ⟨(Nat.le_of_ble_eq_true rfl), (Nat.le_of_ble_eq_true rfl)⟩ (Nat.le_of_ble_eq_true rfl) rfl dX12_stands_37 (fun r81 S81 H locs hp81 hQ => ?_)
      obtain ⟨rfl, b81, fg81⟩ := hp81
      have tt82 : r81 = (fBit (S 7) (S 8) (S 10) (arr (S 10) (((4 : Int32) * a1) + (2 : Int32)).toNatClampNeg) a3) := by rw [fg81, tt80]
      refine lv_if_eq (tgt := 47) hx hb dX12_stands_40 (by decide) (fun k83 => ?_) (fun k83 => ?_)
      · have h84 := ib_eq k83
        have kc85 : (fBit (S 7) (S 8) (S 10) (arr (S 10) (((4 : Int32) * a1) + (2 : Int32)).toNatClampNeg) a3) = (0 : Int32) := by have h0 := k83; rw [tt82] at h0; exact h0
        have b86 : Bd r81 (0) (0) := ⟨(b81).1, ((rf_eq b81 (by decide : Bd 0 (0) (0)) h84).1).2⟩
        refine lv_iconst (v := 0) hx hb dX12_stands_47 (by decide) ?_
        exact xrz E hr hlk hQ rfl (⟨rfl, (ib_wk (by decide : Bd 0 (0) (0)) (by decide) (by decide)), (by rw [fStands, if_neg kc47, if_neg kc67, if_pos kc85])⟩) dX12_stands_48
      · have h87 := ib_ne k83
        have kc88 : ¬ ((fBit (S 7) (S 8) (S 10) (arr (S 10) (((4 : Int32) * a1) + (2 : Int32)).toNatClampNeg) a3) = (0 : Int32)) := by have h0 := k83; rw [tt82] at h0; exact h0
        have b89 : Bd r81 (1) (1) := rf_nlo b81 (by decide : Bd 0 (0) (0)) h87
        refine lv_iconst (v := 1) hx hb dX12_stands_43 (by decide) ?_
        refine lv_goto (tgt := 48) hx hb dX12_stands_44 (by decide) ?_
        exact xrz E hr hlk hQ rfl (⟨rfl, (ib_wk (by decide : Bd 1 (1) (1)) (by decide) (by decide)), (by rw [fStands, if_neg kc47, if_neg kc67, if_neg kc88])⟩) dX12_stands_48
def pgo (e7 e8 e10 : va_E) (c ph wo : Int32) : Nat → Int32 → Int32
  | 0, _ => -1
  | n + 1, r => if arr e7 7 ≤ r then -1 else if r = wo then pgo e7 e8 e10 c ph wo n (r + 1) else if fStands e7 e8 e10 r c ph = 0 then pgo e7 e8 e10 c ph wo n (r + 1) else arr e10 ((4 : Int32) * r + 3).toNatClampNeg
def fParty (e7 e8 e10 : va_E) (a1 a2 a3 : Int32) : Int32 := pgo e7 e8 e10 a1 a2 a3 7 0
set_option maxHeartbeats 4000000 in
set_option maxRecDepth 100000 in
theorem gX12_partyOf_0 (l : Launch) (g : GG) (ad : Nat → Nat) (hD : Dj ad 20) (S : SS) (hI : InvM g ad S) (a1 : Int32) (a2 : Int32) (a3 : Int32) : Met l yX12_partyOf (wG (.code yX12_partyOf cX12_partyOf 5 (some .int))) (Rm 2) (XPre g ad 20 S [.ref (ad 0), .int a1, .int a2, .int a3]) (va_Qi (fun r S' => S = S' ∧ r = fParty (S 7) (S 8) (S 10) a1 a2 a3) (QB g ad 20) (FA ad 20)) 0 0 (FA ad 20) := by
  refine xmet cX12_partyOf "EbbWreckModel" (by decide) rfl (Nat.le_of_ble_eq_true rfl) (fun p e s m below meth c E hr hlk hml hQ ls hl => ?_)
  have hx := E.1
  have hb := E.2.1
  have hs : Sp ad 20 (FA ad 20) := Sp.fa hD
  have hl : lv_has ls 5 [(0, .ref (ad 0)), (1, .int a1), (2, .int a2), (3, .int a3)] := hl
  refine lv_iconst (v := 0) hx hb dX12_partyOf_0 (by decide) ?_
  refine lv_istore (lv' := [(4, .int 0), (0, .ref (ad 0)), (1, .int a1), (2, .int a2), (3, .int a3)]) hx hb dX12_partyOf_1 hl (by decide) rfl (fun ls hl => ?_)
  have loop3 : ∀ (n : Nat) (H : Heap) (locs : List Loc) (ls : Array Slot) (x3_4 : Int32), Bd x3_4 (0) (6) → (-1) * x3_4.toInt + 6 < ((n : Nat) : Int) → pgo (S 7) (S 8) (S 10) a1 a2 a3 (7 - x3_4.toInt).toNat x3_4 = fParty (S 7) (S 8) (S 10) a1 a2 a3 → Hp g ad 20 S (FA ad 20) s.heap H locs → lv_has ls 5 [(4, .int x3_4), (0, .ref (ad 0)), (1, .int a1), (2, .int a2), (3, .int a3)] → W p l e (Rm 2) s m [.ref (ad 0), .int a1, .int a2, .int a3].toArray below meth c H locs 0 0 (MQ below (va_Qi (fun r S' => S = S' ∧ r = fParty (S 7) (S 8) (S 10) a1 a2 a3) (QB g ad 20) (FA ad 20)) [.ref (ad 0), .int a1, .int a2, .int a3].toArray s 0 0 (FA ad 20)) (F0 m 3 ls []) := by
    intro n
    induction n with
    | zero => intro H locs ls x3_4 Bx3_4 hn3_ hC3 hQ hl; exfalso; have := (Bx3_4).2; omega
    | succ n3_ ih3 =>
      intro H locs ls x3_4 Bx3_4 hn3_ hC3 hQ hl
      refine lv_iload hx hb dX12_partyOf_3 (lv_at hl 0 rfl) ?_
      have hn7 : (7 - x3_4.toInt).toNat = (6 - x3_4.toInt).toNat + 1 := by omega
      rw [hn7, pgo] at hC3
      refine lv_aload_n hx hb dX12_partyOf_5 rfl (lv_at hl 1 rfl) ?_
      obtain ⟨v1, v2, v4, v6, v8, v9, w10, v11, v13, v14, v15, v16, v18, v20, v22, v24, v26, v27, v28, c29, b3, b5, b7, b12, b17, b19, b21, b23, b25⟩ := invM_0 hI
      have c29 : S 0 = .inr (12, [.int v1, .ref (ad 1), .ref (ad 2), .ref (ad 3), .ref (ad 4), .ref (ad 5), .int v2, .int v4, .int v6, .int v8, .int v9, .long w10, .int v11, .int v13, .int v14, .int v15, .ref (ad 6), .ref (ad 7), .ref (ad 8), .ref (ad 9), .ref (ad 10), .ref (ad 11), .ref (ad 12), .ref (ad 13), .ref (ad 14), .ref (ad 15), .int v16, .int v18, .ref (ad 16), .int v20, .int v22, .int v24, .int v26, .int v27, .ref (ad 17), .ref (ad 18), .int v28, .ref (ad 19)]) := c29
      refine xget E hQ 0 (by decide) c29 rfl 17 (by decide) q1485 rfl dX12_partyOf_6 ?_
      refine lv_bipush (v := 7) hx hb dX12_partyOf_9 (by decide) ?_
      obtain ⟨f30, c31, b32⟩ := invM_7 hI
      refine xiald E hQ 7 (by decide) c31 (vp_in_lit 7 50 (by decide)) dX12_partyOf_11 ?_
      obtain ⟨v33, ee34⟩ : ∃ z : Int32, f30 7 = z := ⟨_, rfl⟩
      have b35 : Bd v33 (0) (6) := (by rw [← ee34]; exact b32.2.2.2.2.2.1 7 (by decide))
      refine sb_at (P := fun z => W _ _ _ _ _ _ _ _ _ _ _ _ _ _ _ (F0 _ _ _ (.int z :: _))) (show f30 (7 : Int32).toNatClampNeg = v33 from ee34) ?_
      have tt36 : v33 = (arr (S 7) 7) := by rw [arr_of c31]; exact (ee34).symm
      refine lv_icmp_ge (tgt := 50) hx hb dX12_partyOf_12 (by decide) (fun k37 => ?_) (fun k37 => ?_)
      · have h38 := ib_le k37
        have kc39 : (arr (S 7) 7) ≤ x3_4 := by have h0 := k37; rw [tt36] at h0; exact h0
        refine lv_iconst (v := (-1)) hx hb dX12_partyOf_50 (by decide) ?_
        exact xri E hr hlk hQ (⟨rfl, (by have h := hC3; rw [if_pos kc39] at h; rw [← h])⟩) dX12_partyOf_51
      · have h40 := ib_nle k37
        have kc41 : ¬ ((arr (S 7) 7) ≤ x3_4) := by have h0 := k37; rw [tt36] at h0; exact h0
        have b42 : Bd x3_4 (0) (5) := ⟨(Bx3_4).1, ((rf_lt Bx3_4 b35 h40).1).2⟩
        have b43 : Bd v33 (1) (6) := ⟨((rf_lt Bx3_4 b35 h40).2).1, (b35).2⟩
        refine lv_iload hx hb dX12_partyOf_15 (lv_at hl 0 rfl) ?_
        refine lv_iload_n hx hb dX12_partyOf_17 rfl (lv_at hl 4 rfl) ?_
        refine lv_icmp_eq (tgt := 44) hx hb dX12_partyOf_18 (by decide) (fun k44 => ?_) (fun k44 => ?_)
        · have h45 := ib_eq k44
          have kc46 : x3_4 = a3 := by have h0 := k44; exact h0
          have b47 : Bd a3 (0) (5) := ⟨((rf_eq b42 (ib_full a3) h45).2).1, ((rf_eq b42 (ib_full a3) h45).2).2⟩
          obtain ⟨z48, e49⟩ : ∃ z : Int32, z = x3_4 + 1 := ⟨_, rfl⟩
          have t50 := ib_add e49 b42 (by decide : Bd 1 (1) (1)) (by decide) (by decide)
          have b51 : Bd z48 (1) (6) := ib_addb t50 b42 (by decide : Bd 1 (1) (1))
          have t50 : z48.toInt = x3_4.toInt + 1 := fold_add t50 rfl (by decide)
          refine lv_iinc (v := z48) (lv' := [(4, .int z48), (0, .ref (ad 0)), (1, .int a1), (2, .int a2), (3, .int a3)]) hx hb dX12_partyOf_44 hl (k := 0) rfl (by rw [e49]; rfl) (by decide) rfl (fun ls hl => ?_)
          refine lv_goto (tgt := 3) hx hb dX12_partyOf_47 (by decide) ?_
          exact ih3 _ _ _ z48 (ib_wk b51 (by decide) (by decide)) (by omega) (by have h := hC3; rw [if_neg kc41, if_pos kc46] at h; rw [show (7 - z48.toInt).toNat = (6 - x3_4.toInt).toNat by omega, e49]; exact h) hQ (lv_sub hl [0, 1, 2, 3, 4] rfl)
        · have h52 := ib_ne k44
          have kc53 : ¬ (x3_4 = a3) := by have h0 := k44; exact h0
          refine lv_aload_n hx hb dX12_partyOf_21 rfl (lv_at hl 1 rfl) ?_
          refine lv_iload hx hb dX12_partyOf_22 (lv_at hl 0 rfl) ?_
          refine lv_iload_n hx hb dX12_partyOf_24 rfl (lv_at hl 2 rfl) ?_
          refine lv_iload_n hx hb dX12_partyOf_25 rfl (lv_at hl 3 rfl) ?_
          refine xcVi E hs hQ hml hl.1 0 (gX12_stands_0 l g ad hD S hI x3_4 a1 a2 b42) mX12_stands q1866 (by decide) c29 rfl rfl ⟨(Nat.le_of_ble_eq_true rfl), (Nat.le_of_ble_eq_true rfl)⟩ ⟨(Nat.le_of_ble_eq_true rfl), (Nat.le_of_ble_eq_true rfl)⟩ (Nat.le_of_ble_eq_true rfl) rfl dX12_partyOf_26 (fun r54 S54 H locs hp54 hQ _ => ?_)
          obtain ⟨rfl, b54, fg54⟩ := hp54
          have tt55 : r54 = (fStands (S 7) (S 8) (S 10) x3_4 a1 a2) := by rw [fg54]
          refine lv_if_eq (tgt := 44) hx hb dX12_partyOf_29 (by decide) (fun k56 => ?_) (fun k56 => ?_)
          · have h57 := ib_eq k56
            have kc58 : (fStands (S 7) (S 8) (S 10) x3_4 a1 a2) = (0 : Int32) := by have h0 := k56; rw [tt55] at h0; exact h0
            have b59 : Bd r54 (0) (0) := ⟨(b54).1, ((rf_eq b54 (by decide : Bd 0 (0) (0)) h57).1).2⟩
            obtain ⟨z60, e61⟩ : ∃ z : Int32, z = x3_4 + 1 := ⟨_, rfl⟩
            have t62 := ib_add e61 b42 (by decide : Bd 1 (1) (1)) (by decide) (by decide)
            have b63 : Bd z60 (1) (6) := ib_addb t62 b42 (by decide : Bd 1 (1) (1))
            have t62 : z60.toInt = x3_4.toInt + 1 := fold_add t62 rfl (by decide)
            refine lv_iinc (v := z60) (lv' := [(4, .int z60), (0, .ref (ad 0)), (1, .int a1), (2, .int a2), (3, .int a3)]) hx hb dX12_partyOf_44 hl (k := 0) rfl (by rw [e61]; rfl) (by decide) rfl (fun ls hl => ?_)
            refine lv_goto (tgt := 3) hx hb dX12_partyOf_47 (by decide) ?_
            exact ih3 _ _ _ z60 (ib_wk b63 (by decide) (by decide)) (by omega) (by have h := hC3; rw [if_neg kc41, if_neg kc53, if_pos kc58] at h; rw [show (7 - z60.toInt).toNat = (6 - x3_4.toInt).toNat by omega, e61]; exact h) hQ (lv_sub hl [0, 1, 2, 3, 4] rfl)
          · have h64 := ib_ne k56
            have kc65 : ¬ ((fStands (S 7) (S 8) (S 10) x3_4 a1 a2) = (0 : Int32)) := by have h0 := k56; rw [tt55] at h0; exact h0
            have b66 : Bd r54 (1) (1) := rf_nlo b54 (by decide : Bd 0 (0) (0)) h64
            refine lv_aload_n hx hb dX12_partyOf_32 rfl (lv_at hl 1 rfl) ?_
            refine xget E hQ 0 (by decide) c29 rfl 20 (by decide) q1488 rfl dX12_partyOf_33 ?_
            refine lv_iconst (v := 4) hx hb dX12_partyOf_36 (by decide) ?_
            refine lv_iload hx hb dX12_partyOf_37 (lv_at hl 0 rfl) ?_
            refine lv_imul hx hb dX12_partyOf_39 ?_
            refine lv_topi (fun z67 e68 => ?_)
            have t69 := ib_cmul (q := 4) e68 (by decide) (by decide) b42 (by decide) (by decide)
            have b70 : Bd z67 (0) (20) := ib_mulb t69 (by decide) b42
            have tt71 : z67 = ((4 : Int32) * x3_4) := by rw [e68]
            refine lv_iconst (v := 3) hx hb dX12_partyOf_40 (by decide) ?_
            refine lv_iadd hx hb dX12_partyOf_41 ?_
            refine lv_topi (fun z72 e73 => ?_)
            have t74 := ib_add e73 b70 (by decide : Bd 3 (3) (3)) (by decide) (by decide)
            have b75 : Bd z72 (3) (23) := ib_addb t74 b70 (by decide : Bd 3 (3) (3))
            have t74 : z72.toInt = z67.toInt + 3 := fold_add t74 rfl (by decide)
            have tt76 : z72 = (((4 : Int32) * x3_4) + (3 : Int32)) := by rw [e73, tt71]
            obtain ⟨f77, c78⟩ := invM_10 hI
            refine xiald E hQ 10 (by decide) c78 (ib_in b75 (by decide) (by decide)) dX12_partyOf_42 ?_
            refine lv_topi (fun z80 e81 => ?_)
            have tt82 : z80 = (arr (S 10) (((4 : Int32) * x3_4) + (3 : Int32)).toNatClampNeg) := by rw [e81, arr_of c78, tt76]
            exact xri E hr hlk hQ (⟨rfl, (by have h := hC3; rw [if_neg kc41, if_neg kc53, if_neg kc65] at h; rw [← h]; exact tt82)⟩) dX12_partyOf_43
  obtain ⟨n3, hn3⟩ := fu_n (6)
  exact loop3 n3 _ _ _ 0 (ib_wk (by decide : Bd 0 (0) (0)) (by decide) (by decide)) (by have : (0 : Int32).toInt = 0 := (by decide); omega) (by rw [show (7 - (0 : Int32).toInt).toNat = 7 from by decide]; rfl) hQ (lv_sub hl [0, 1, 2, 3, 4] rfl)
set_option maxHeartbeats 4000000 in
set_option maxRecDepth 100000 in
theorem gX12_goes_0 (l : Launch) (g : GG) (ad : Nat → Nat) (hD : Dj ad 20) (S : SS) (hI : InvM g ad S) (a1 : Int32) (a2 : Int32) (wa3 : Int64) (ba1 : Bd a1 (0) (7)) (ba2 : Bd a2 (0) (400)) (hq1 : 0 ≤ elm (S 7) 0 + (-1)) (hq2 : 0 ≤ elm (S 7) 1 + (-1)) : Met l yX12_goes (wG (.code yX12_goes cX12_goes 8 none)) (Rm 3) (XPre g ad 20 S [.ref (ad 0), .int a1, .int a2, .long wa3]) (va_Qv (fun S' => InvM g ad S' ∧ (∀ j, j ∉ ([0] : List Nat) → S' j = S j)) (QB g ad 20) (FA ad 20)) 0 0 (FA ad 20) := by
  refine xmet cX12_goes "EbbWreckModel" (by decide) rfl (Nat.le_of_ble_eq_true rfl) (fun p e s m below meth c E hr hlk hml hQ ls hl => ?_)
  have hx := E.1
  have hb := E.2.1
  have hs : Sp ad 20 (FA ad 20) := Sp.fa hD
  have hl : lv_has ls 8 [(0, .ref (ad 0)), (1, .int a1), (2, .int a2), (3, .long wa3)] := hl
  obtain ⟨f1, c2, b3⟩ := invM_7 hI
  obtain ⟨v4, ee5⟩ : ∃ z : Int32, f1 0 = z := ⟨_, rfl⟩
  have b6 : Bd v4 (0) (12) := (by rw [← ee5]; exact b3.1 0 (by decide))
  obtain ⟨v7, ee8⟩ : ∃ z : Int32, f1 1 = z := ⟨_, rfl⟩
  have b9 : Bd v7 (0) (12) := (by rw [← ee8]; exact b3.2.1 1 (by decide))
  have q10 : elm (S 7) 0 = v4.toInt := (elm_of c2 0).trans (congrArg Int32.toInt (ee5))
  have b11 : Bd v4 (1) (12) := ⟨by omega, (b6).2⟩
  have q12 : elm (S 7) 1 = v7.toInt := (elm_of c2 1).trans (congrArg Int32.toInt (ee8))
  have b13 : Bd v7 (1) (12) := ⟨by omega, (b9).2⟩
  refine lv_aload_n hx hb dX12_goes_0 rfl (lv_at hl 0 rfl) ?_
  refine lv_aload_n hx hb dX12_goes_1 rfl (lv_at hl 0 rfl) ?_
  obtain ⟨v14, v15, v17, v19, v21, v22, w23, v24, v26, v27, v28, v29, v31, v33, v35, v37, v39, v40, v41, c42, b16, b18, b20, b25, b30, b32, b34, b36, b38⟩ := invM_0 hI
  have c42 : S 0 = .inr (12, [.int v14, .ref (ad 1), .ref (ad 2), .ref (ad 3), .ref (ad 4), .ref (ad 5), .int v15, .int v17, .int v19, .int v21, .int v22, .long w23, .int v24, .int v26, .int v27, .int v28, .ref (ad 6), .ref (ad 7), .ref (ad 8), .ref (ad 9), .ref (ad 10), .ref (ad 11), .ref (ad 12), .ref (ad 13), .ref (ad 14), .ref (ad 15), .int v29, .int v31, .ref (ad 16), .int v33, .int v35, .int v37, .int v39, .int v40, .ref (ad 17), .ref (ad 18), .int v41, .ref (ad 19)]) := c42
  refine xget E hQ 0 (by decide) c42 rfl 19 (by decide) q1487 rfl dX12_goes_2 ?_
  refine lv_iconst (v := 3) hx hb dX12_goes_5 (by decide) ?_
  refine lv_iload_n hx hb dX12_goes_6 rfl (lv_at hl 1 rfl) ?_
  refine lv_imul hx hb dX12_goes_7 ?_
  refine lv_topi (fun z43 e44 => ?_)
  have t45 := ib_cmul (q := 3) e44 (by decide) (by decide) ba1 (by decide) (by decide)
  have b46 : Bd z43 (0) (21) := ib_mulb t45 (by decide) ba1
  refine lv_iconst (v := 1) hx hb dX12_goes_8 (by decide) ?_
  refine lv_iadd hx hb dX12_goes_9 ?_
  refine lv_topi (fun z47 e48 => ?_)
  have t49 := ib_add e48 b46 (by decide : Bd 1 (1) (1)) (by decide) (by decide)
  have b50 : Bd z47 (1) (22) := ib_addb t49 b46 (by decide : Bd 1 (1) (1))
  have t49 : z47.toInt = z43.toInt + 1 := fold_add t49 rfl (by decide)
  obtain ⟨f51, c52, b53⟩ := invM_9 hI
  refine xiald E hQ 9 (by decide) c52 (ib_in b50 (by decide) (by decide)) dX12_goes_10 ?_
  refine lv_topi (fun z54 e55 => ?_)
  have b56 : Bd z54 (0) (11) := (by rw [e55]; exact b53.1 _ (by rw [clampN b50]; omega))
  refine xputi E hs hQ 0 (by decide) c42 rfl 26 (by decide) q1494 rfl rfl (Nat.le_of_ble_eq_true rfl) dX12_goes_11 (fun H locs S57 eS57 hQ => ?_)
  have hI := invM_up_0 hI eS57 ⟨v14, v15, v17, v19, v21, v22, w23, v24, v26, v27, v28, z54, v31, v33, v35, v37, v39, v40, v41, rfl, b16, b18, b20, b25, b56, b32, b34, b36, b38⟩
  have c58 : S57 0 = .inr (12, [.int v14, .ref (ad 1), .ref (ad 2), .ref (ad 3), .ref (ad 4), .ref (ad 5), .int v15, .int v17, .int v19, .int v21, .int v22, .long w23, .int v24, .int v26, .int v27, .int v28, .ref (ad 6), .ref (ad 7), .ref (ad 8), .ref (ad 9), .ref (ad 10), .ref (ad 11), .ref (ad 12), .ref (ad 13), .ref (ad 14), .ref (ad 15), .int z54, .int v31, .ref (ad 16), .int v33, .int v35, .int v37, .int v39, .int v40, .ref (ad 17), .ref (ad 18), .int v41, .ref (ad 19)]) := up_at eS57 rfl
  refine lv_aload_n hx hb dX12_goes_14 rfl (lv_at hl 0 rfl) ?_
  refine lv_iconst (v := (-1)) hx hb dX12_goes_15 (by decide) ?_
  refine xputi E hs hQ 0 (by decide) c58 rfl 27 (by decide) q1495 rfl rfl (Nat.le_of_ble_eq_true rfl) dX12_goes_16 (fun H locs S59 eS59 hQ => ?_)
  have hI := invM_up_0 hI eS59 ⟨v14, v15, v17, v19, v21, v22, w23, v24, v26, v27, v28, z54, (-1), v33, v35, v37, v39, v40, v41, rfl, b16, b18, b20, b25, b56, (ib_wk (by decide : Bd (-1) (-1) (-1)) (by decide) (by decide)), b34, b36, b38⟩
  have c60 : S59 0 = .inr (12, [.int v14, .ref (ad 1), .ref (ad 2), .ref (ad 3), .ref (ad 4), .ref (ad 5), .int v15, .int v17, .int v19, .int v21, .int v22, .long w23, .int v24, .int v26, .int v27, .int v28, .ref (ad 6), .ref (ad 7), .ref (ad 8), .ref (ad 9), .ref (ad 10), .ref (ad 11), .ref (ad 12), .ref (ad 13), .ref (ad 14), .ref (ad 15), .int z54, .int (-1), .ref (ad 16), .int v33, .int v35, .int v37, .int v39, .int v40, .ref (ad 17), .ref (ad 18), .int v41, .ref (ad 19)]) := up_at eS59 rfl
  refine lv_lload_n hx hb dX12_goes_19 rfl (lv_at hl 3 rfl) ?_
  refine lv_lstore (lv' := [(5, .long wa3), (0, .ref (ad 0)), (1, .int a1), (2, .int a2), (3, .long wa3)]) hx hb dX12_goes_20 hl (by decide) rfl (fun ls hl => ?_)
  refine lv_aload_n hx hb dX12_goes_22 rfl (lv_at hl 1 rfl) ?_
  refine xget E hQ 0 (by decide) c60 rfl 19 (by decide) q1487 rfl dX12_goes_23 ?_
  refine lv_iconst (v := 3) hx hb dX12_goes_26 (by decide) ?_
  refine lv_iload_n hx hb dX12_goes_27 rfl (lv_at hl 2 rfl) ?_
  refine lv_imul hx hb dX12_goes_28 ?_
  refine lv_topi (fun z61 e62 => ?_)
  have t63 := ib_cmul (q := 3) e62 (by decide) (by decide) ba1 (by decide) (by decide)
  have b64 : Bd z61 (0) (21) := ib_mulb t63 (by decide) ba1
  refine lv_iconst (v := 2) hx hb dX12_goes_29 (by decide) ?_
  refine lv_iadd hx hb dX12_goes_30 ?_
  refine lv_topi (fun z65 e66 => ?_)
  have t67 := ib_add e66 b64 (by decide : Bd 2 (2) (2)) (by decide) (by decide)
  have b68 : Bd z65 (2) (23) := ib_addb t67 b64 (by decide : Bd 2 (2) (2))
  have t67 : z65.toInt = z61.toInt + 2 := fold_add t67 rfl (by decide)
  have c69 : S59 9 = .inl (g.2 0, 120, .inl f51) := (up_ne eS59 (by decide) (up_ne eS57 (by decide) c52))
  refine xiald E hQ 9 (by decide) c69 (ib_in b68 (by decide) (by decide)) dX12_goes_31 ?_
  refine lv_topi (fun z70 e71 => ?_)
  have b72 : Bd z70 (0) (99) := (by rw [e71]; exact b53.2 _ (by rw [clampN b68]; omega))
  refine lv_istore (lv' := [(7, .int z70), (5, .long wa3), (0, .ref (ad 0)), (1, .int a1), (2, .int a2), (3, .long wa3)]) hx hb dX12_goes_32 hl (by decide) rfl (fun ls hl => ?_)
  have loop34 : ∀ (n : Nat) (S_34 : SS) (H : Heap) (locs : List Loc) (ls : Array Slot) (wx34_5 : Int64) (x34_7 : Int32) (y34_0_0 : Int32) (y34_0_6 : Int32) (y34_0_7 : Int32) (y34_0_8 : Int32) (y34_0_9 : Int32) (y34_0_10 : Int32) (wy34_0_11 : Int64) (y34_0_12 : Int32) (y34_0_13 : Int32) (y34_0_14 : Int32) (y34_0_15 : Int32) (y34_0_26 : Int32) (y34_0_27 : Int32) (y34_0_29 : Int32) (y34_0_30 : Int32) (y34_0_31 : Int32) (y34_0_32 : Int32) (y34_0_33 : Int32) (y34_0_36 : Int32), Bd x34_7 (0) (400) → Bd y34_0_6 (0) (1200) → Bd y34_0_7 (0) (1200) → Bd y34_0_8 (0) (4) → Bd y34_0_12 (0) (3) → Bd y34_0_26 (0) (11) → Bd y34_0_27 (-1) (400) → Bd y34_0_29 (0) (2) → Bd y34_0_30 (0) (11) → Bd y34_0_31 (-1) (468) → (-1) * x34_7.toInt + 400 < ((n : Nat) : Int) → InvM g ad S_34 → (∀ j, j ∉ ([0] : List Nat) → S_34 j = S59 j) → S_34 0 = .inr (12, [.int y34_0_0, .ref (ad 1), .ref (ad 2), .ref (ad 3), .ref (ad 4), .ref (ad 5), .int y34_0_6, .int y34_0_7, .int y34_0_8, .int y34_0_9, .int y34_0_10, .long wy34_0_11, .int y34_0_12, .int y34_0_13, .int y34_0_14, .int y34_0_15, .ref (ad 6), .ref (ad 7), .ref (ad 8), .ref (ad 9), .ref (ad 10), .ref (ad 11), .ref (ad 12), .ref (ad 13), .ref (ad 14), .ref (ad 15), .int y34_0_26, .int y34_0_27, .ref (ad 16), .int y34_0_29, .int y34_0_30, .int y34_0_31, .int y34_0_32, .int y34_0_33, .ref (ad 17), .ref (ad 18), .int y34_0_36, .ref (ad 19)]) → Hp g ad 20 S_34 (FA ad 20) s.heap H locs → lv_has ls 8 [(7, .int x34_7), (5, .long wx34_5), (0, .ref (ad 0)), (1, .int a1), (2, .int a2), (3, .long wa3)] → W p l e (Rm 3) s m [.ref (ad 0), .int a1, .int a2, .long wa3].toArray below meth c H locs 0 0 (MQ below (va_Qv (fun S' => InvM g ad S' ∧ (∀ j, j ∉ ([0] : List Nat) → S' j = S j)) (QB g ad 20) (FA ad 20)) [.ref (ad 0), .int a1, .int a2, .long wa3].toArray s 0 0 (FA ad 20)) (F0 m 34 ls []) := by
    intro n
    induction n with
    | zero => intro S_34 H locs ls wx34_5 x34_7 y34_0_0 y34_0_6 y34_0_7 y34_0_8 y34_0_9 y34_0_10 wy34_0_11 y34_0_12 y34_0_13 y34_0_14 y34_0_15 y34_0_26 y34_0_27 y34_0_29 y34_0_30 y34_0_31 y34_0_32 y34_0_33 y34_0_36 Bx34_7 By34_0_6 By34_0_7 By34_0_8 By34_0_12 By34_0_26 By34_0_27 By34_0_29 By34_0_30 By34_0_31 hn34_ hI hf34 cl34_0 hQ hl; exfalso; have := (Bx34_7).2; omega
    | succ n34_ ih34 =>
      intro S_34 H locs ls wx34_5 x34_7 y34_0_0 y34_0_6 y34_0_7 y34_0_8 y34_0_9 y34_0_10 wy34_0_11 y34_0_12 y34_0_13 y34_0_14 y34_0_15 y34_0_26 y34_0_27 y34_0_29 y34_0_30 y34_0_31 y34_0_32 y34_0_33 y34_0_36 Bx34_7 By34_0_6 By34_0_7 By34_0_8 By34_0_12 By34_0_26 By34_0_27 By34_0_29 By34_0_30 By34_0_31 hn34_ hI hf34 cl34_0 hQ hl
      refine lv_iload hx hb dX12_goes_34 (lv_at hl 0 rfl) ?_
      refine lv_iload_n hx hb dX12_goes_36 rfl (lv_at hl 4 rfl) ?_
      refine lv_icmp_ge (tgt := 161) hx hb dX12_goes_37 (by decide) (fun k73 => ?_) (fun k73 => ?_)
      · have h74 := ib_le k73
        exact xrv E hr hlk hQ (⟨hI, (o_trans (up_o (up_o o_refl eS57 (by decide)) eS59 (by decide)) hf34 (by decide))⟩) dX12_goes_161
      · have h75 := ib_nle k73
        have b76 : Bd x34_7 (0) (399) := ⟨(Bx34_7).1, ((rf_lt Bx34_7 ba2 h75).1).2⟩
        have b77 : Bd a2 (1) (400) := ⟨((rf_lt Bx34_7 ba2 h75).2).1, (ba2).2⟩
        refine lv_aload_n hx hb dX12_goes_40 rfl (lv_at hl 2 rfl) ?_
        refine xget E hQ 0 (by decide) cl34_0 rfl 27 (by decide) q1495 rfl dX12_goes_41 ?_
        refine lv_iconst (v := (-1)) hx hb dX12_goes_44 (by decide) ?_
        refine lv_icmp_ne (tgt := 161) hx hb dX12_goes_45 (by decide) (fun k78 => ?_) (fun k78 => ?_)
        · have h79 := ib_ne k78
          have b80 : Bd y34_0_27 (0) (400) := rf_nlo By34_0_27 (by decide : Bd (-1) (-1) (-1)) h79
          exact xrv E hr hlk hQ (⟨hI, (o_trans (up_o (up_o o_refl eS57 (by decide)) eS59 (by decide)) hf34 (by decide))⟩) dX12_goes_161
        · have h81 := ib_eq k78
          have b82 : Bd y34_0_27 (-1) (-1) := ⟨(By34_0_27).1, ((rf_eq By34_0_27 (by decide : Bd (-1) (-1) (-1)) h81).1).2⟩
          refine lv_lload_n hx hb dX12_goes_48 rfl (lv_at hl 5 rfl) ?_
          refine lv_lconst (v := 0) hx hb dX12_goes_49 (by decide) ?_
          refine W.lcmp hx hb dX12_goes_50 ?_
          refine lv_if_lt (tgt := 105) hx hb dX12_goes_51 (by decide) (fun k83 => ?_) (fun k83 => ?_)
          · have h84 := lc_lt k83
            have b85 : BdL wa3 (-9223372036854775808) (-1) := ⟨((ib_fullL wa3)).1, ((rf_ltL (ib_fullL wa3) (by decide : BdL 0 (0) (0)) h84).1).2⟩
            refine lv_aload_n hx hb dX12_goes_105 rfl (lv_at hl 2 rfl) ?_
            refine lv_aload_n hx hb dX12_goes_106 rfl (lv_at hl 2 rfl) ?_
            refine lv_aload_n hx hb dX12_goes_107 rfl (lv_at hl 2 rfl) ?_
            refine lv_aload_n hx hb dX12_goes_108 rfl (lv_at hl 2 rfl) ?_
            refine xget E hQ 0 (by decide) cl34_0 rfl 26 (by decide) q1494 rfl dX12_goes_109 ?_
            refine lv_aload_n hx hb dX12_goes_112 rfl (lv_at hl 2 rfl) ?_
            refine xget E hQ 0 (by decide) cl34_0 rfl 25 (by decide) q1493 rfl dX12_goes_113 ?_
            refine lv_sipush (v := 401) hx hb dX12_goes_116 (by decide) ?_
            refine lv_iload_n hx hb dX12_goes_119 rfl (lv_at hl 3 rfl) ?_
            refine lv_imul hx hb dX12_goes_120 ?_
            refine lv_topi (fun z86 e87 => ?_)
            have t88 := ib_cmul (q := 401) e87 (by decide) (by decide) ba1 (by decide) (by decide)
            have b89 : Bd z86 (0) (2807) := ib_mulb t88 (by decide) ba1
            refine lv_iload hx hb dX12_goes_121 (lv_at hl 0 rfl) ?_
            refine lv_iadd hx hb dX12_goes_123 ?_
            refine lv_topi (fun z90 e91 => ?_)
            have t92 := ib_add e91 b89 b76 (by decide) (by decide)
            have b93 : Bd z90 (0) (3206) := ib_addb t92 b89 b76
            obtain ⟨f94, c95⟩ := invM_15 hI
            refine xiald E hQ 15 (by decide) c95 (ib_in b93 (by decide) (by decide)) dX12_goes_124 ?_
            refine lv_topi (fun z97 e98 => ?_)
            have c99 : S_34 7 = .inl (g.2 0, 50, .inl f1) := ((hf34 7 (by decide)).trans (up_ne eS59 (by decide) (up_ne eS57 (by decide) c2)))
            have q100 : elm (S_34 7) 0 = v4.toInt := (elm_of c99 0).trans (congrArg Int32.toInt (ee5))
            refine xcVi E hs hQ hml hl.1 0 (gX12_shoved_0 l g ad hD S_34 hI y34_0_26 z97 By34_0_26 (by omega)) mX12_shoved q1838 (by decide) cl34_0 rfl rfl ⟨(Nat.le_of_ble_eq_true rfl), (Nat.le_of_ble_eq_true rfl)⟩ ⟨(Nat.le_of_ble_eq_true rfl), (Nat.le_of_ble_eq_true rfl)⟩ (Nat.le_of_ble_eq_true rfl) rfl dX12_goes_125 (fun r101 S101 H locs hp101 hQ _ => ?_)
            obtain ⟨rfl, b101, fg101⟩ := hp101
            refine lv_iload hx hb dX12_goes_128 (lv_at hl 0 rfl) ?_
            have q102 : elm (S_34 7) 1 = v7.toInt := (elm_of c99 1).trans (congrArg Int32.toInt (ee8))
            refine xcVi E hs hQ hml hl.1 0 (gX12_on_0 l g ad hD S_34 hI r101 x34_7 b101 (by omega) (by omega)) mX12_on q1804 (by decide) cl34_0 rfl rfl ⟨(Nat.le_of_ble_eq_true rfl), (Nat.le_of_ble_eq_true rfl)⟩ ⟨(Nat.le_of_ble_eq_true rfl), (Nat.le_of_ble_eq_true rfl)⟩ (Nat.le_of_ble_eq_true rfl) rfl dX12_goes_130 (fun r103 S103 H locs hp103 hQ _ => ?_)
            obtain ⟨rfl, b103, g103_0, fg103⟩ := hp103
            refine xputi E hs hQ 0 (by decide) cl34_0 rfl 26 (by decide) q1494 rfl rfl (Nat.le_of_ble_eq_true rfl) dX12_goes_133 (fun H locs S104 eS104 hQ => ?_)
            have hI := invM_up_0 hI eS104 ⟨y34_0_0, y34_0_6, y34_0_7, y34_0_8, y34_0_9, y34_0_10, wy34_0_11, y34_0_12, y34_0_13, y34_0_14, y34_0_15, r103, y34_0_27, y34_0_29, y34_0_30, y34_0_31, y34_0_32, y34_0_33, y34_0_36, rfl, By34_0_6, By34_0_7, By34_0_8, By34_0_12, b103, (ib_wk b82 (by decide) (by decide)), By34_0_29, By34_0_30, By34_0_31⟩
            have c105 : S104 0 = .inr (12, [.int y34_0_0, .ref (ad 1), .ref (ad 2), .ref (ad 3), .ref (ad 4), .ref (ad 5), .int y34_0_6, .int y34_0_7, .int y34_0_8, .int y34_0_9, .int y34_0_10, .long wy34_0_11, .int y34_0_12, .int y34_0_13, .int y34_0_14, .int y34_0_15, .ref (ad 6), .ref (ad 7), .ref (ad 8), .ref (ad 9), .ref (ad 10), .ref (ad 11), .ref (ad 12), .ref (ad 13), .ref (ad 14), .ref (ad 15), .int r103, .int y34_0_27, .ref (ad 16), .int y34_0_29, .int y34_0_30, .int y34_0_31, .int y34_0_32, .int y34_0_33, .ref (ad 17), .ref (ad 18), .int y34_0_36, .ref (ad 19)]) := up_at eS104 rfl
            refine lv_aload_n hx hb dX12_goes_136 rfl (lv_at hl 2 rfl) ?_
            refine lv_aload_n hx hb dX12_goes_137 rfl (lv_at hl 2 rfl) ?_
            refine xget E hQ 0 (by decide) c105 rfl 26 (by decide) q1494 rfl dX12_goes_138 ?_
            refine xcVi E hs hQ hml hl.1 0 (gX12_isBeach_0 l g ad hD S104 hI r103) mX12_isBeach q1755 (by decide) c105 rfl rfl ⟨(Nat.le_of_ble_eq_true rfl), (Nat.le_of_ble_eq_true rfl)⟩ ⟨(Nat.le_of_ble_eq_true rfl), (Nat.le_of_ble_eq_true rfl)⟩ (Nat.le_of_ble_eq_true rfl) rfl dX12_goes_141 (fun r106 S106 H locs hp106 hQ _ => ?_)
            obtain ⟨rfl, b106, fg106⟩ := hp106
            refine lv_if_eq (tgt := 155) hx hb dX12_goes_144 (by decide) (fun k107 => ?_) (fun k107 => ?_)
            · have h108 := ib_eq k107
              have b109 : Bd r106 (0) (0) := ⟨(b106).1, ((rf_eq b106 (by decide : Bd 0 (0) (0)) h108).1).2⟩
              obtain ⟨z110, e111⟩ : ∃ z : Int32, z = x34_7 + 1 := ⟨_, rfl⟩
              have t112 := ib_add e111 b76 (by decide : Bd 1 (1) (1)) (by decide) (by decide)
              have b113 : Bd z110 (1) (400) := ib_addb t112 b76 (by decide : Bd 1 (1) (1))
              have t112 : z110.toInt = x34_7.toInt + 1 := fold_add t112 rfl (by decide)
              refine lv_iinc (v := z110) (lv' := [(7, .int z110), (5, .long wx34_5), (0, .ref (ad 0)), (1, .int a1), (2, .int a2), (3, .long wa3)]) hx hb dX12_goes_155 hl (k := 0) rfl (by rw [e111]; rfl) (by decide) rfl (fun ls hl => ?_)
              refine lv_goto (tgt := 34) hx hb dX12_goes_158 (by decide) ?_
              exact ih34 _ _ _ _ wx34_5 z110 y34_0_0 y34_0_6 y34_0_7 y34_0_8 y34_0_9 y34_0_10 wy34_0_11 y34_0_12 y34_0_13 y34_0_14 y34_0_15 r103 y34_0_27 y34_0_29 y34_0_30 y34_0_31 y34_0_32 y34_0_33 y34_0_36 (ib_wk b113 (by decide) (by decide)) By34_0_6 By34_0_7 By34_0_8 By34_0_12 b103 (ib_wk b82 (by decide) (by decide)) By34_0_29 By34_0_30 By34_0_31 (by omega) hI (up_o hf34 eS104 (by decide)) c105 hQ (lv_sub hl [0, 1, 2, 3, 4, 5] rfl)
            · have h114 := ib_ne k107
              have b115 : Bd r106 (1) (1) := rf_nlo b106 (by decide : Bd 0 (0) (0)) h114
              refine lv_aload_n hx hb dX12_goes_147 rfl (lv_at hl 2 rfl) ?_
              refine lv_iload hx hb dX12_goes_148 (lv_at hl 0 rfl) ?_
              refine lv_iconst (v := 1) hx hb dX12_goes_150 (by decide) ?_
              refine lv_iadd hx hb dX12_goes_151 ?_
              refine lv_topi (fun z116 e117 => ?_)
              have t118 := ib_add e117 b76 (by decide : Bd 1 (1) (1)) (by decide) (by decide)
              have b119 : Bd z116 (1) (400) := ib_addb t118 b76 (by decide : Bd 1 (1) (1))
              have t118 : z116.toInt = x34_7.toInt + 1 := fold_add t118 rfl (by decide)
              refine xputi E hs hQ 0 (by decide) c105 rfl 27 (by decide) q1495 rfl rfl (Nat.le_of_ble_eq_true rfl) dX12_goes_152 (fun H locs S120 eS120 hQ => ?_)
              have hI := invM_up_0 hI eS120 ⟨y34_0_0, y34_0_6, y34_0_7, y34_0_8, y34_0_9, y34_0_10, wy34_0_11, y34_0_12, y34_0_13, y34_0_14, y34_0_15, r103, z116, y34_0_29, y34_0_30, y34_0_31, y34_0_32, y34_0_33, y34_0_36, rfl, By34_0_6, By34_0_7, By34_0_8, By34_0_12, b103, (ib_wk b119 (by decide) (by decide)), By34_0_29, By34_0_30, By34_0_31⟩
              have c121 : S120 0 = .inr (12, [.int y34_0_0, .ref (ad 1), .ref (ad 2), .ref (ad 3), .ref (ad 4), .ref (ad 5), .int y34_0_6, .int y34_0_7, .int y34_0_8, .int y34_0_9, .int y34_0_10, .long wy34_0_11, .int y34_0_12, .int y34_0_13, .int y34_0_14, .int y34_0_15, .ref (ad 6), .ref (ad 7), .ref (ad 8), .ref (ad 9), .ref (ad 10), .ref (ad 11), .ref (ad 12), .ref (ad 13), .ref (ad 14), .ref (ad 15), .int r103, .int z116, .ref (ad 16), .int y34_0_29, .int y34_0_30, .int y34_0_31, .int y34_0_32, .int y34_0_33, .ref (ad 17), .ref (ad 18), .int y34_0_36, .ref (ad 19)]) := up_at eS120 rfl
              obtain ⟨z122, e123⟩ : ∃ z : Int32, z = x34_7 + 1 := ⟨_, rfl⟩
              have t124 := ib_add e123 b76 (by decide : Bd 1 (1) (1)) (by decide) (by decide)
              have b125 : Bd z122 (1) (400) := ib_addb t124 b76 (by decide : Bd 1 (1) (1))
              have t124 : z122.toInt = x34_7.toInt + 1 := fold_add t124 rfl (by decide)
              refine lv_iinc (v := z122) (lv' := [(7, .int z122), (5, .long wx34_5), (0, .ref (ad 0)), (1, .int a1), (2, .int a2), (3, .long wa3)]) hx hb dX12_goes_155 hl (k := 0) rfl (by rw [e123]; rfl) (by decide) rfl (fun ls hl => ?_)
              refine lv_goto (tgt := 34) hx hb dX12_goes_158 (by decide) ?_
              exact ih34 _ _ _ _ wx34_5 z122 y34_0_0 y34_0_6 y34_0_7 y34_0_8 y34_0_9 y34_0_10 wy34_0_11 y34_0_12 y34_0_13 y34_0_14 y34_0_15 r103 z116 y34_0_29 y34_0_30 y34_0_31 y34_0_32 y34_0_33 y34_0_36 (ib_wk b125 (by decide) (by decide)) By34_0_6 By34_0_7 By34_0_8 By34_0_12 b103 (ib_wk b119 (by decide) (by decide)) By34_0_29 By34_0_30 By34_0_31 (by omega) hI (up_o (up_o hf34 eS104 (by decide)) eS120 (by decide)) c121 hQ (lv_sub hl [0, 1, 2, 3, 4, 5] rfl)
          · have h126 := lc_nlt k83
            have b127 : BdL wa3 (0) (9223372036854775807) := ⟨((rf_leL (by decide : BdL 0 (0) (0)) (ib_fullL wa3) h126).2).1, ((ib_fullL wa3)).2⟩
            refine lv_ldc2 (v := 1103515245) hx hb E.2.2.1 (E.2.2.2.1 _ q1833) dX12_goes_54 ?_
            refine lv_lload hx hb dX12_goes_57 (lv_at hl 1 rfl) ?_
            refine lv_lmul hx hb dX12_goes_59 ?_
            refine lv_topl (fun w128 e129 => ?_)
            refine lv_ldc2 (v := 12345) hx hb E.2.2.1 (E.2.2.2.1 _ q1834) dX12_goes_60 ?_
            refine lv_ladd hx hb dX12_goes_63 ?_
            refine lv_topl (fun w130 e131 => ?_)
            refine lv_ldc2 (v := 2147483648) hx hb E.2.2.1 (E.2.2.2.1 _ q1835) dX12_goes_64 ?_
            refine lv_lrem hx hb dX12_goes_67 (by decide) ?_
            refine lv_topl (fun w132 e133 => ?_)
            refine lv_lstore (lv' := [(5, .long w132), (7, .int x34_7), (0, .ref (ad 0)), (1, .int a1), (2, .int a2), (3, .long wa3)]) hx hb dX12_goes_68 hl (by decide) rfl (fun ls hl => ?_)
            refine lv_lload hx hb dX12_goes_70 (lv_at hl 0 rfl) ?_
            refine lv_ldc2 (v := 65536) hx hb E.2.2.1 (E.2.2.2.1 _ q1836) dX12_goes_72 ?_
            refine lv_ldiv hx hb dX12_goes_75 (by decide) ?_
            refine lv_topl (fun w134 e135 => ?_)
            refine lv_ldc2 (v := 100) hx hb E.2.2.1 (E.2.2.2.1 _ q1837) dX12_goes_76 ?_
            refine lv_lrem hx hb dX12_goes_79 (by decide) ?_
            refine lv_topl (fun w136 e137 => ?_)
            refine lv_aload_n hx hb dX12_goes_80 rfl (lv_at hl 2 rfl) ?_
            refine xget E hQ 0 (by decide) cl34_0 rfl 17 (by decide) q1485 rfl dX12_goes_81 ?_
            refine lv_iconst (v := 4) hx hb dX12_goes_84 (by decide) ?_
            have c138 : S_34 7 = .inl (g.2 0, 50, .inl f1) := ((hf34 7 (by decide)).trans (up_ne eS59 (by decide) (up_ne eS57 (by decide) c2)))
            refine xiald E hQ 7 (by decide) c138 (vp_in_lit 4 50 (by decide)) dX12_goes_85 ?_
            obtain ⟨v139, ee140⟩ : ∃ z : Int32, f1 4 = z := ⟨_, rfl⟩
            refine sb_at (P := fun z => W _ _ _ _ _ _ _ _ _ _ _ _ _ _ _ (F0 _ _ _ (.int z :: _))) (show f1 (4 : Int32).toNatClampNeg = v139 from ee140) ?_
            refine lv_i2l hx hb dX12_goes_86 rfl ?_
            refine lv_topl (fun w141 e142 => ?_)
            have t143 : w141.toInt = v139.toInt := by rw [e142]; exact i2l_i _
            have b144 : BdL w141 (-2147483648) (2147483647) := (by have h1 := ((ib_full v139)).1; have h2 := ((ib_full v139)).2; exact ⟨by omega, by omega⟩)
            refine W.lcmp hx hb dX12_goes_87 ?_
            refine lv_if_ge (tgt := 105) hx hb dX12_goes_88 (by decide) (fun k145 => ?_) (fun k145 => ?_)
            · have h146 := lc_ge k145
              have b147 : BdL w136 (-2147483648) (9223372036854775807) := ⟨((rf_leL b144 (ib_fullL w136) h146).2).1, ((ib_fullL w136)).2⟩
              refine lv_aload_n hx hb dX12_goes_105 rfl (lv_at hl 2 rfl) ?_
              refine lv_aload_n hx hb dX12_goes_106 rfl (lv_at hl 2 rfl) ?_
              refine lv_aload_n hx hb dX12_goes_107 rfl (lv_at hl 2 rfl) ?_
              refine lv_aload_n hx hb dX12_goes_108 rfl (lv_at hl 2 rfl) ?_
              refine xget E hQ 0 (by decide) cl34_0 rfl 26 (by decide) q1494 rfl dX12_goes_109 ?_
              refine lv_aload_n hx hb dX12_goes_112 rfl (lv_at hl 2 rfl) ?_
              refine xget E hQ 0 (by decide) cl34_0 rfl 25 (by decide) q1493 rfl dX12_goes_113 ?_
              refine lv_sipush (v := 401) hx hb dX12_goes_116 (by decide) ?_
              refine lv_iload_n hx hb dX12_goes_119 rfl (lv_at hl 3 rfl) ?_
              refine lv_imul hx hb dX12_goes_120 ?_
              refine lv_topi (fun z148 e149 => ?_)
              have t150 := ib_cmul (q := 401) e149 (by decide) (by decide) ba1 (by decide) (by decide)
              have b151 : Bd z148 (0) (2807) := ib_mulb t150 (by decide) ba1
              refine lv_iload hx hb dX12_goes_121 (lv_at hl 1 rfl) ?_
              refine lv_iadd hx hb dX12_goes_123 ?_
              refine lv_topi (fun z152 e153 => ?_)
              have t154 := ib_add e153 b151 b76 (by decide) (by decide)
              have b155 : Bd z152 (0) (3206) := ib_addb t154 b151 b76
              obtain ⟨f156, c157⟩ := invM_15 hI
              refine xiald E hQ 15 (by decide) c157 (ib_in b155 (by decide) (by decide)) dX12_goes_124 ?_
              refine lv_topi (fun z159 e160 => ?_)
              have q161 : elm (S_34 7) 0 = v4.toInt := (elm_of c138 0).trans (congrArg Int32.toInt (ee5))
              refine xcVi E hs hQ hml hl.1 0 (gX12_shoved_0 l g ad hD S_34 hI y34_0_26 z159 By34_0_26 (by omega)) mX12_shoved q1838 (by decide) cl34_0 rfl rfl ⟨(Nat.le_of_ble_eq_true rfl), (Nat.le_of_ble_eq_true rfl)⟩ ⟨(Nat.le_of_ble_eq_true rfl), (Nat.le_of_ble_eq_true rfl)⟩ (Nat.le_of_ble_eq_true rfl) rfl dX12_goes_125 (fun r162 S162 H locs hp162 hQ _ => ?_)
              obtain ⟨rfl, b162, fg162⟩ := hp162
              refine lv_iload hx hb dX12_goes_128 (lv_at hl 1 rfl) ?_
              have q163 : elm (S_34 7) 1 = v7.toInt := (elm_of c138 1).trans (congrArg Int32.toInt (ee8))
              refine xcVi E hs hQ hml hl.1 0 (gX12_on_0 l g ad hD S_34 hI r162 x34_7 b162 (by omega) (by omega)) mX12_on q1804 (by decide) cl34_0 rfl rfl ⟨(Nat.le_of_ble_eq_true rfl), (Nat.le_of_ble_eq_true rfl)⟩ ⟨(Nat.le_of_ble_eq_true rfl), (Nat.le_of_ble_eq_true rfl)⟩ (Nat.le_of_ble_eq_true rfl) rfl dX12_goes_130 (fun r164 S164 H locs hp164 hQ _ => ?_)
              obtain ⟨rfl, b164, g164_0, fg164⟩ := hp164
              refine xputi E hs hQ 0 (by decide) cl34_0 rfl 26 (by decide) q1494 rfl rfl (Nat.le_of_ble_eq_true rfl) dX12_goes_133 (fun H locs S165 eS165 hQ => ?_)
              have hI := invM_up_0 hI eS165 ⟨y34_0_0, y34_0_6, y34_0_7, y34_0_8, y34_0_9, y34_0_10, wy34_0_11, y34_0_12, y34_0_13, y34_0_14, y34_0_15, r164, y34_0_27, y34_0_29, y34_0_30, y34_0_31, y34_0_32, y34_0_33, y34_0_36, rfl, By34_0_6, By34_0_7, By34_0_8, By34_0_12, b164, (ib_wk b82 (by decide) (by decide)), By34_0_29, By34_0_30, By34_0_31⟩
              have c166 : S165 0 = .inr (12, [.int y34_0_0, .ref (ad 1), .ref (ad 2), .ref (ad 3), .ref (ad 4), .ref (ad 5), .int y34_0_6, .int y34_0_7, .int y34_0_8, .int y34_0_9, .int y34_0_10, .long wy34_0_11, .int y34_0_12, .int y34_0_13, .int y34_0_14, .int y34_0_15, .ref (ad 6), .ref (ad 7), .ref (ad 8), .ref (ad 9), .ref (ad 10), .ref (ad 11), .ref (ad 12), .ref (ad 13), .ref (ad 14), .ref (ad 15), .int r164, .int y34_0_27, .ref (ad 16), .int y34_0_29, .int y34_0_30, .int y34_0_31, .int y34_0_32, .int y34_0_33, .ref (ad 17), .ref (ad 18), .int y34_0_36, .ref (ad 19)]) := up_at eS165 rfl
              refine lv_aload_n hx hb dX12_goes_136 rfl (lv_at hl 2 rfl) ?_
              refine lv_aload_n hx hb dX12_goes_137 rfl (lv_at hl 2 rfl) ?_
              refine xget E hQ 0 (by decide) c166 rfl 26 (by decide) q1494 rfl dX12_goes_138 ?_
              refine xcVi E hs hQ hml hl.1 0 (gX12_isBeach_0 l g ad hD S165 hI r164) mX12_isBeach q1755 (by decide) c166 rfl rfl ⟨(Nat.le_of_ble_eq_true rfl), (Nat.le_of_ble_eq_true rfl)⟩ ⟨(Nat.le_of_ble_eq_true rfl), (Nat.le_of_ble_eq_true rfl)⟩ (Nat.le_of_ble_eq_true rfl) rfl dX12_goes_141 (fun r167 S167 H locs hp167 hQ _ => ?_)
              obtain ⟨rfl, b167, fg167⟩ := hp167
              refine lv_if_eq (tgt := 155) hx hb dX12_goes_144 (by decide) (fun k168 => ?_) (fun k168 => ?_)
              · have h169 := ib_eq k168
                have b170 : Bd r167 (0) (0) := ⟨(b167).1, ((rf_eq b167 (by decide : Bd 0 (0) (0)) h169).1).2⟩
                obtain ⟨z171, e172⟩ : ∃ z : Int32, z = x34_7 + 1 := ⟨_, rfl⟩
                have t173 := ib_add e172 b76 (by decide : Bd 1 (1) (1)) (by decide) (by decide)
                have b174 : Bd z171 (1) (400) := ib_addb t173 b76 (by decide : Bd 1 (1) (1))
                have t173 : z171.toInt = x34_7.toInt + 1 := fold_add t173 rfl (by decide)
                refine lv_iinc (v := z171) (lv' := [(7, .int z171), (5, .long w132), (0, .ref (ad 0)), (1, .int a1), (2, .int a2), (3, .long wa3)]) hx hb dX12_goes_155 hl (k := 1) rfl (by rw [e172]; rfl) (by decide) rfl (fun ls hl => ?_)
                refine lv_goto (tgt := 34) hx hb dX12_goes_158 (by decide) ?_
                exact ih34 _ _ _ _ w132 z171 y34_0_0 y34_0_6 y34_0_7 y34_0_8 y34_0_9 y34_0_10 wy34_0_11 y34_0_12 y34_0_13 y34_0_14 y34_0_15 r164 y34_0_27 y34_0_29 y34_0_30 y34_0_31 y34_0_32 y34_0_33 y34_0_36 (ib_wk b174 (by decide) (by decide)) By34_0_6 By34_0_7 By34_0_8 By34_0_12 b164 (ib_wk b82 (by decide) (by decide)) By34_0_29 By34_0_30 By34_0_31 (by omega) hI (up_o hf34 eS165 (by decide)) c166 hQ (lv_sub hl [0, 1, 2, 3, 4, 5] rfl)
              · have h175 := ib_ne k168
                have b176 : Bd r167 (1) (1) := rf_nlo b167 (by decide : Bd 0 (0) (0)) h175
                refine lv_aload_n hx hb dX12_goes_147 rfl (lv_at hl 2 rfl) ?_
                refine lv_iload hx hb dX12_goes_148 (lv_at hl 1 rfl) ?_
                refine lv_iconst (v := 1) hx hb dX12_goes_150 (by decide) ?_
                refine lv_iadd hx hb dX12_goes_151 ?_
                refine lv_topi (fun z177 e178 => ?_)
                have t179 := ib_add e178 b76 (by decide : Bd 1 (1) (1)) (by decide) (by decide)
                have b180 : Bd z177 (1) (400) := ib_addb t179 b76 (by decide : Bd 1 (1) (1))
                have t179 : z177.toInt = x34_7.toInt + 1 := fold_add t179 rfl (by decide)
                refine xputi E hs hQ 0 (by decide) c166 rfl 27 (by decide) q1495 rfl rfl (Nat.le_of_ble_eq_true rfl) dX12_goes_152 (fun H locs S181 eS181 hQ => ?_)
                have hI := invM_up_0 hI eS181 ⟨y34_0_0, y34_0_6, y34_0_7, y34_0_8, y34_0_9, y34_0_10, wy34_0_11, y34_0_12, y34_0_13, y34_0_14, y34_0_15, r164, z177, y34_0_29, y34_0_30, y34_0_31, y34_0_32, y34_0_33, y34_0_36, rfl, By34_0_6, By34_0_7, By34_0_8, By34_0_12, b164, (ib_wk b180 (by decide) (by decide)), By34_0_29, By34_0_30, By34_0_31⟩
                have c182 : S181 0 = .inr (12, [.int y34_0_0, .ref (ad 1), .ref (ad 2), .ref (ad 3), .ref (ad 4), .ref (ad 5), .int y34_0_6, .int y34_0_7, .int y34_0_8, .int y34_0_9, .int y34_0_10, .long wy34_0_11, .int y34_0_12, .int y34_0_13, .int y34_0_14, .int y34_0_15, .ref (ad 6), .ref (ad 7), .ref (ad 8), .ref (ad 9), .ref (ad 10), .ref (ad 11), .ref (ad 12), .ref (ad 13), .ref (ad 14), .ref (ad 15), .int r164, .int z177, .ref (ad 16), .int y34_0_29, .int y34_0_30, .int y34_0_31, .int y34_0_32, .int y34_0_33, .ref (ad 17), .ref (ad 18), .int y34_0_36, .ref (ad 19)]) := up_at eS181 rfl
                obtain ⟨z183, e184⟩ : ∃ z : Int32, z = x34_7 + 1 := ⟨_, rfl⟩
                have t185 := ib_add e184 b76 (by decide : Bd 1 (1) (1)) (by decide) (by decide)
                have b186 : Bd z183 (1) (400) := ib_addb t185 b76 (by decide : Bd 1 (1) (1))
                have t185 : z183.toInt = x34_7.toInt + 1 := fold_add t185 rfl (by decide)
                refine lv_iinc (v := z183) (lv' := [(7, .int z183), (5, .long w132), (0, .ref (ad 0)), (1, .int a1), (2, .int a2), (3, .long wa3)]) hx hb dX12_goes_155 hl (k := 1) rfl (by rw [e184]; rfl) (by decide) rfl (fun ls hl => ?_)
                refine lv_goto (tgt := 34) hx hb dX12_goes_158 (by decide) ?_
                exact ih34 _ _ _ _ w132 z183 y34_0_0 y34_0_6 y34_0_7 y34_0_8 y34_0_9 y34_0_10 wy34_0_11 y34_0_12 y34_0_13 y34_0_14 y34_0_15 r164 z177 y34_0_29 y34_0_30 y34_0_31 y34_0_32 y34_0_33 y34_0_36 (ib_wk b186 (by decide) (by decide)) By34_0_6 By34_0_7 By34_0_8 By34_0_12 b164 (ib_wk b180 (by decide) (by decide)) By34_0_29 By34_0_30 By34_0_31 (by omega) hI (up_o (up_o hf34 eS165 (by decide)) eS181 (by decide)) c182 hQ (lv_sub hl [0, 1, 2, 3, 4, 5] rfl)
            · have h187 := lc_nge k145
              have b188 : BdL w136 (-9223372036854775808) (2147483646) := ⟨((ib_fullL w136)).1, ((rf_ltL (ib_fullL w136) b144 h187).1).2⟩
              refine lv_aload_n hx hb dX12_goes_91 rfl (lv_at hl 2 rfl) ?_
              refine lv_aload_n hx hb dX12_goes_92 rfl (lv_at hl 2 rfl) ?_
              refine lv_aload_n hx hb dX12_goes_93 rfl (lv_at hl 2 rfl) ?_
              refine xget E hQ 0 (by decide) cl34_0 rfl 26 (by decide) q1494 rfl dX12_goes_94 ?_
              refine lv_iconst (v := 1) hx hb dX12_goes_97 (by decide) ?_
              refine lv_iadd hx hb dX12_goes_98 ?_
              refine lv_topi (fun z189 e190 => ?_)
              have t191 := ib_add e190 By34_0_26 (by decide : Bd 1 (1) (1)) (by decide) (by decide)
              have b192 : Bd z189 (1) (12) := ib_addb t191 By34_0_26 (by decide : Bd 1 (1) (1))
              have t191 : z189.toInt = y34_0_26.toInt + 1 := fold_add t191 rfl (by decide)
              have q193 : elm (S_34 7) 0 = v4.toInt := (elm_of c138 0).trans (congrArg Int32.toInt (ee5))
              refine xcVi E hs hQ hml hl.1 0 (gX12_held_0 l g ad hD S_34 hI z189 (by omega)) mX12_held q1808 (by decide) cl34_0 rfl rfl ⟨(Nat.le_of_ble_eq_true rfl), (Nat.le_of_ble_eq_true rfl)⟩ ⟨(Nat.le_of_ble_eq_true rfl), (Nat.le_of_ble_eq_true rfl)⟩ (Nat.le_of_ble_eq_true rfl) rfl dX12_goes_99 (fun r194 S194 H locs hp194 hQ _ => ?_)
              obtain ⟨rfl, b194, g194_0, fg194⟩ := hp194
              refine xputi E hs hQ 0 (by decide) cl34_0 rfl 26 (by decide) q1494 rfl rfl (Nat.le_of_ble_eq_true rfl) dX12_goes_102 (fun H locs S195 eS195 hQ => ?_)
              have hI := invM_up_0 hI eS195 ⟨y34_0_0, y34_0_6, y34_0_7, y34_0_8, y34_0_9, y34_0_10, wy34_0_11, y34_0_12, y34_0_13, y34_0_14, y34_0_15, r194, y34_0_27, y34_0_29, y34_0_30, y34_0_31, y34_0_32, y34_0_33, y34_0_36, rfl, By34_0_6, By34_0_7, By34_0_8, By34_0_12, b194, (ib_wk b82 (by decide) (by decide)), By34_0_29, By34_0_30, By34_0_31⟩
              have c196 : S195 0 = .inr (12, [.int y34_0_0, .ref (ad 1), .ref (ad 2), .ref (ad 3), .ref (ad 4), .ref (ad 5), .int y34_0_6, .int y34_0_7, .int y34_0_8, .int y34_0_9, .int y34_0_10, .long wy34_0_11, .int y34_0_12, .int y34_0_13, .int y34_0_14, .int y34_0_15, .ref (ad 6), .ref (ad 7), .ref (ad 8), .ref (ad 9), .ref (ad 10), .ref (ad 11), .ref (ad 12), .ref (ad 13), .ref (ad 14), .ref (ad 15), .int r194, .int y34_0_27, .ref (ad 16), .int y34_0_29, .int y34_0_30, .int y34_0_31, .int y34_0_32, .int y34_0_33, .ref (ad 17), .ref (ad 18), .int y34_0_36, .ref (ad 19)]) := up_at eS195 rfl
              refine lv_aload_n hx hb dX12_goes_105 rfl (lv_at hl 2 rfl) ?_
              refine lv_aload_n hx hb dX12_goes_106 rfl (lv_at hl 2 rfl) ?_
              refine lv_aload_n hx hb dX12_goes_107 rfl (lv_at hl 2 rfl) ?_
              refine lv_aload_n hx hb dX12_goes_108 rfl (lv_at hl 2 rfl) ?_
              refine xget E hQ 0 (by decide) c196 rfl 26 (by decide) q1494 rfl dX12_goes_109 ?_
              refine lv_aload_n hx hb dX12_goes_112 rfl (lv_at hl 2 rfl) ?_
              refine xget E hQ 0 (by decide) c196 rfl 25 (by decide) q1493 rfl dX12_goes_113 ?_
              refine lv_sipush (v := 401) hx hb dX12_goes_116 (by decide) ?_
              refine lv_iload_n hx hb dX12_goes_119 rfl (lv_at hl 3 rfl) ?_
              refine lv_imul hx hb dX12_goes_120 ?_
              refine lv_topi (fun z197 e198 => ?_)
              have t199 := ib_cmul (q := 401) e198 (by decide) (by decide) ba1 (by decide) (by decide)
              have b200 : Bd z197 (0) (2807) := ib_mulb t199 (by decide) ba1
              refine lv_iload hx hb dX12_goes_121 (lv_at hl 1 rfl) ?_
              refine lv_iadd hx hb dX12_goes_123 ?_
              refine lv_topi (fun z201 e202 => ?_)
              have t203 := ib_add e202 b200 b76 (by decide) (by decide)
              have b204 : Bd z201 (0) (3206) := ib_addb t203 b200 b76
              obtain ⟨f205, c206⟩ := invM_15 hI
              refine xiald E hQ 15 (by decide) c206 (ib_in b204 (by decide) (by decide)) dX12_goes_124 ?_
              refine lv_topi (fun z208 e209 => ?_)
              have c210 : S195 7 = .inl (g.2 0, 50, .inl f1) := (up_ne eS195 (by decide) c138)
              have q211 : elm (S195 7) 0 = v4.toInt := (elm_of c210 0).trans (congrArg Int32.toInt (ee5))
              refine xcVi E hs hQ hml hl.1 0 (gX12_shoved_0 l g ad hD S195 hI r194 z208 b194 (by omega)) mX12_shoved q1838 (by decide) c196 rfl rfl ⟨(Nat.le_of_ble_eq_true rfl), (Nat.le_of_ble_eq_true rfl)⟩ ⟨(Nat.le_of_ble_eq_true rfl), (Nat.le_of_ble_eq_true rfl)⟩ (Nat.le_of_ble_eq_true rfl) rfl dX12_goes_125 (fun r212 S212 H locs hp212 hQ _ => ?_)
              obtain ⟨rfl, b212, fg212⟩ := hp212
              refine lv_iload hx hb dX12_goes_128 (lv_at hl 1 rfl) ?_
              have q213 : elm (S195 7) 1 = v7.toInt := (elm_of c210 1).trans (congrArg Int32.toInt (ee8))
              refine xcVi E hs hQ hml hl.1 0 (gX12_on_0 l g ad hD S195 hI r212 x34_7 b212 (by omega) (by omega)) mX12_on q1804 (by decide) c196 rfl rfl ⟨(Nat.le_of_ble_eq_true rfl), (Nat.le_of_ble_eq_true rfl)⟩ ⟨(Nat.le_of_ble_eq_true rfl), (Nat.le_of_ble_eq_true rfl)⟩ (Nat.le_of_ble_eq_true rfl) rfl dX12_goes_130 (fun r214 S214 H locs hp214 hQ _ => ?_)
              obtain ⟨rfl, b214, g214_0, fg214⟩ := hp214
              refine xputi E hs hQ 0 (by decide) c196 rfl 26 (by decide) q1494 rfl rfl (Nat.le_of_ble_eq_true rfl) dX12_goes_133 (fun H locs S215 eS215 hQ => ?_)
              have hI := invM_up_0 hI eS215 ⟨y34_0_0, y34_0_6, y34_0_7, y34_0_8, y34_0_9, y34_0_10, wy34_0_11, y34_0_12, y34_0_13, y34_0_14, y34_0_15, r214, y34_0_27, y34_0_29, y34_0_30, y34_0_31, y34_0_32, y34_0_33, y34_0_36, rfl, By34_0_6, By34_0_7, By34_0_8, By34_0_12, b214, (ib_wk b82 (by decide) (by decide)), By34_0_29, By34_0_30, By34_0_31⟩
              have c216 : S215 0 = .inr (12, [.int y34_0_0, .ref (ad 1), .ref (ad 2), .ref (ad 3), .ref (ad 4), .ref (ad 5), .int y34_0_6, .int y34_0_7, .int y34_0_8, .int y34_0_9, .int y34_0_10, .long wy34_0_11, .int y34_0_12, .int y34_0_13, .int y34_0_14, .int y34_0_15, .ref (ad 6), .ref (ad 7), .ref (ad 8), .ref (ad 9), .ref (ad 10), .ref (ad 11), .ref (ad 12), .ref (ad 13), .ref (ad 14), .ref (ad 15), .int r214, .int y34_0_27, .ref (ad 16), .int y34_0_29, .int y34_0_30, .int y34_0_31, .int y34_0_32, .int y34_0_33, .ref (ad 17), .ref (ad 18), .int y34_0_36, .ref (ad 19)]) := up_at eS215 rfl
              refine lv_aload_n hx hb dX12_goes_136 rfl (lv_at hl 2 rfl) ?_
              refine lv_aload_n hx hb dX12_goes_137 rfl (lv_at hl 2 rfl) ?_
              refine xget E hQ 0 (by decide) c216 rfl 26 (by decide) q1494 rfl dX12_goes_138 ?_
              refine xcVi E hs hQ hml hl.1 0 (gX12_isBeach_0 l g ad hD S215 hI r214) mX12_isBeach q1755 (by decide) c216 rfl rfl ⟨(Nat.le_of_ble_eq_true rfl), (Nat.le_of_ble_eq_true rfl)⟩ ⟨(Nat.le_of_ble_eq_true rfl), (Nat.le_of_ble_eq_true rfl)⟩ (Nat.le_of_ble_eq_true rfl) rfl dX12_goes_141 (fun r217 S217 H locs hp217 hQ _ => ?_)
              obtain ⟨rfl, b217, fg217⟩ := hp217
              refine lv_if_eq (tgt := 155) hx hb dX12_goes_144 (by decide) (fun k218 => ?_) (fun k218 => ?_)
              · have h219 := ib_eq k218
                have b220 : Bd r217 (0) (0) := ⟨(b217).1, ((rf_eq b217 (by decide : Bd 0 (0) (0)) h219).1).2⟩
                obtain ⟨z221, e222⟩ : ∃ z : Int32, z = x34_7 + 1 := ⟨_, rfl⟩
                have t223 := ib_add e222 b76 (by decide : Bd 1 (1) (1)) (by decide) (by decide)
                have b224 : Bd z221 (1) (400) := ib_addb t223 b76 (by decide : Bd 1 (1) (1))
                have t223 : z221.toInt = x34_7.toInt + 1 := fold_add t223 rfl (by decide)
                refine lv_iinc (v := z221) (lv' := [(7, .int z221), (5, .long w132), (0, .ref (ad 0)), (1, .int a1), (2, .int a2), (3, .long wa3)]) hx hb dX12_goes_155 hl (k := 1) rfl (by rw [e222]; rfl) (by decide) rfl (fun ls hl => ?_)
                refine lv_goto (tgt := 34) hx hb dX12_goes_158 (by decide) ?_
                exact ih34 _ _ _ _ w132 z221 y34_0_0 y34_0_6 y34_0_7 y34_0_8 y34_0_9 y34_0_10 wy34_0_11 y34_0_12 y34_0_13 y34_0_14 y34_0_15 r214 y34_0_27 y34_0_29 y34_0_30 y34_0_31 y34_0_32 y34_0_33 y34_0_36 (ib_wk b224 (by decide) (by decide)) By34_0_6 By34_0_7 By34_0_8 By34_0_12 b214 (ib_wk b82 (by decide) (by decide)) By34_0_29 By34_0_30 By34_0_31 (by omega) hI (up_o (up_o hf34 eS195 (by decide)) eS215 (by decide)) c216 hQ (lv_sub hl [0, 1, 2, 3, 4, 5] rfl)
              · have h225 := ib_ne k218
                have b226 : Bd r217 (1) (1) := rf_nlo b217 (by decide : Bd 0 (0) (0)) h225
                refine lv_aload_n hx hb dX12_goes_147 rfl (lv_at hl 2 rfl) ?_
                refine lv_iload hx hb dX12_goes_148 (lv_at hl 1 rfl) ?_
                refine lv_iconst (v := 1) hx hb dX12_goes_150 (by decide) ?_
                refine lv_iadd hx hb dX12_goes_151 ?_
                refine lv_topi (fun z227 e228 => ?_)
                have t229 := ib_add e228 b76 (by decide : Bd 1 (1) (1)) (by decide) (by decide)
                have b230 : Bd z227 (1) (400) := ib_addb t229 b76 (by decide : Bd 1 (1) (1))
                have t229 : z227.toInt = x34_7.toInt + 1 := fold_add t229 rfl (by decide)
                refine xputi E hs hQ 0 (by decide) c216 rfl 27 (by decide) q1495 rfl rfl (Nat.le_of_ble_eq_true rfl) dX12_goes_152 (fun H locs S231 eS231 hQ => ?_)
                have hI := invM_up_0 hI eS231 ⟨y34_0_0, y34_0_6, y34_0_7, y34_0_8, y34_0_9, y34_0_10, wy34_0_11, y34_0_12, y34_0_13, y34_0_14, y34_0_15, r214, z227, y34_0_29, y34_0_30, y34_0_31, y34_0_32, y34_0_33, y34_0_36, rfl, By34_0_6, By34_0_7, By34_0_8, By34_0_12, b214, (ib_wk b230 (by decide) (by decide)), By34_0_29, By34_0_30, By34_0_31⟩
                have c232 : S231 0 = .inr (12, [.int y34_0_0, .ref (ad 1), .ref (ad 2), .ref (ad 3), .ref (ad 4), .ref (ad 5), .int y34_0_6, .int y34_0_7, .int y34_0_8, .int y34_0_9, .int y34_0_10, .long wy34_0_11, .int y34_0_12, .int y34_0_13, .int y34_0_14, .int y34_0_15, .ref (ad 6), .ref (ad 7), .ref (ad 8), .ref (ad 9), .ref (ad 10), .ref (ad 11), .ref (ad 12), .ref (ad 13), .ref (ad 14), .ref (ad 15), .int r214, .int z227, .ref (ad 16), .int y34_0_29, .int y34_0_30, .int y34_0_31, .int y34_0_32, .int y34_0_33, .ref (ad 17), .ref (ad 18), .int y34_0_36, .ref (ad 19)]) := up_at eS231 rfl
                obtain ⟨z233, e234⟩ : ∃ z : Int32, z = x34_7 + 1 := ⟨_, rfl⟩
                have t235 := ib_add e234 b76 (by decide : Bd 1 (1) (1)) (by decide) (by decide)
                have b236 : Bd z233 (1) (400) := ib_addb t235 b76 (by decide : Bd 1 (1) (1))
                have t235 : z233.toInt = x34_7.toInt + 1 := fold_add t235 rfl (by decide)
                refine lv_iinc (v := z233) (lv' := [(7, .int z233), (5, .long w132), (0, .ref (ad 0)), (1, .int a1), (2, .int a2), (3, .long wa3)]) hx hb dX12_goes_155 hl (k := 1) rfl (by rw [e234]; rfl) (by decide) rfl (fun ls hl => ?_)
                refine lv_goto (tgt := 34) hx hb dX12_goes_158 (by decide) ?_
                exact ih34 _ _ _ _ w132 z233 y34_0_0 y34_0_6 y34_0_7 y34_0_8 y34_0_9 y34_0_10 wy34_0_11 y34_0_12 y34_0_13 y34_0_14 y34_0_15 r214 z227 y34_0_29 y34_0_30 y34_0_31 y34_0_32 y34_0_33 y34_0_36 (ib_wk b236 (by decide) (by decide)) By34_0_6 By34_0_7 By34_0_8 By34_0_12 b214 (ib_wk b230 (by decide) (by decide)) By34_0_29 By34_0_30 By34_0_31 (by omega) hI (up_o (up_o (up_o hf34 eS195 (by decide)) eS215 (by decide)) eS231 (by decide)) c232 hQ (lv_sub hl [0, 1, 2, 3, 4, 5] rfl)
  obtain ⟨n34, hn34⟩ := fu_n ((-1) * z70.toInt + 400)
  exact loop34 n34 _ _ _ _ wa3 z70 v14 v15 v17 v19 v21 v22 w23 v24 v26 v27 v28 z54 (-1) v33 v35 v37 v39 v40 v41 (ib_wk b72 (by decide) (by decide)) b16 b18 b20 b25 b56 (ib_wk (by decide : Bd (-1) (-1) (-1)) (by decide) (by decide)) b34 b36 b38 (by have : ((-1) : Int32).toInt = (-1) := (by decide); omega) hI o_refl c60 hQ (lv_sub hl [0, 1, 2, 3, 4, 5] rfl)
set_option maxHeartbeats 4000000 in
set_option maxRecDepth 100000 in
theorem gX12_comesUp_0 (l : Launch) (g : GG) (ad : Nat → Nat) (hD : Dj ad 20) (S : SS) (hI : InvM g ad S) (a1 : Int32) (ba1 : Bd a1 (0) (7)) (hq1 : 0 ≤ elm (S 7) 0 + (-1)) (hq2 : 0 ≤ elm (S 7) 1 + (-1)) : Met l yX12_comesUp (wG (.code yX12_comesUp cX12_comesUp 2 none)) (Rm 4) (XPre g ad 20 S [.ref (ad 0), .int a1]) (va_Qv (fun S' => InvM g ad S' ∧ (∀ j, j ∉ ([0] : List Nat) → S' j = S j)) (QB g ad 20) (FA ad 20)) 0 0 (FA ad 20) := by
  refine xmet cX12_comesUp "EbbWreckModel" (by decide) rfl (Nat.le_of_ble_eq_true rfl) (fun p e s m below meth c E hr hlk hml hQ ls hl => ?_)
  have hx := E.1
  have hb := E.2.1
  have hs : Sp ad 20 (FA ad 20) := Sp.fa hD
  have hl : lv_has ls 2 [(0, .ref (ad 0)), (1, .int a1)] := hl
  obtain ⟨f1, c2, b3⟩ := invM_7 hI
  obtain ⟨v4, ee5⟩ : ∃ z : Int32, f1 0 = z := ⟨_, rfl⟩
  have b6 : Bd v4 (0) (12) := (by rw [← ee5]; exact b3.1 0 (by decide))
  obtain ⟨v7, ee8⟩ : ∃ z : Int32, f1 1 = z := ⟨_, rfl⟩
  have b9 : Bd v7 (0) (12) := (by rw [← ee8]; exact b3.2.1 1 (by decide))
  have q10 : elm (S 7) 0 = v4.toInt := (elm_of c2 0).trans (congrArg Int32.toInt (ee5))
  have b11 : Bd v4 (1) (12) := ⟨by omega, (b6).2⟩
  have q12 : elm (S 7) 1 = v7.toInt := (elm_of c2 1).trans (congrArg Int32.toInt (ee8))
  have b13 : Bd v7 (1) (12) := ⟨by omega, (b9).2⟩
  refine lv_aload_n hx hb dX12_comesUp_0 rfl (lv_at hl 0 rfl) ?_
  refine lv_iload_n hx hb dX12_comesUp_1 rfl (lv_at hl 1 rfl) ?_
  refine lv_sipush (v := 400) hx hb dX12_comesUp_2 (by decide) ?_
  refine lv_ldc2 (v := (-1)) hx hb E.2.2.1 (E.2.2.2.1 _ q1645) dX12_comesUp_5 ?_
  obtain ⟨v15, v16, v18, v20, v22, v23, w24, v25, v27, v28, v29, v30, v32, v34, v36, v38, v40, v41, v42, c43, b17, b19, b21, b26, b31, b33, b35, b37, b39⟩ := invM_0 hI
  have c43 : S 0 = .inr (12, [.int v15, .ref (ad 1), .ref (ad 2), .ref (ad 3), .ref (ad 4), .ref (ad 5), .int v16, .int v18, .int v20, .int v22, .int v23, .long w24, .int v25, .int v27, .int v28, .int v29, .ref (ad 6), .ref (ad 7), .ref (ad 8), .ref (ad 9), .ref (ad 10), .ref (ad 11), .ref (ad 12), .ref (ad 13), .ref (ad 14), .ref (ad 15), .int v30, .int v32, .ref (ad 16), .int v34, .int v36, .int v38, .int v40, .int v41, .ref (ad 17), .ref (ad 18), .int v42, .ref (ad 19)]) := c43
  refine xcVv E hs hQ hml hl.1 0 (gX12_goes_0 l g ad hD S hI a1 400 (-1) ba1 (ib_wk (by decide : Bd 400 (400) (400)) (by decide) (by decide)) (by omega) (by omega)) mX12_goes q1829 (by decide) c43 rfl rfl ⟨(Nat.le_of_ble_eq_true rfl), (Nat.le_of_ble_eq_true rfl)⟩ ⟨(Nat.le_of_ble_eq_true rfl), (Nat.le_of_ble_eq_true rfl)⟩ (Nat.le_of_ble_eq_true rfl) rfl dX12_comesUp_8 (fun S14 H locs hp14 hQ _ => ?_)
  obtain ⟨hI, o14⟩ := hp14
  exact xrv E hr hlk hQ (⟨hI, (o_trans o_refl o14 (by decide))⟩) dX12_comesUp_11
set_option maxHeartbeats 4000000 in
set_option maxRecDepth 100000 in
theorem gX12_whoseNow_0 (l : Launch) (g : GG) (ad : Nat → Nat) (hD : Dj ad 20) (S : SS) (hI : InvM g ad S) (a1 : Int32) (a2 : Int32) (hq1 : 0 ≤ elm (S 7) 1 + (-1)) : Met l yX12_whoseNow (wG (.code yX12_whoseNow cX12_whoseNow 3 (some .int))) (Rm 3) (XPre g ad 20 S [.ref (ad 0), .int a1, .int a2]) (va_Qi (fun _ S' => S = S') (QB g ad 20) (FA ad 20)) 0 0 (FA ad 20) := by
  refine xmet cX12_whoseNow "EbbWreckModel" (by decide) rfl (Nat.le_of_ble_eq_true rfl) (fun p e s m below meth c E hr hlk hml hQ ls hl => ?_)
  have hx := E.1
  have hb := E.2.1
  have hs : Sp ad 20 (FA ad 20) := Sp.fa hD
  have hl : lv_has ls 3 [(0, .ref (ad 0)), (1, .int a1), (2, .int a2)] := hl
  obtain ⟨f1, c2, b3⟩ := invM_7 hI
  obtain ⟨v4, ee5⟩ : ∃ z : Int32, f1 1 = z := ⟨_, rfl⟩
  have b6 : Bd v4 (0) (12) := (by rw [← ee5]; exact b3.2.1 1 (by decide))
  have q7 : elm (S 7) 1 = v4.toInt := (elm_of c2 1).trans (congrArg Int32.toInt (ee5))
  have b8 : Bd v4 (1) (12) := ⟨by omega, (b6).2⟩
  refine lv_aload_n hx hb dX12_whoseNow_0 rfl (lv_at hl 0 rfl) ?_
  obtain ⟨v9, v10, v12, v14, v16, v17, w18, v19, v21, v22, v23, v24, v26, v28, v30, v32, v34, v35, v36, c37, b11, b13, b15, b20, b25, b27, b29, b31, b33⟩ := invM_0 hI
  have c37 : S 0 = .inr (12, [.int v9, .ref (ad 1), .ref (ad 2), .ref (ad 3), .ref (ad 4), .ref (ad 5), .int v10, .int v12, .int v14, .int v16, .int v17, .long w18, .int v19, .int v21, .int v22, .int v23, .ref (ad 6), .ref (ad 7), .ref (ad 8), .ref (ad 9), .ref (ad 10), .ref (ad 11), .ref (ad 12), .ref (ad 13), .ref (ad 14), .ref (ad 15), .int v24, .int v26, .ref (ad 16), .int v28, .int v30, .int v32, .int v34, .int v35, .ref (ad 17), .ref (ad 18), .int v36, .ref (ad 19)]) := c37
  refine xget E hQ 0 (by decide) c37 rfl 27 (by decide) q1495 rfl dX12_whoseNow_1 ?_
  refine lv_iconst (v := (-1)) hx hb dX12_whoseNow_4 (by decide) ?_
  refine lv_icmp_ne (tgt := 12) hx hb dX12_whoseNow_5 (by decide) (fun k38 => ?_) (fun k38 => ?_)
  · have h39 := ib_ne k38
    have b40 : Bd v26 (0) (400) := rf_nlo b27 (by decide : Bd (-1) (-1) (-1)) h39
    refine lv_aload_n hx hb dX12_whoseNow_12 rfl (lv_at hl 0 rfl) ?_
    refine lv_aload_n hx hb dX12_whoseNow_13 rfl (lv_at hl 0 rfl) ?_
    refine xget E hQ 0 (by decide) c37 rfl 26 (by decide) q1494 rfl dX12_whoseNow_14 ?_
    refine lv_aload_n hx hb dX12_whoseNow_17 rfl (lv_at hl 0 rfl) ?_
    refine lv_aload_n hx hb dX12_whoseNow_18 rfl (lv_at hl 0 rfl) ?_
    refine xget E hQ 0 (by decide) c37 rfl 27 (by decide) q1495 rfl dX12_whoseNow_19 ?_
    refine lv_iload_n hx hb dX12_whoseNow_22 rfl (lv_at hl 2 rfl) ?_
    refine lv_iadd hx hb dX12_whoseNow_23 ?_
    refine lv_topi (fun z41 e42 => ?_)
    refine xcVi E hs hQ hml hl.1 0 (gX12_phaseOf_0 l g ad hD S hI z41 (by omega)) mX12_phaseOf q1787 (by decide) c37 rfl rfl ⟨(Nat.le_of_ble_eq_true rfl), (Nat.le_of_ble_eq_true rfl)⟩ ⟨(Nat.le_of_ble_eq_true rfl), (Nat.le_of_ble_eq_true rfl)⟩ (Nat.le_of_ble_eq_true rfl) rfl dX12_whoseNow_24 (fun r43 S43 H locs hp43 hQ _ => ?_)
    obtain ⟨rfl, b43, fg43⟩ := hp43
    refine lv_iload_n hx hb dX12_whoseNow_27 rfl (lv_at hl 1 rfl) ?_
    refine xcVi E hs hQ hml hl.1 0 (gX12_partyOf_0 l g ad hD S hI v24 r43 a1) mX12_partyOf q1862 (by decide) c37 rfl rfl ⟨(Nat.le_of_ble_eq_true rfl), (Nat.le_of_ble_eq_true rfl)⟩ ⟨(Nat.le_of_ble_eq_true rfl), (Nat.le_of_ble_eq_true rfl)⟩ (Nat.le_of_ble_eq_true rfl) rfl dX12_whoseNow_28 (fun r44 S44 H locs hp44 hQ _ => ?_)
    obtain ⟨rfl, fg44⟩ := hp44
    exact xri E hr hlk hQ (rfl) dX12_whoseNow_31
  · have h45 := ib_eq k38
    have b46 : Bd v26 (-1) (-1) := ⟨(b27).1, ((rf_eq b27 (by decide : Bd (-1) (-1) (-1)) h45).1).2⟩
    refine lv_iconst (v := (-1)) hx hb dX12_whoseNow_8 (by decide) ?_
    refine lv_goto (tgt := 31) hx hb dX12_whoseNow_9 (by decide) ?_
    exact xri E hr hlk hQ (rfl) dX12_whoseNow_31
set_option maxHeartbeats 4000000 in
set_option maxRecDepth 100000 in
theorem gX12_hasOf_0 (l : Launch) (g : GG) (ad : Nat → Nat) (hD : Dj ad 20) (S : SS) (hI : InvM g ad S) (a1 : Int32) (a2 : Int32) (a3 : Int32) (hq1 : 0 ≤ elm (S 7) 0 + (-1)) (hq2 : 0 ≤ elm (S 7) 1 + (-1)) : Met l yX12_hasOf (wG (.code yX12_hasOf cX12_hasOf 6 (some .int))) (Rm 5) (XPre g ad 20 S [.ref (ad 0), .int a1, .int a2, .int a3]) (va_Qi (fun _ S' => InvM g ad S' ∧ (∀ j, j ∉ ([0] : List Nat) → S' j = S j)) (QB g ad 20) (FA ad 20)) 0 0 (FA ad 20) := by
  refine xmet cX12_hasOf "EbbWreckModel" (by decide) rfl (Nat.le_of_ble_eq_true rfl) (fun p e s m below meth c E hr hlk hml hQ ls hl => ?_)
  have hx := E.1
  have hb := E.2.1
  have hs : Sp ad 20 (FA ad 20) := Sp.fa hD
  have hl : lv_has ls 6 [(0, .ref (ad 0)), (1, .int a1), (2, .int a2), (3, .int a3)] := hl
  obtain ⟨f1, c2, b3⟩ := invM_7 hI
  obtain ⟨v4, ee5⟩ : ∃ z : Int32, f1 0 = z := ⟨_, rfl⟩
  have b6 : Bd v4 (0) (12) := (by rw [← ee5]; exact b3.1 0 (by decide))
  obtain ⟨v7, ee8⟩ : ∃ z : Int32, f1 1 = z := ⟨_, rfl⟩
  have b9 : Bd v7 (0) (12) := (by rw [← ee8]; exact b3.2.1 1 (by decide))
  have q10 : elm (S 7) 0 = v4.toInt := (elm_of c2 0).trans (congrArg Int32.toInt (ee5))
  have b11 : Bd v4 (1) (12) := ⟨by omega, (b6).2⟩
  have q12 : elm (S 7) 1 = v7.toInt := (elm_of c2 1).trans (congrArg Int32.toInt (ee8))
  have b13 : Bd v7 (1) (12) := ⟨by omega, (b9).2⟩
  refine lv_iconst (v := 0) hx hb dX12_hasOf_0 (by decide) ?_
  refine lv_istore (lv' := [(4, .int 0), (0, .ref (ad 0)), (1, .int a1), (2, .int a2), (3, .int a3)]) hx hb dX12_hasOf_1 hl (by decide) rfl (fun ls hl => ?_)
  refine lv_iconst (v := 0) hx hb dX12_hasOf_3 (by decide) ?_
  refine lv_istore (lv' := [(5, .int 0), (4, .int 0), (0, .ref (ad 0)), (1, .int a1), (2, .int a2), (3, .int a3)]) hx hb dX12_hasOf_4 hl (by decide) rfl (fun ls hl => ?_)
  obtain ⟨v14, v15, v17, v19, v21, v22, w23, v24, v26, v27, v28, v29, v31, v33, v35, v37, v39, v40, v41, c42, b16, b18, b20, b25, b30, b32, b34, b36, b38⟩ := invM_0 hI
  have c42 : S 0 = .inr (12, [.int v14, .ref (ad 1), .ref (ad 2), .ref (ad 3), .ref (ad 4), .ref (ad 5), .int v15, .int v17, .int v19, .int v21, .int v22, .long w23, .int v24, .int v26, .int v27, .int v28, .ref (ad 6), .ref (ad 7), .ref (ad 8), .ref (ad 9), .ref (ad 10), .ref (ad 11), .ref (ad 12), .ref (ad 13), .ref (ad 14), .ref (ad 15), .int v29, .int v31, .ref (ad 16), .int v33, .int v35, .int v37, .int v39, .int v40, .ref (ad 17), .ref (ad 18), .int v41, .ref (ad 19)]) := c42
  have loop6 : ∀ (n : Nat) (S_6 : SS) (H : Heap) (locs : List Loc) (ls : Array Slot) (x6_4 : Int32) (x6_5 : Int32) (y6_0_0 : Int32) (y6_0_6 : Int32) (y6_0_7 : Int32) (y6_0_8 : Int32) (y6_0_9 : Int32) (y6_0_10 : Int32) (wy6_0_11 : Int64) (y6_0_12 : Int32) (y6_0_13 : Int32) (y6_0_14 : Int32) (y6_0_15 : Int32) (y6_0_26 : Int32) (y6_0_27 : Int32) (y6_0_29 : Int32) (y6_0_30 : Int32) (y6_0_31 : Int32) (y6_0_32 : Int32) (y6_0_33 : Int32) (y6_0_36 : Int32), Bd x6_5 (0) (8) → Bd y6_0_6 (0) (1200) → Bd y6_0_7 (0) (1200) → Bd y6_0_8 (0) (4) → Bd y6_0_12 (0) (3) → Bd y6_0_26 (0) (11) → Bd y6_0_27 (-1) (400) → Bd y6_0_29 (0) (2) → Bd y6_0_30 (0) (11) → Bd y6_0_31 (-1) (468) → (-1) * x6_5.toInt + 8 < ((n : Nat) : Int) → InvM g ad S_6 → (∀ j, j ∉ ([0] : List Nat) → S_6 j = S j) → S_6 0 = .inr (12, [.int y6_0_0, .ref (ad 1), .ref (ad 2), .ref (ad 3), .ref (ad 4), .ref (ad 5), .int y6_0_6, .int y6_0_7, .int y6_0_8, .int y6_0_9, .int y6_0_10, .long wy6_0_11, .int y6_0_12, .int y6_0_13, .int y6_0_14, .int y6_0_15, .ref (ad 6), .ref (ad 7), .ref (ad 8), .ref (ad 9), .ref (ad 10), .ref (ad 11), .ref (ad 12), .ref (ad 13), .ref (ad 14), .ref (ad 15), .int y6_0_26, .int y6_0_27, .ref (ad 16), .int y6_0_29, .int y6_0_30, .int y6_0_31, .int y6_0_32, .int y6_0_33, .ref (ad 17), .ref (ad 18), .int y6_0_36, .ref (ad 19)]) → Hp g ad 20 S_6 (FA ad 20) s.heap H locs → lv_has ls 6 [(5, .int x6_5), (4, .int x6_4), (0, .ref (ad 0)), (1, .int a1), (2, .int a2), (3, .int a3)] → W p l e (Rm 5) s m [.ref (ad 0), .int a1, .int a2, .int a3].toArray below meth c H locs 0 0 (MQ below (va_Qi (fun _ S' => InvM g ad S' ∧ (∀ j, j ∉ ([0] : List Nat) → S' j = S j)) (QB g ad 20) (FA ad 20)) [.ref (ad 0), .int a1, .int a2, .int a3].toArray s 0 0 (FA ad 20)) (F0 m 6 ls []) := by
    intro n
    induction n with
    | zero => intro S_6 H locs ls x6_4 x6_5 y6_0_0 y6_0_6 y6_0_7 y6_0_8 y6_0_9 y6_0_10 wy6_0_11 y6_0_12 y6_0_13 y6_0_14 y6_0_15 y6_0_26 y6_0_27 y6_0_29 y6_0_30 y6_0_31 y6_0_32 y6_0_33 y6_0_36 Bx6_5 By6_0_6 By6_0_7 By6_0_8 By6_0_12 By6_0_26 By6_0_27 By6_0_29 By6_0_30 By6_0_31 hn6_ hI hf6 cl6_0 hQ hl; exfalso; have := (Bx6_5).2; omega
    | succ n6_ ih6 =>
      intro S_6 H locs ls x6_4 x6_5 y6_0_0 y6_0_6 y6_0_7 y6_0_8 y6_0_9 y6_0_10 wy6_0_11 y6_0_12 y6_0_13 y6_0_14 y6_0_15 y6_0_26 y6_0_27 y6_0_29 y6_0_30 y6_0_31 y6_0_32 y6_0_33 y6_0_36 Bx6_5 By6_0_6 By6_0_7 By6_0_8 By6_0_12 By6_0_26 By6_0_27 By6_0_29 By6_0_30 By6_0_31 hn6_ hI hf6 cl6_0 hQ hl
      refine lv_iload hx hb dX12_hasOf_6 (lv_at hl 0 rfl) ?_
      refine lv_aload_n hx hb dX12_hasOf_8 rfl (lv_at hl 2 rfl) ?_
      refine xget E hQ 0 (by decide) cl6_0 rfl 17 (by decide) q1485 rfl dX12_hasOf_9 ?_
      refine lv_bipush (v := 6) hx hb dX12_hasOf_12 (by decide) ?_
      have c43 : S_6 7 = .inl (g.2 0, 50, .inl f1) := ((hf6 7 (by decide)).trans c2)
      refine xiald E hQ 7 (by decide) c43 (vp_in_lit 6 50 (by decide)) dX12_hasOf_14 ?_
      obtain ⟨v44, ee45⟩ : ∃ z : Int32, f1 6 = z := ⟨_, rfl⟩
      have b46 : Bd v44 (0) (8) := (by rw [← ee45]; exact b3.2.2.2.2.1 6 (by decide))
      refine sb_at (P := fun z => W _ _ _ _ _ _ _ _ _ _ _ _ _ _ _ (F0 _ _ _ (.int z :: _))) (show f1 (6 : Int32).toNatClampNeg = v44 from ee45) ?_
      refine lv_icmp_ge (tgt := 55) hx hb dX12_hasOf_15 (by decide) (fun k47 => ?_) (fun k47 => ?_)
      · have h48 := ib_le k47
        refine lv_iload hx hb dX12_hasOf_55 (lv_at hl 1 rfl) ?_
        exact xri E hr hlk hQ (⟨hI, (o_trans o_refl hf6 (by decide))⟩) dX12_hasOf_57
      · have h49 := ib_nle k47
        have b50 : Bd x6_5 (0) (7) := ⟨(Bx6_5).1, ((rf_lt Bx6_5 b46 h49).1).2⟩
        have b51 : Bd v44 (1) (8) := ⟨((rf_lt Bx6_5 b46 h49).2).1, (b46).2⟩
        refine lv_aload_n hx hb dX12_hasOf_18 rfl (lv_at hl 2 rfl) ?_
        refine lv_iload hx hb dX12_hasOf_19 (lv_at hl 0 rfl) ?_
        have q52 : elm (S_6 7) 0 = v4.toInt := (elm_of c43 0).trans (congrArg Int32.toInt (ee5))
        have q53 : elm (S_6 7) 1 = v7.toInt := (elm_of c43 1).trans (congrArg Int32.toInt (ee8))
        refine xcVv E hs hQ hml hl.1 0 (gX12_comesUp_0 l g ad hD S_6 hI x6_5 b50 (by omega) (by omega)) mX12_comesUp q1846 (by decide) cl6_0 rfl rfl ⟨(Nat.le_of_ble_eq_true rfl), (Nat.le_of_ble_eq_true rfl)⟩ ⟨(Nat.le_of_ble_eq_true rfl), (Nat.le_of_ble_eq_true rfl)⟩ (Nat.le_of_ble_eq_true rfl) rfl dX12_hasOf_21 (fun S54 H locs hp54 hQ _ => ?_)
        obtain ⟨hI, o54⟩ := hp54
        refine lv_iload hx hb dX12_hasOf_24 (lv_at hl 1 rfl) ?_
        refine lv_aload_n hx hb dX12_hasOf_26 rfl (lv_at hl 2 rfl) ?_
        refine lv_iload_n hx hb dX12_hasOf_27 rfl (lv_at hl 4 rfl) ?_
        refine lv_iload_n hx hb dX12_hasOf_28 rfl (lv_at hl 5 rfl) ?_
        have c55 : S54 7 = .inl (g.2 0, 50, .inl f1) := ((o54 7 (by decide)).trans c43)
        have q56 : elm (S54 7) 1 = v7.toInt := (elm_of c55 1).trans (congrArg Int32.toInt (ee8))
        obtain ⟨v58, v59, v61, v63, v65, v66, w67, v68, v70, v71, v72, v73, v75, v77, v79, v81, v83, v84, v85, c86, b60, b62, b64, b69, b74, b76, b78, b80, b82⟩ := invM_0 hI
        have c86 : S54 0 = .inr (12, [.int v58, .ref (ad 1), .ref (ad 2), .ref (ad 3), .ref (ad 4), .ref (ad 5), .int v59, .int v61, .int v63, .int v65, .int v66, .long w67, .int v68, .int v70, .int v71, .int v72, .ref (ad 6), .ref (ad 7), .ref (ad 8), .ref (ad 9), .ref (ad 10), .ref (ad 11), .ref (ad 12), .ref (ad 13), .ref (ad 14), .ref (ad 15), .int v73, .int v75, .ref (ad 16), .int v77, .int v79, .int v81, .int v83, .int v84, .ref (ad 17), .ref (ad 18), .int v85, .ref (ad 19)]) := c86
        refine xcVi E hs hQ hml hl.1 0 (gX12_whoseNow_0 l g ad hD S54 hI a2 a3 (by omega)) mX12_whoseNow q1858 (by decide) c86 rfl rfl ⟨(Nat.le_of_ble_eq_true rfl), (Nat.le_of_ble_eq_true rfl)⟩ ⟨(Nat.le_of_ble_eq_true rfl), (Nat.le_of_ble_eq_true rfl)⟩ (Nat.le_of_ble_eq_true rfl) rfl dX12_hasOf_29 (fun r57 S57 H locs hp57 hQ _ => ?_)
        subst hp57
        refine lv_iload_n hx hb dX12_hasOf_32 rfl (lv_at hl 3 rfl) ?_
        refine lv_icmp_ne (tgt := 45) hx hb dX12_hasOf_33 (by decide) (fun k87 => ?_) (fun k87 => ?_)
        · have h88 := ib_ne k87
          refine lv_iconst (v := 0) hx hb dX12_hasOf_45 (by decide) ?_
          refine lv_iadd hx hb dX12_hasOf_46 ?_
          refine lv_topi (fun z89 e90 => ?_)
          have t91 := ib_add e90 (ib_full x6_4) (by decide : Bd 0 (0) (0)) (by decide) (by decide)
          have b92 : Bd z89 (-2147483648) (2147483647) := ib_addb t91 (ib_full x6_4) (by decide : Bd 0 (0) (0))
          have t91 : z89.toInt = x6_4.toInt + 0 := fold_add t91 rfl (by decide)
          refine lv_istore (lv' := [(4, .int z89), (5, .int x6_5), (0, .ref (ad 0)), (1, .int a1), (2, .int a2), (3, .int a3)]) hx hb dX12_hasOf_47 hl (by decide) rfl (fun ls hl => ?_)
          obtain ⟨z93, e94⟩ : ∃ z : Int32, z = x6_5 + 1 := ⟨_, rfl⟩
          have t95 := ib_add e94 b50 (by decide : Bd 1 (1) (1)) (by decide) (by decide)
          have b96 : Bd z93 (1) (8) := ib_addb t95 b50 (by decide : Bd 1 (1) (1))
          have t95 : z93.toInt = x6_5.toInt + 1 := fold_add t95 rfl (by decide)
          refine lv_iinc (v := z93) (lv' := [(5, .int z93), (4, .int z89), (0, .ref (ad 0)), (1, .int a1), (2, .int a2), (3, .int a3)]) hx hb dX12_hasOf_49 hl (k := 1) rfl (by rw [e94]; rfl) (by decide) rfl (fun ls hl => ?_)
          refine lv_goto (tgt := 6) hx hb dX12_hasOf_52 (by decide) ?_
          exact ih6 _ _ _ _ z89 z93 v58 v59 v61 v63 v65 v66 w67 v68 v70 v71 v72 v73 v75 v77 v79 v81 v83 v84 v85 (ib_wk b96 (by decide) (by decide)) b60 b62 b64 b69 b74 b76 b78 b80 b82 (by omega) hI (o_trans hf6 o54 (by decide)) c86 hQ (lv_sub hl [0, 1, 2, 3, 4, 5] rfl)
        · have h97 := ib_eq k87
          refine lv_aload_n hx hb dX12_hasOf_36 rfl (lv_at hl 2 rfl) ?_
          refine lv_iload hx hb dX12_hasOf_37 (lv_at hl 0 rfl) ?_
          refine xcVi E hs hQ hml hl.1 0 (gX12_worth_0 l g ad hD S54 hI x6_5 b50) mX12_worth q1883 (by decide) c86 rfl rfl ⟨(Nat.le_of_ble_eq_true rfl), (Nat.le_of_ble_eq_true rfl)⟩ ⟨(Nat.le_of_ble_eq_true rfl), (Nat.le_of_ble_eq_true rfl)⟩ (Nat.le_of_ble_eq_true rfl) rfl dX12_hasOf_39 (fun r98 S98 H locs hp98 hQ _ => ?_)
          subst hp98
          refine lv_goto (tgt := 46) hx hb dX12_hasOf_42 (by decide) ?_
          refine lv_iadd hx hb dX12_hasOf_46 ?_
          refine lv_topi (fun z99 e100 => ?_)
          refine lv_istore (lv' := [(4, .int z99), (5, .int x6_5), (0, .ref (ad 0)), (1, .int a1), (2, .int a2), (3, .int a3)]) hx hb dX12_hasOf_47 hl (by decide) rfl (fun ls hl => ?_)
          obtain ⟨z101, e102⟩ : ∃ z : Int32, z = x6_5 + 1 := ⟨_, rfl⟩
          have t103 := ib_add e102 b50 (by decide : Bd 1 (1) (1)) (by decide) (by decide)
          have b104 : Bd z101 (1) (8) := ib_addb t103 b50 (by decide : Bd 1 (1) (1))
          have t103 : z101.toInt = x6_5.toInt + 1 := fold_add t103 rfl (by decide)
          refine lv_iinc (v := z101) (lv' := [(5, .int z101), (4, .int z99), (0, .ref (ad 0)), (1, .int a1), (2, .int a2), (3, .int a3)]) hx hb dX12_hasOf_49 hl (k := 1) rfl (by rw [e102]; rfl) (by decide) rfl (fun ls hl => ?_)
          refine lv_goto (tgt := 6) hx hb dX12_hasOf_52 (by decide) ?_
          exact ih6 _ _ _ _ z99 z101 v58 v59 v61 v63 v65 v66 w67 v68 v70 v71 v72 v73 v75 v77 v79 v81 v83 v84 v85 (ib_wk b104 (by decide) (by decide)) b60 b62 b64 b69 b74 b76 b78 b80 b82 (by omega) hI (o_trans hf6 o54 (by decide)) c86 hQ (lv_sub hl [0, 1, 2, 3, 4, 5] rfl)
  obtain ⟨n6, hn6⟩ := fu_n (8)
  exact loop6 n6 _ _ _ _ 0 0 v14 v15 v17 v19 v21 v22 w23 v24 v26 v27 v28 v29 v31 v33 v35 v37 v39 v40 v41 (ib_wk (by decide : Bd 0 (0) (0)) (by decide) (by decide)) b16 b18 b20 b25 b30 b32 b34 b36 b38 (by have : (0 : Int32).toInt = 0 := (by decide); omega) hI o_refl c42 hQ (lv_sub hl [0, 1, 2, 3, 4, 5] rfl)
def fPush (e7 e8 e10 e16 : va_E) (a1 : Int32) (a2 : Int32) (a3 : Int32) (a4 : Int32) : Int32 := if a3 = (0 : Int32) then (if (fBeach e7 e8 e10 (fOn e7 e8 e10 (fShoved e7 e8 e10 a2 a3) a1)) = (0 : Int32) then ((0 : Int32) + (arr e16 (((12 : Int32) * (a1 + (1 : Int32))) + (fOn e7 e8 e10 (fShoved e7 e8 e10 a2 a3) a1)).toNatClampNeg)) else (if (fParty e7 e8 e10 (fOn e7 e8 e10 (fShoved e7 e8 e10 a2 a3) a1) (fPhase e7 e8 e10 (a1 + (1 : Int32))) ((-1) : Int32)) = a4 then (0 : Int32) else (100000 : Int32))) else (if (fBeach e7 e8 e10 (fOn e7 e8 e10 (fShoved e7 e8 e10 a2 a3) a1)) = (0 : Int32) then ((1 : Int32) + (arr e16 (((12 : Int32) * (a1 + (1 : Int32))) + (fOn e7 e8 e10 (fShoved e7 e8 e10 a2 a3) a1)).toNatClampNeg)) else (if (fParty e7 e8 e10 (fOn e7 e8 e10 (fShoved e7 e8 e10 a2 a3) a1) (fPhase e7 e8 e10 (a1 + (1 : Int32))) ((-1) : Int32)) = a4 then (1 : Int32) else (100000 : Int32)))
set_option maxHeartbeats 4000000 in
set_option maxRecDepth 100000 in
theorem gX12_pushBy_0 (l : Launch) (g : GG) (ad : Nat → Nat) (hD : Dj ad 20) (S : SS) (hI : InvM g ad S) (a1 : Int32) (a2 : Int32) (a3 : Int32) (a4 : Int32) (ba1 : Bd a1 (0) (99)) (ba2 : Bd a2 (0) (11)) (hq1 : 0 ≤ elm (S 7) 0 + (-1)) (hq2 : 0 ≤ elm (S 7) 1 + (-1)) : Met l yX12_pushBy (wG (.code yX12_pushBy cX12_pushBy 7 (some .int))) (Rm 3) (XPre g ad 20 S [.ref (ad 0), .int a1, .int a2, .int a3, .int a4]) (va_Qi (fun r S' => S = S' ∧ Bd r (0) (100001) ∧ r = fPush (S 7) (S 8) (S 10) (S 16) a1 a2 a3 a4) (QB g ad 20) (FA ad 20)) 0 0 (FA ad 20) := by
  refine xmet cX12_pushBy "EbbWreckModel" (by decide) rfl (Nat.le_of_ble_eq_true rfl) (fun p e s m below meth c E hr hlk hml hQ ls hl => ?_)
  have hx := E.1
  have hb := E.2.1
  have hs : Sp ad 20 (FA ad 20) := Sp.fa hD
  have hl : lv_has ls 7 [(0, .ref (ad 0)), (1, .int a1), (2, .int a2), (3, .int a3), (4, .int a4)] := hl
  obtain ⟨f1, c2, b3⟩ := invM_7 hI
  obtain ⟨v4, ee5⟩ : ∃ z : Int32, f1 0 = z := ⟨_, rfl⟩
  have b6 : Bd v4 (0) (12) := (by rw [← ee5]; exact b3.1 0 (by decide))
  obtain ⟨v7, ee8⟩ : ∃ z : Int32, f1 1 = z := ⟨_, rfl⟩
  have b9 : Bd v7 (0) (12) := (by rw [← ee8]; exact b3.2.1 1 (by decide))
  have q10 : elm (S 7) 0 = v4.toInt := (elm_of c2 0).trans (congrArg Int32.toInt (ee5))
  have b11 : Bd v4 (1) (12) := ⟨by omega, (b6).2⟩
  have q12 : elm (S 7) 1 = v7.toInt := (elm_of c2 1).trans (congrArg Int32.toInt (ee8))
  have b13 : Bd v7 (1) (12) := ⟨by omega, (b9).2⟩
  refine lv_aload_n hx hb dX12_pushBy_0 rfl (lv_at hl 0 rfl) ?_
  refine lv_aload_n hx hb dX12_pushBy_1 rfl (lv_at hl 0 rfl) ?_
  refine lv_iload_n hx hb dX12_pushBy_2 rfl (lv_at hl 2 rfl) ?_
  refine lv_iload_n hx hb dX12_pushBy_3 rfl (lv_at hl 3 rfl) ?_
  obtain ⟨v15, v16, v18, v20, v22, v23, w24, v25, v27, v28, v29, v30, v32, v34, v36, v38, v40, v41, v42, c43, b17, b19, b21, b26, b31, b33, b35, b37, b39⟩ := invM_0 hI
  have c43 : S 0 = .inr (12, [.int v15, .ref (ad 1), .ref (ad 2), .ref (ad 3), .ref (ad 4), .ref (ad 5), .int v16, .int v18, .int v20, .int v22, .int v23, .long w24, .int v25, .int v27, .int v28, .int v29, .ref (ad 6), .ref (ad 7), .ref (ad 8), .ref (ad 9), .ref (ad 10), .ref (ad 11), .ref (ad 12), .ref (ad 13), .ref (ad 14), .ref (ad 15), .int v30, .int v32, .ref (ad 16), .int v34, .int v36, .int v38, .int v40, .int v41, .ref (ad 17), .ref (ad 18), .int v42, .ref (ad 19)]) := c43
  refine xcVi E hs hQ hml hl.1 0 (gX12_shoved_0 l g ad hD S hI a2 a3 ba2 (by omega)) mX12_shoved q1838 (by decide) c43 rfl rfl ⟨(Nat.le_of_ble_eq_true rfl), (Nat.le_of_ble_eq_true rfl)⟩ ⟨(Nat.le_of_ble_eq_true rfl), (Nat.le_of_ble_eq_true rfl)⟩ (Nat.le_of_ble_eq_true rfl) rfl dX12_pushBy_4 (fun r14 S14 H locs hp14 hQ _ => ?_)
  obtain ⟨rfl, b14, fg14⟩ := hp14
  have tt44 : r14 = (fShoved (S 7) (S 8) (S 10) a2 a3) := by rw [fg14]
  refine lv_iload_n hx hb dX12_pushBy_7 rfl (lv_at hl 1 rfl) ?_
  refine xcVi E hs hQ hml hl.1 0 (gX12_on_0 l g ad hD S hI r14 a1 b14 (by omega) (by omega)) mX12_on q1804 (by decide) c43 rfl rfl ⟨(Nat.le_of_ble_eq_true rfl), (Nat.le_of_ble_eq_true rfl)⟩ ⟨(Nat.le_of_ble_eq_true rfl), (Nat.le_of_ble_eq_true rfl)⟩ (Nat.le_of_ble_eq_true rfl) rfl dX12_pushBy_8 (fun r45 S45 H locs hp45 hQ _ => ?_)
  obtain ⟨rfl, b45, g45_0, fg45⟩ := hp45
  have tt46 : r45 = (fOn (S 7) (S 8) (S 10) (fShoved (S 7) (S 8) (S 10) a2 a3) a1) := by rw [fg45, tt44]
  refine lv_istore (lv' := [(5, .int r45), (0, .ref (ad 0)), (1, .int a1), (2, .int a2), (3, .int a3), (4, .int a4)]) hx hb dX12_pushBy_11 hl (by decide) rfl (fun ls hl => ?_)
  refine lv_iload_n hx hb dX12_pushBy_13 rfl (lv_at hl 4 rfl) ?_
  refine lv_if_ne (tgt := 21) hx hb dX12_pushBy_14 (by decide) (fun k47 => ?_) (fun k47 => ?_)
  · have h48 := ib_ne k47
    have kc49 : ¬ (a3 = (0 : Int32)) := by have h0 := k47; exact h0
    refine lv_iconst (v := 1) hx hb dX12_pushBy_21 (by decide) ?_
    refine lv_istore (lv' := [(6, .int 1), (5, .int r45), (0, .ref (ad 0)), (1, .int a1), (2, .int a2), (3, .int a3), (4, .int a4)]) hx hb dX12_pushBy_22 hl (by decide) rfl (fun ls hl => ?_)
    refine lv_aload_n hx hb dX12_pushBy_24 rfl (lv_at hl 2 rfl) ?_
    refine lv_iload hx hb dX12_pushBy_25 (lv_at hl 1 rfl) ?_
    refine xcVi E hs hQ hml hl.1 0 (gX12_isBeach_0 l g ad hD S hI r45) mX12_isBeach q1755 (by decide) c43 rfl rfl ⟨(Nat.le_of_ble_eq_true rfl), (Nat.le_of_ble_eq_true rfl)⟩ ⟨(Nat.le_of_ble_eq_true rfl), (Nat.le_of_ble_eq_true rfl)⟩ (Nat.le_of_ble_eq_true rfl) rfl dX12_pushBy_27 (fun r50 S50 H locs hp50 hQ _ => ?_)
    obtain ⟨rfl, b50, fg50⟩ := hp50
    have tt51 : r50 = (fBeach (S 7) (S 8) (S 10) (fOn (S 7) (S 8) (S 10) (fShoved (S 7) (S 8) (S 10) a2 a3) a1)) := by rw [fg50, tt46]
    refine lv_if_eq (tgt := 60) hx hb dX12_pushBy_30 (by decide) (fun k52 => ?_) (fun k52 => ?_)
    · have h53 := ib_eq k52
      have kc54 : (fBeach (S 7) (S 8) (S 10) (fOn (S 7) (S 8) (S 10) (fShoved (S 7) (S 8) (S 10) a2 a3) a1)) = (0 : Int32) := by have h0 := k52; rw [tt51] at h0; exact h0
      have b55 : Bd r50 (0) (0) := ⟨(b50).1, ((rf_eq b50 (by decide : Bd 0 (0) (0)) h53).1).2⟩
      refine lv_iload hx hb dX12_pushBy_60 (lv_at hl 0 rfl) ?_
      refine lv_aload_n hx hb dX12_pushBy_62 rfl (lv_at hl 2 rfl) ?_
      refine xget E hQ 0 (by decide) c43 rfl 28 (by decide) q1496 rfl dX12_pushBy_63 ?_
      refine lv_bipush (v := 12) hx hb dX12_pushBy_66 (by decide) ?_
      refine lv_iload_n hx hb dX12_pushBy_68 rfl (lv_at hl 3 rfl) ?_
      refine lv_iconst (v := 1) hx hb dX12_pushBy_69 (by decide) ?_
      refine lv_iadd hx hb dX12_pushBy_70 ?_
      refine lv_topi (fun z56 e57 => ?_)
      have t58 := ib_add e57 ba1 (by decide : Bd 1 (1) (1)) (by decide) (by decide)
      have b59 : Bd z56 (1) (100) := ib_addb t58 ba1 (by decide : Bd 1 (1) (1))
      have t58 : z56.toInt = a1.toInt + 1 := fold_add t58 rfl (by decide)
      have tt60 : z56 = (a1 + (1 : Int32)) := by rw [e57]
      refine lv_imul hx hb dX12_pushBy_71 ?_
      refine lv_topi (fun z61 e62 => ?_)
      have t63 := ib_cmul (q := 12) e62 (by decide) (by decide) b59 (by decide) (by decide)
      have b64 : Bd z61 (12) (1200) := ib_mulb t63 (by decide) b59
      have tt65 : z61 = ((12 : Int32) * (a1 + (1 : Int32))) := by rw [e62, tt60]
      refine lv_iload hx hb dX12_pushBy_72 (lv_at hl 1 rfl) ?_
      refine lv_iadd hx hb dX12_pushBy_74 ?_
      refine lv_topi (fun z66 e67 => ?_)
      have t68 := ib_add e67 b64 b45 (by decide) (by decide)
      have b69 : Bd z66 (12) (1211) := ib_addb t68 b64 b45
      have tt70 : z66 = (((12 : Int32) * (a1 + (1 : Int32))) + (fOn (S 7) (S 8) (S 10) (fShoved (S 7) (S 8) (S 10) a2 a3) a1)) := by rw [e67, tt65, tt46]
      obtain ⟨f71, c72, b73⟩ := invM_16 hI
      refine xiald E hQ 16 (by decide) c72 (ib_in b69 (by decide) (by decide)) dX12_pushBy_75 ?_
      refine lv_topi (fun z74 e75 => ?_)
      have b76 : Bd z74 (0) (100000) := (by rw [e75]; exact b73 _)
      have tt77 : z74 = (arr (S 16) (((12 : Int32) * (a1 + (1 : Int32))) + (fOn (S 7) (S 8) (S 10) (fShoved (S 7) (S 8) (S 10) a2 a3) a1)).toNatClampNeg) := by rw [e75, arr_of c72, tt70]
      refine lv_iadd hx hb dX12_pushBy_76 ?_
      refine lv_topi (fun z78 e79 => ?_)
      have t80 := ib_add e79 (by decide : Bd 1 (1) (1)) b76 (by decide) (by decide)
      have b81 : Bd z78 (1) (100001) := ib_addb t80 (by decide : Bd 1 (1) (1)) b76
      have t80 : z78.toInt = 1 + z74.toInt := fold_add t80 (by decide) rfl
      have tt82 : z78 = ((1 : Int32) + (arr (S 16) (((12 : Int32) * (a1 + (1 : Int32))) + (fOn (S 7) (S 8) (S 10) (fShoved (S 7) (S 8) (S 10) a2 a3) a1)).toNatClampNeg)) := by rw [e79, tt77]
      exact xri E hr hlk hQ (⟨rfl, (ib_wk b81 (by decide) (by decide)), (by rw [fPush, if_neg kc49, if_pos kc54]; exact tt82)⟩) dX12_pushBy_77
    · have h83 := ib_ne k52
      have kc84 : ¬ ((fBeach (S 7) (S 8) (S 10) (fOn (S 7) (S 8) (S 10) (fShoved (S 7) (S 8) (S 10) a2 a3) a1)) = (0 : Int32)) := by have h0 := k52; rw [tt51] at h0; exact h0
      have b85 : Bd r50 (1) (1) := rf_nlo b50 (by decide : Bd 0 (0) (0)) h83
      refine lv_aload_n hx hb dX12_pushBy_33 rfl (lv_at hl 2 rfl) ?_
      refine lv_iload hx hb dX12_pushBy_34 (lv_at hl 1 rfl) ?_
      refine lv_aload_n hx hb dX12_pushBy_36 rfl (lv_at hl 2 rfl) ?_
      refine lv_iload_n hx hb dX12_pushBy_37 rfl (lv_at hl 3 rfl) ?_
      refine lv_iconst (v := 1) hx hb dX12_pushBy_38 (by decide) ?_
      refine lv_iadd hx hb dX12_pushBy_39 ?_
      refine lv_topi (fun z86 e87 => ?_)
      have t88 := ib_add e87 ba1 (by decide : Bd 1 (1) (1)) (by decide) (by decide)
      have b89 : Bd z86 (1) (100) := ib_addb t88 ba1 (by decide : Bd 1 (1) (1))
      have t88 : z86.toInt = a1.toInt + 1 := fold_add t88 rfl (by decide)
      have tt90 : z86 = (a1 + (1 : Int32)) := by rw [e87]
      refine xcVi E hs hQ hml hl.1 0 (gX12_phaseOf_0 l g ad hD S hI z86 (by omega)) mX12_phaseOf q1787 (by decide) c43 rfl rfl ⟨(Nat.le_of_ble_eq_true rfl), (Nat.le_of_ble_eq_true rfl)⟩ ⟨(Nat.le_of_ble_eq_true rfl), (Nat.le_of_ble_eq_true rfl)⟩ (Nat.le_of_ble_eq_true rfl) rfl dX12_pushBy_40 (fun r91 S91 H locs hp91 hQ _ => ?_)
      obtain ⟨rfl, b91, fg91⟩ := hp91
      have tt92 : r91 = (fPhase (S 7) (S 8) (S 10) (a1 + (1 : Int32))) := by rw [fg91, tt90]
      refine lv_iconst (v := (-1)) hx hb dX12_pushBy_43 (by decide) ?_
      refine xcVi E hs hQ hml hl.1 0 (gX12_partyOf_0 l g ad hD S hI r45 r91 (-1)) mX12_partyOf q1862 (by decide) c43 rfl rfl ⟨(Nat.le_of_ble_eq_true rfl), (Nat.le_of_ble_eq_true rfl)⟩ ⟨(Nat.le_of_ble_eq_true rfl), (Nat.le_of_ble_eq_true rfl)⟩ (Nat.le_of_ble_eq_true rfl) rfl dX12_pushBy_44 (fun r93 S93 H locs hp93 hQ _ => ?_)
      obtain ⟨rfl, fg93⟩ := hp93
      have tt94 : r93 = (fParty (S 7) (S 8) (S 10) (fOn (S 7) (S 8) (S 10) (fShoved (S 7) (S 8) (S 10) a2 a3) a1) (fPhase (S 7) (S 8) (S 10) (a1 + (1 : Int32))) ((-1) : Int32)) := by rw [fg93, tt46, tt92]
      refine lv_iload hx hb dX12_pushBy_47 (lv_at hl 6 rfl) ?_
      refine lv_icmp_ne (tgt := 57) hx hb dX12_pushBy_49 (by decide) (fun k95 => ?_) (fun k95 => ?_)
      · have h96 := ib_ne k95
        have kc97 : ¬ ((fParty (S 7) (S 8) (S 10) (fOn (S 7) (S 8) (S 10) (fShoved (S 7) (S 8) (S 10) a2 a3) a1) (fPhase (S 7) (S 8) (S 10) (a1 + (1 : Int32))) ((-1) : Int32)) = a4) := by have h0 := k95; rw [tt94] at h0; exact h0
        refine lv_ldc (v := 100000) hx hb E.2.2.1 (E.2.2.2.1 _ q1648) dX12_pushBy_57 ?_
        exact xri E hr hlk hQ (⟨rfl, (ib_wk (by decide : Bd 100000 (100000) (100000)) (by decide) (by decide)), (by rw [fPush, if_neg kc49, if_neg kc84, if_neg kc97])⟩) dX12_pushBy_59
      · have h98 := ib_eq k95
        have kc99 : (fParty (S 7) (S 8) (S 10) (fOn (S 7) (S 8) (S 10) (fShoved (S 7) (S 8) (S 10) a2 a3) a1) (fPhase (S 7) (S 8) (S 10) (a1 + (1 : Int32))) ((-1) : Int32)) = a4 := by have h0 := k95; rw [tt94] at h0; exact h0
        refine lv_iload hx hb dX12_pushBy_52 (lv_at hl 0 rfl) ?_
        refine lv_goto (tgt := 59) hx hb dX12_pushBy_54 (by decide) ?_
        exact xri E hr hlk hQ (⟨rfl, (ib_wk (by decide : Bd 1 (1) (1)) (by decide) (by decide)), (by rw [fPush, if_neg kc49, if_neg kc84, if_pos kc99])⟩) dX12_pushBy_59
  · have h100 := ib_eq k47
    have kc101 : a3 = (0 : Int32) := by have h0 := k47; exact h0
    have b102 : Bd a3 (0) (0) := ⟨((rf_eq (ib_full a3) (by decide : Bd 0 (0) (0)) h100).1).1, ((rf_eq (ib_full a3) (by decide : Bd 0 (0) (0)) h100).1).2⟩
    refine lv_iconst (v := 0) hx hb dX12_pushBy_17 (by decide) ?_
    refine lv_goto (tgt := 22) hx hb dX12_pushBy_18 (by decide) ?_
    refine lv_istore (lv' := [(6, .int 0), (5, .int r45), (0, .ref (ad 0)), (1, .int a1), (2, .int a2), (3, .int a3), (4, .int a4)]) hx hb dX12_pushBy_22 hl (by decide) rfl (fun ls hl => ?_)
    refine lv_aload_n hx hb dX12_pushBy_24 rfl (lv_at hl 2 rfl) ?_
    refine lv_iload hx hb dX12_pushBy_25 (lv_at hl 1 rfl) ?_
    refine xcVi E hs hQ hml hl.1 0 (gX12_isBeach_0 l g ad hD S hI r45) mX12_isBeach q1755 (by decide) c43 rfl rfl ⟨(Nat.le_of_ble_eq_true rfl), (Nat.le_of_ble_eq_true rfl)⟩ ⟨(Nat.le_of_ble_eq_true rfl), (Nat.le_of_ble_eq_true rfl)⟩ (Nat.le_of_ble_eq_true rfl) rfl dX12_pushBy_27 (fun r103 S103 H locs hp103 hQ _ => ?_)
    obtain ⟨rfl, b103, fg103⟩ := hp103
    have tt104 : r103 = (fBeach (S 7) (S 8) (S 10) (fOn (S 7) (S 8) (S 10) (fShoved (S 7) (S 8) (S 10) a2 a3) a1)) := by rw [fg103, tt46]
    refine lv_if_eq (tgt := 60) hx hb dX12_pushBy_30 (by decide) (fun k105 => ?_) (fun k105 => ?_)
    · have h106 := ib_eq k105
      have kc107 : (fBeach (S 7) (S 8) (S 10) (fOn (S 7) (S 8) (S 10) (fShoved (S 7) (S 8) (S 10) a2 a3) a1)) = (0 : Int32) := by have h0 := k105; rw [tt104] at h0; exact h0
      have b108 : Bd r103 (0) (0) := ⟨(b103).1, ((rf_eq b103 (by decide : Bd 0 (0) (0)) h106).1).2⟩
      refine lv_iload hx hb dX12_pushBy_60 (lv_at hl 0 rfl) ?_
      refine lv_aload_n hx hb dX12_pushBy_62 rfl (lv_at hl 2 rfl) ?_
      refine xget E hQ 0 (by decide) c43 rfl 28 (by decide) q1496 rfl dX12_pushBy_63 ?_
      refine lv_bipush (v := 12) hx hb dX12_pushBy_66 (by decide) ?_
      refine lv_iload_n hx hb dX12_pushBy_68 rfl (lv_at hl 3 rfl) ?_
      refine lv_iconst (v := 1) hx hb dX12_pushBy_69 (by decide) ?_
      refine lv_iadd hx hb dX12_pushBy_70 ?_
      refine lv_topi (fun z109 e110 => ?_)
      have t111 := ib_add e110 ba1 (by decide : Bd 1 (1) (1)) (by decide) (by decide)
      have b112 : Bd z109 (1) (100) := ib_addb t111 ba1 (by decide : Bd 1 (1) (1))
      have t111 : z109.toInt = a1.toInt + 1 := fold_add t111 rfl (by decide)
      have tt113 : z109 = (a1 + (1 : Int32)) := by rw [e110]
      refine lv_imul hx hb dX12_pushBy_71 ?_
      refine lv_topi (fun z114 e115 => ?_)
      have t116 := ib_cmul (q := 12) e115 (by decide) (by decide) b112 (by decide) (by decide)
      have b117 : Bd z114 (12) (1200) := ib_mulb t116 (by decide) b112
      have tt118 : z114 = ((12 : Int32) * (a1 + (1 : Int32))) := by rw [e115, tt113]
      refine lv_iload hx hb dX12_pushBy_72 (lv_at hl 1 rfl) ?_
      refine lv_iadd hx hb dX12_pushBy_74 ?_
      refine lv_topi (fun z119 e120 => ?_)
      have t121 := ib_add e120 b117 b45 (by decide) (by decide)
      have b122 : Bd z119 (12) (1211) := ib_addb t121 b117 b45
      have tt123 : z119 = (((12 : Int32) * (a1 + (1 : Int32))) + (fOn (S 7) (S 8) (S 10) (fShoved (S 7) (S 8) (S 10) a2 a3) a1)) := by rw [e120, tt118, tt46]
      obtain ⟨f124, c125, b126⟩ := invM_16 hI
      refine xiald E hQ 16 (by decide) c125 (ib_in b122 (by decide) (by decide)) dX12_pushBy_75 ?_
      refine lv_topi (fun z127 e128 => ?_)
      have b129 : Bd z127 (0) (100000) := (by rw [e128]; exact b126 _)
      have tt130 : z127 = (arr (S 16) (((12 : Int32) * (a1 + (1 : Int32))) + (fOn (S 7) (S 8) (S 10) (fShoved (S 7) (S 8) (S 10) a2 a3) a1)).toNatClampNeg) := by rw [e128, arr_of c125, tt123]
      refine lv_iadd hx hb dX12_pushBy_76 ?_
      refine lv_topi (fun z131 e132 => ?_)
      have t133 := ib_add e132 (by decide : Bd 0 (0) (0)) b129 (by decide) (by decide)
      have b134 : Bd z131 (0) (100000) := ib_addb t133 (by decide : Bd 0 (0) (0)) b129
      have t133 : z131.toInt = 0 + z127.toInt := fold_add t133 (by decide) rfl
      have tt135 : z131 = ((0 : Int32) + (arr (S 16) (((12 : Int32) * (a1 + (1 : Int32))) + (fOn (S 7) (S 8) (S 10) (fShoved (S 7) (S 8) (S 10) a2 a3) a1)).toNatClampNeg)) := by rw [e132, tt130]
      exact xri E hr hlk hQ (⟨rfl, (ib_wk b134 (by decide) (by decide)), (by rw [fPush, if_pos kc101, if_pos kc107]; exact tt135)⟩) dX12_pushBy_77
    · have h136 := ib_ne k105
      have kc137 : ¬ ((fBeach (S 7) (S 8) (S 10) (fOn (S 7) (S 8) (S 10) (fShoved (S 7) (S 8) (S 10) a2 a3) a1)) = (0 : Int32)) := by have h0 := k105; rw [tt104] at h0; exact h0
      have b138 : Bd r103 (1) (1) := rf_nlo b103 (by decide : Bd 0 (0) (0)) h136
      refine lv_aload_n hx hb dX12_pushBy_33 rfl (lv_at hl 2 rfl) ?_
      refine lv_iload hx hb dX12_pushBy_34 (lv_at hl 1 rfl) ?_
      refine lv_aload_n hx hb dX12_pushBy_36 rfl (lv_at hl 2 rfl) ?_
      refine lv_iload_n hx hb dX12_pushBy_37 rfl (lv_at hl 3 rfl) ?_
      refine lv_iconst (v := 1) hx hb dX12_pushBy_38 (by decide) ?_
      refine lv_iadd hx hb dX12_pushBy_39 ?_
      refine lv_topi (fun z139 e140 => ?_)
      have t141 := ib_add e140 ba1 (by decide : Bd 1 (1) (1)) (by decide) (by decide)
      have b142 : Bd z139 (1) (100) := ib_addb t141 ba1 (by decide : Bd 1 (1) (1))
      have t141 : z139.toInt = a1.toInt + 1 := fold_add t141 rfl (by decide)
      have tt143 : z139 = (a1 + (1 : Int32)) := by rw [e140]
      refine xcVi E hs hQ hml hl.1 0 (gX12_phaseOf_0 l g ad hD S hI z139 (by omega)) mX12_phaseOf q1787 (by decide) c43 rfl rfl ⟨(Nat.le_of_ble_eq_true rfl), (Nat.le_of_ble_eq_true rfl)⟩ ⟨(Nat.le_of_ble_eq_true rfl), (Nat.le_of_ble_eq_true rfl)⟩ (Nat.le_of_ble_eq_true rfl) rfl dX12_pushBy_40 (fun r144 S144 H locs hp144 hQ _ => ?_)
      obtain ⟨rfl, b144, fg144⟩ := hp144
      have tt145 : r144 = (fPhase (S 7) (S 8) (S 10) (a1 + (1 : Int32))) := by rw [fg144, tt143]
      refine lv_iconst (v := (-1)) hx hb dX12_pushBy_43 (by decide) ?_
      refine xcVi E hs hQ hml hl.1 0 (gX12_partyOf_0 l g ad hD S hI r45 r144 (-1)) mX12_partyOf q1862 (by decide) c43 rfl rfl ⟨(Nat.le_of_ble_eq_true rfl), (Nat.le_of_ble_eq_true rfl)⟩ ⟨(Nat.le_of_ble_eq_true rfl), (Nat.le_of_ble_eq_true rfl)⟩ (Nat.le_of_ble_eq_true rfl) rfl dX12_pushBy_44 (fun r146 S146 H locs hp146 hQ _ => ?_)
      obtain ⟨rfl, fg146⟩ := hp146
      have tt147 : r146 = (fParty (S 7) (S 8) (S 10) (fOn (S 7) (S 8) (S 10) (fShoved (S 7) (S 8) (S 10) a2 a3) a1) (fPhase (S 7) (S 8) (S 10) (a1 + (1 : Int32))) ((-1) : Int32)) := by rw [fg146, tt46, tt145]
      refine lv_iload hx hb dX12_pushBy_47 (lv_at hl 6 rfl) ?_
      refine lv_icmp_ne (tgt := 57) hx hb dX12_pushBy_49 (by decide) (fun k148 => ?_) (fun k148 => ?_)
      · have h149 := ib_ne k148
        have kc150 : ¬ ((fParty (S 7) (S 8) (S 10) (fOn (S 7) (S 8) (S 10) (fShoved (S 7) (S 8) (S 10) a2 a3) a1) (fPhase (S 7) (S 8) (S 10) (a1 + (1 : Int32))) ((-1) : Int32)) = a4) := by have h0 := k148; rw [tt147] at h0; exact h0
        refine lv_ldc (v := 100000) hx hb E.2.2.1 (E.2.2.2.1 _ q1648) dX12_pushBy_57 ?_
        exact xri E hr hlk hQ (⟨rfl, (ib_wk (by decide : Bd 100000 (100000) (100000)) (by decide) (by decide)), (by rw [fPush, if_pos kc101, if_neg kc137, if_neg kc150])⟩) dX12_pushBy_59
      · have h151 := ib_eq k148
        have kc152 : (fParty (S 7) (S 8) (S 10) (fOn (S 7) (S 8) (S 10) (fShoved (S 7) (S 8) (S 10) a2 a3) a1) (fPhase (S 7) (S 8) (S 10) (a1 + (1 : Int32))) ((-1) : Int32)) = a4 := by have h0 := k148; rw [tt147] at h0; exact h0
        refine lv_iload hx hb dX12_pushBy_52 (lv_at hl 0 rfl) ?_
        refine lv_goto (tgt := 59) hx hb dX12_pushBy_54 (by decide) ?_
        exact xri E hr hlk hQ (⟨rfl, (ib_wk (by decide : Bd 0 (0) (0)) (by decide) (by decide)), (by rw [fPush, if_pos kc101, if_neg kc137, if_pos kc152])⟩) dX12_pushBy_59
set_option maxHeartbeats 4000000 in
set_option maxRecDepth 100000 in
theorem gX12_first_0 (l : Launch) (g : GG) (ad : Nat → Nat) (hD : Dj ad 20) (S : SS) (hI : InvM g ad S) (a1 : Int32) (ba1 : Bd a1 (0) (7)) : Met l yX12_first (wG (.code yX12_first cX12_first 2 (some .int))) (Rm 0) (XPre g ad 20 S [.ref (ad 0), .int a1]) (va_Qi (fun r S' => S = S' ∧ Bd r (0) (1199)) (QB g ad 20) (FA ad 20)) 0 0 (FA ad 20) := by
  refine xmet cX12_first "EbbWreckModel" (by decide) rfl (Nat.le_of_ble_eq_true rfl) (fun p e s m below meth c E hr hlk hml hQ ls hl => ?_)
  have hx := E.1
  have hb := E.2.1
  have hs : Sp ad 20 (FA ad 20) := Sp.fa hD
  have hl : lv_has ls 2 [(0, .ref (ad 0)), (1, .int a1)] := hl
  refine lv_bipush (v := 12) hx hb dX12_first_0 (by decide) ?_
  refine lv_aload_n hx hb dX12_first_2 rfl (lv_at hl 0 rfl) ?_
  obtain ⟨v1, v2, v4, v6, v8, v9, w10, v11, v13, v14, v15, v16, v18, v20, v22, v24, v26, v27, v28, c29, b3, b5, b7, b12, b17, b19, b21, b23, b25⟩ := invM_0 hI
  have c29 : S 0 = .inr (12, [.int v1, .ref (ad 1), .ref (ad 2), .ref (ad 3), .ref (ad 4), .ref (ad 5), .int v2, .int v4, .int v6, .int v8, .int v9, .long w10, .int v11, .int v13, .int v14, .int v15, .ref (ad 6), .ref (ad 7), .ref (ad 8), .ref (ad 9), .ref (ad 10), .ref (ad 11), .ref (ad 12), .ref (ad 13), .ref (ad 14), .ref (ad 15), .int v16, .int v18, .ref (ad 16), .int v20, .int v22, .int v24, .int v26, .int v27, .ref (ad 17), .ref (ad 18), .int v28, .ref (ad 19)]) := c29
  refine xget E hQ 0 (by decide) c29 rfl 19 (by decide) q1487 rfl dX12_first_3 ?_
  refine lv_iconst (v := 3) hx hb dX12_first_6 (by decide) ?_
  refine lv_iload_n hx hb dX12_first_7 rfl (lv_at hl 1 rfl) ?_
  refine lv_imul hx hb dX12_first_8 ?_
  refine lv_topi (fun z30 e31 => ?_)
  have t32 := ib_cmul (q := 3) e31 (by decide) (by decide) ba1 (by decide) (by decide)
  have b33 : Bd z30 (0) (21) := ib_mulb t32 (by decide) ba1
  refine lv_iconst (v := 2) hx hb dX12_first_9 (by decide) ?_
  refine lv_iadd hx hb dX12_first_10 ?_
  refine lv_topi (fun z34 e35 => ?_)
  have t36 := ib_add e35 b33 (by decide : Bd 2 (2) (2)) (by decide) (by decide)
  have b37 : Bd z34 (2) (23) := ib_addb t36 b33 (by decide : Bd 2 (2) (2))
  have t36 : z34.toInt = z30.toInt + 2 := fold_add t36 rfl (by decide)
  obtain ⟨f38, c39, b40⟩ := invM_9 hI
  refine xiald E hQ 9 (by decide) c39 (ib_in b37 (by decide) (by decide)) dX12_first_11 ?_
  refine lv_topi (fun z41 e42 => ?_)
  have b43 : Bd z41 (0) (99) := (by rw [e42]; exact b40.2 _ (by rw [clampN b37]; omega))
  refine lv_imul hx hb dX12_first_12 ?_
  refine lv_topi (fun z44 e45 => ?_)
  have t46 := ib_cmul (q := 12) e45 (by decide) (by decide) b43 (by decide) (by decide)
  have b47 : Bd z44 (0) (1188) := ib_mulb t46 (by decide) b43
  refine lv_aload_n hx hb dX12_first_13 rfl (lv_at hl 0 rfl) ?_
  refine xget E hQ 0 (by decide) c29 rfl 19 (by decide) q1487 rfl dX12_first_14 ?_
  refine lv_iconst (v := 3) hx hb dX12_first_17 (by decide) ?_
  refine lv_iload_n hx hb dX12_first_18 rfl (lv_at hl 1 rfl) ?_
  refine lv_imul hx hb dX12_first_19 ?_
  refine lv_topi (fun z48 e49 => ?_)
  have t50 := ib_cmul (q := 3) e49 (by decide) (by decide) ba1 (by decide) (by decide)
  have b51 : Bd z48 (0) (21) := ib_mulb t50 (by decide) ba1
  refine lv_iconst (v := 1) hx hb dX12_first_20 (by decide) ?_
  refine lv_iadd hx hb dX12_first_21 ?_
  refine lv_topi (fun z52 e53 => ?_)
  have t54 := ib_add e53 b51 (by decide : Bd 1 (1) (1)) (by decide) (by decide)
  have b55 : Bd z52 (1) (22) := ib_addb t54 b51 (by decide : Bd 1 (1) (1))
  have t54 : z52.toInt = z48.toInt + 1 := fold_add t54 rfl (by decide)
  refine xiald E hQ 9 (by decide) c39 (ib_in b55 (by decide) (by decide)) dX12_first_22 ?_
  refine lv_topi (fun z56 e57 => ?_)
  have b58 : Bd z56 (0) (11) := (by rw [e57]; exact b40.1 _ (by rw [clampN b55]; omega))
  refine lv_iadd hx hb dX12_first_23 ?_
  refine lv_topi (fun z59 e60 => ?_)
  have t61 := ib_add e60 b47 b58 (by decide) (by decide)
  have b62 : Bd z59 (0) (1199) := ib_addb t61 b47 b58
  exact xri E hr hlk hQ (⟨rfl, b62⟩) dX12_first_24
set_option maxHeartbeats 4000000 in
set_option maxRecDepth 100000 in
theorem gX12_isPush_0 (l : Launch) (g : GG) (ad : Nat → Nat) (hD : Dj ad 20) (S : SS) (hI : InvM g ad S) (a1 : Int32) (a2 : Int32) : Met l yX12_isPush (wG (.code yX12_isPush cX12_isPush 3 (some .boolean))) (Rm 2) (XPre g ad 20 S [.ref (ad 0), .int a1, .int a2]) (va_Qi (fun r S' => S = S' ∧ Bd r (0) (1) ∧ ((r.toInt + (-1) < 0 ∨ (0 ≤ elm (S 6) 0 + (-1) ∧ 0 ≤ a1.toInt ∧ 0 ≤ elm (S 7) 6 + (-1) * a1.toInt + (-1))))) (QB g ad 20) (FA ad 20)) 0 0 (FA ad 20) := by
  refine xmet cX12_isPush "EbbWreckModel" (by decide) rfl (Nat.le_of_ble_eq_true rfl) (fun p e s m below meth c E hr hlk hml hQ ls hl => ?_)
  have hx := E.1
  have hb := E.2.1
  have hs : Sp ad 20 (FA ad 20) := Sp.fa hD
  have hl : lv_has ls 3 [(0, .ref (ad 0)), (1, .int a1), (2, .int a2)] := hl
  obtain ⟨f1, c2, b3⟩ := invM_6 hI
  obtain ⟨v4, ee5⟩ : ∃ z : Int32, f1 0 = z := ⟨_, rfl⟩
  have b6 : Bd v4 (0) (40000) := (by rw [← ee5]; exact b3 0)
  obtain ⟨f7, c8, b9⟩ := invM_7 hI
  obtain ⟨v10, ee11⟩ : ∃ z : Int32, f7 6 = z := ⟨_, rfl⟩
  have b12 : Bd v10 (0) (8) := (by rw [← ee11]; exact b9.2.2.2.2.1 6 (by decide))
  refine lv_aload_n hx hb dX12_isPush_0 rfl (lv_at hl 0 rfl) ?_
  refine lv_iload_n hx hb dX12_isPush_1 rfl (lv_at hl 1 rfl) ?_
  obtain ⟨v14, v15, v17, v19, v21, v22, w23, v24, v26, v27, v28, v29, v31, v33, v35, v37, v39, v40, v41, c42, b16, b18, b20, b25, b30, b32, b34, b36, b38⟩ := invM_0 hI
  have c42 : S 0 = .inr (12, [.int v14, .ref (ad 1), .ref (ad 2), .ref (ad 3), .ref (ad 4), .ref (ad 5), .int v15, .int v17, .int v19, .int v21, .int v22, .long w23, .int v24, .int v26, .int v27, .int v28, .ref (ad 6), .ref (ad 7), .ref (ad 8), .ref (ad 9), .ref (ad 10), .ref (ad 11), .ref (ad 12), .ref (ad 13), .ref (ad 14), .ref (ad 15), .int v29, .int v31, .ref (ad 16), .int v33, .int v35, .int v37, .int v39, .int v40, .ref (ad 17), .ref (ad 18), .int v41, .ref (ad 19)]) := c42
  refine xcVi E hs hQ hml hl.1 0 (gX12_isThing_0 l g ad hD S hI a1) mX12_isThing q1766 (by decide) c42 rfl rfl ⟨(Nat.le_of_ble_eq_true rfl), (Nat.le_of_ble_eq_true rfl)⟩ ⟨(Nat.le_of_ble_eq_true rfl), (Nat.le_of_ble_eq_true rfl)⟩ (Nat.le_of_ble_eq_true rfl) rfl dX12_isPush_2 (fun r13 S13 H locs hp13 hQ _ => ?_)
  obtain ⟨rfl, b13, g13_0⟩ := hp13
  have q43 : elm (S 7) 6 = v10.toInt := (elm_of c8 6).trans (congrArg Int32.toInt (ee11))
  refine lv_if_eq (tgt := 20) hx hb dX12_isPush_5 (by decide) (fun k44 => ?_) (fun k44 => ?_)
  · have h45 := ib_eq k44
    have b46 : Bd r13 (0) (0) := ⟨(b13).1, ((rf_eq b13 (by decide : Bd 0 (0) (0)) h45).1).2⟩
    clear g13_0
    refine lv_iconst (v := 0) hx hb dX12_isPush_20 (by decide) ?_
    have q47 : elm (S 6) 0 = v4.toInt := (elm_of c2 0).trans (congrArg Int32.toInt (ee5))
    have q48 : (0 : Int32).toInt = 0 := by decide
    exact xrz E hr hlk hQ rfl (⟨rfl, (ib_wk (by decide : Bd 0 (0) (0)) (by decide) (by decide)), Or.inl (by omega)⟩) dX12_isPush_21
  · have h49 := ib_ne k44
    have b50 : Bd r13 (1) (1) := rf_nlo b13 (by decide : Bd 0 (0) (0)) h49
    have g51 := g13_0.resolve_left (by omega)
    clear g13_0
    have b52 : Bd a1 (0) (7) := ⟨by omega, by omega⟩
    have b53 : Bd v10 (1) (8) := ⟨by omega, (b12).2⟩
    refine lv_aload_n hx hb dX12_isPush_8 rfl (lv_at hl 0 rfl) ?_
    refine lv_iload_n hx hb dX12_isPush_9 rfl (lv_at hl 2 rfl) ?_
    refine xcVi E hs hQ hml hl.1 0 (gX12_isParty_0 l g ad hD S hI a2) mX12_isParty q1874 (by decide) c42 rfl rfl ⟨(Nat.le_of_ble_eq_true rfl), (Nat.le_of_ble_eq_true rfl)⟩ ⟨(Nat.le_of_ble_eq_true rfl), (Nat.le_of_ble_eq_true rfl)⟩ (Nat.le_of_ble_eq_true rfl) rfl dX12_isPush_10 (fun r54 S54 H locs hp54 hQ _ => ?_)
    obtain ⟨rfl, b54, g54_0⟩ := hp54
    have q55 : elm (S 6) 0 = v4.toInt := (elm_of c2 0).trans (congrArg Int32.toInt (ee5))
    refine lv_if_eq (tgt := 20) hx hb dX12_isPush_13 (by decide) (fun k56 => ?_) (fun k56 => ?_)
    · have h57 := ib_eq k56
      have b58 : Bd r54 (0) (0) := ⟨(b54).1, ((rf_eq b54 (by decide : Bd 0 (0) (0)) h57).1).2⟩
      clear g54_0
      refine lv_iconst (v := 0) hx hb dX12_isPush_20 (by decide) ?_
      have q59 : (0 : Int32).toInt = 0 := by decide
      exact xrz E hr hlk hQ rfl (⟨rfl, (ib_wk (by decide : Bd 0 (0) (0)) (by decide) (by decide)), Or.inl (by omega)⟩) dX12_isPush_21
    · have h60 := ib_ne k56
      have b61 : Bd r54 (1) (1) := rf_nlo b54 (by decide : Bd 0 (0) (0)) h60
      have g62 := g54_0.resolve_left (by omega)
      clear g54_0
      have b63 : Bd v4 (1) (40000) := ⟨by omega, (b6).2⟩
      have b64 : Bd a2 (0) (5) := ⟨by omega, by omega⟩
      refine lv_iconst (v := 1) hx hb dX12_isPush_16 (by decide) ?_
      refine lv_goto (tgt := 21) hx hb dX12_isPush_17 (by decide) ?_
      have q65 : (1 : Int32).toInt = 1 := by decide
      exact xrz E hr hlk hQ rfl (⟨rfl, (ib_wk (by decide : Bd 1 (1) (1)) (by decide) (by decide)), Or.inr ⟨by omega, by omega, by omega⟩⟩) dX12_isPush_21
def fWard (e7 e8 e10 e16 : va_E) (a1 : Int32) (a2 : Int32) (a3 : Int32) (a4 : Int32) : Int32 := if a3 = (0 : Int32) then (if (fBeach e7 e8 e10 (fOn e7 e8 e10 (fShoved e7 e8 e10 a2 a3) a1)) = (0 : Int32) then ((0 : Int32) + (arr e16 (((12 : Int32) * (a1 + (1 : Int32))) + (fOn e7 e8 e10 (fShoved e7 e8 e10 a2 a3) a1)).toNatClampNeg)) else (if (fParty e7 e8 e10 (fOn e7 e8 e10 (fShoved e7 e8 e10 a2 a3) a1) (fPhase e7 e8 e10 (a1 + (1 : Int32))) ((-1) : Int32)) = a4 then (100000 : Int32) else (0 : Int32))) else (if (fBeach e7 e8 e10 (fOn e7 e8 e10 (fShoved e7 e8 e10 a2 a3) a1)) = (0 : Int32) then ((1 : Int32) + (arr e16 (((12 : Int32) * (a1 + (1 : Int32))) + (fOn e7 e8 e10 (fShoved e7 e8 e10 a2 a3) a1)).toNatClampNeg)) else (if (fParty e7 e8 e10 (fOn e7 e8 e10 (fShoved e7 e8 e10 a2 a3) a1) (fPhase e7 e8 e10 (a1 + (1 : Int32))) ((-1) : Int32)) = a4 then (100000 : Int32) else (1 : Int32)))
set_option maxHeartbeats 4000000 in
set_option maxRecDepth 100000 in
theorem gX12_wardBy_0 (l : Launch) (g : GG) (ad : Nat → Nat) (hD : Dj ad 20) (S : SS) (hI : InvM g ad S) (a1 : Int32) (a2 : Int32) (a3 : Int32) (a4 : Int32) (ba1 : Bd a1 (0) (99)) (ba2 : Bd a2 (0) (11)) (hq1 : 0 ≤ elm (S 7) 0 + (-1)) (hq2 : 0 ≤ elm (S 7) 1 + (-1)) : Met l yX12_wardBy (wG (.code yX12_wardBy cX12_wardBy 7 (some .int))) (Rm 3) (XPre g ad 20 S [.ref (ad 0), .int a1, .int a2, .int a3, .int a4]) (va_Qi (fun r S' => S = S' ∧ Bd r (0) (100001) ∧ r = fWard (S 7) (S 8) (S 10) (S 16) a1 a2 a3 a4) (QB g ad 20) (FA ad 20)) 0 0 (FA ad 20) := by
  refine xmet cX12_wardBy "EbbWreckModel" (by decide) rfl (Nat.le_of_ble_eq_true rfl) (fun p e s m below meth c E hr hlk hml hQ ls hl => ?_)
  have hx := E.1
  have hb := E.2.1
  have hs : Sp ad 20 (FA ad 20) := Sp.fa hD
  have hl : lv_has ls 7 [(0, .ref (ad 0)), (1, .int a1), (2, .int a2), (3, .int a3), (4, .int a4)] := hl
  obtain ⟨f1, c2, b3⟩ := invM_7 hI
  obtain ⟨v4, ee5⟩ : ∃ z : Int32, f1 0 = z := ⟨_, rfl⟩
  have b6 : Bd v4 (0) (12) := (by rw [← ee5]; exact b3.1 0 (by decide))
  obtain ⟨v7, ee8⟩ : ∃ z : Int32, f1 1 = z := ⟨_, rfl⟩
  have b9 : Bd v7 (0) (12) := (by rw [← ee8]; exact b3.2.1 1 (by decide))
  have q10 : elm (S 7) 0 = v4.toInt := (elm_of c2 0).trans (congrArg Int32.toInt (ee5))
  have b11 : Bd v4 (1) (12) := ⟨by omega, (b6).2⟩
  have q12 : elm (S 7) 1 = v7.toInt := (elm_of c2 1).trans (congrArg Int32.toInt (ee8))
  have b13 : Bd v7 (1) (12) := ⟨by omega, (b9).2⟩
  refine lv_aload_n hx hb dX12_wardBy_0 rfl (lv_at hl 0 rfl) ?_
  refine lv_aload_n hx hb dX12_wardBy_1 rfl (lv_at hl 0 rfl) ?_
  refine lv_iload_n hx hb dX12_wardBy_2 rfl (lv_at hl 2 rfl) ?_
  refine lv_iload_n hx hb dX12_wardBy_3 rfl (lv_at hl 3 rfl) ?_
  obtain ⟨v15, v16, v18, v20, v22, v23, w24, v25, v27, v28, v29, v30, v32, v34, v36, v38, v40, v41, v42, c43, b17, b19, b21, b26, b31, b33, b35, b37, b39⟩ := invM_0 hI
  have c43 : S 0 = .inr (12, [.int v15, .ref (ad 1), .ref (ad 2), .ref (ad 3), .ref (ad 4), .ref (ad 5), .int v16, .int v18, .int v20, .int v22, .int v23, .long w24, .int v25, .int v27, .int v28, .int v29, .ref (ad 6), .ref (ad 7), .ref (ad 8), .ref (ad 9), .ref (ad 10), .ref (ad 11), .ref (ad 12), .ref (ad 13), .ref (ad 14), .ref (ad 15), .int v30, .int v32, .ref (ad 16), .int v34, .int v36, .int v38, .int v40, .int v41, .ref (ad 17), .ref (ad 18), .int v42, .ref (ad 19)]) := c43
  refine xcVi E hs hQ hml hl.1 0 (gX12_shoved_0 l g ad hD S hI a2 a3 ba2 (by omega)) mX12_shoved q1838 (by decide) c43 rfl rfl ⟨(Nat.le_of_ble_eq_true rfl), (Nat.le_of_ble_eq_true rfl)⟩ ⟨(Nat.le_of_ble_eq_true rfl), (Nat.le_of_ble_eq_true rfl)⟩ (Nat.le_of_ble_eq_true rfl) rfl dX12_wardBy_4 (fun r14 S14 H locs hp14 hQ _ => ?_)
  obtain ⟨rfl, b14, fg14⟩ := hp14
  have tt44 : r14 = (fShoved (S 7) (S 8) (S 10) a2 a3) := by rw [fg14]
  refine lv_iload_n hx hb dX12_wardBy_7 rfl (lv_at hl 1 rfl) ?_
  refine xcVi E hs hQ hml hl.1 0 (gX12_on_0 l g ad hD S hI r14 a1 b14 (by omega) (by omega)) mX12_on q1804 (by decide) c43 rfl rfl ⟨(Nat.le_of_ble_eq_true rfl), (Nat.le_of_ble_eq_true rfl)⟩ ⟨(Nat.le_of_ble_eq_true rfl), (Nat.le_of_ble_eq_true rfl)⟩ (Nat.le_of_ble_eq_true rfl) rfl dX12_wardBy_8 (fun r45 S45 H locs hp45 hQ _ => ?_)
  obtain ⟨rfl, b45, g45_0, fg45⟩ := hp45
  have tt46 : r45 = (fOn (S 7) (S 8) (S 10) (fShoved (S 7) (S 8) (S 10) a2 a3) a1) := by rw [fg45, tt44]
  refine lv_istore (lv' := [(5, .int r45), (0, .ref (ad 0)), (1, .int a1), (2, .int a2), (3, .int a3), (4, .int a4)]) hx hb dX12_wardBy_11 hl (by decide) rfl (fun ls hl => ?_)
  refine lv_iload_n hx hb dX12_wardBy_13 rfl (lv_at hl 4 rfl) ?_
  refine lv_if_ne (tgt := 21) hx hb dX12_wardBy_14 (by decide) (fun k47 => ?_) (fun k47 => ?_)
  · have h48 := ib_ne k47
    have kc49 : ¬ (a3 = (0 : Int32)) := by have h0 := k47; exact h0
    refine lv_iconst (v := 1) hx hb dX12_wardBy_21 (by decide) ?_
    refine lv_istore (lv' := [(6, .int 1), (5, .int r45), (0, .ref (ad 0)), (1, .int a1), (2, .int a2), (3, .int a3), (4, .int a4)]) hx hb dX12_wardBy_22 hl (by decide) rfl (fun ls hl => ?_)
    refine lv_aload_n hx hb dX12_wardBy_24 rfl (lv_at hl 2 rfl) ?_
    refine lv_iload hx hb dX12_wardBy_25 (lv_at hl 1 rfl) ?_
    refine xcVi E hs hQ hml hl.1 0 (gX12_isBeach_0 l g ad hD S hI r45) mX12_isBeach q1755 (by decide) c43 rfl rfl ⟨(Nat.le_of_ble_eq_true rfl), (Nat.le_of_ble_eq_true rfl)⟩ ⟨(Nat.le_of_ble_eq_true rfl), (Nat.le_of_ble_eq_true rfl)⟩ (Nat.le_of_ble_eq_true rfl) rfl dX12_wardBy_27 (fun r50 S50 H locs hp50 hQ _ => ?_)
    obtain ⟨rfl, b50, fg50⟩ := hp50
    have tt51 : r50 = (fBeach (S 7) (S 8) (S 10) (fOn (S 7) (S 8) (S 10) (fShoved (S 7) (S 8) (S 10) a2 a3) a1)) := by rw [fg50, tt46]
    refine lv_if_eq (tgt := 60) hx hb dX12_wardBy_30 (by decide) (fun k52 => ?_) (fun k52 => ?_)
    · have h53 := ib_eq k52
      have kc54 : (fBeach (S 7) (S 8) (S 10) (fOn (S 7) (S 8) (S 10) (fShoved (S 7) (S 8) (S 10) a2 a3) a1)) = (0 : Int32) := by have h0 := k52; rw [tt51] at h0; exact h0
      have b55 : Bd r50 (0) (0) := ⟨(b50).1, ((rf_eq b50 (by decide : Bd 0 (0) (0)) h53).1).2⟩
      refine lv_iload hx hb dX12_wardBy_60 (lv_at hl 0 rfl) ?_
      refine lv_aload_n hx hb dX12_wardBy_62 rfl (lv_at hl 2 rfl) ?_
      refine xget E hQ 0 (by decide) c43 rfl 28 (by decide) q1496 rfl dX12_wardBy_63 ?_
      refine lv_bipush (v := 12) hx hb dX12_wardBy_66 (by decide) ?_
      refine lv_iload_n hx hb dX12_wardBy_68 rfl (lv_at hl 3 rfl) ?_
      refine lv_iconst (v := 1) hx hb dX12_wardBy_69 (by decide) ?_
      refine lv_iadd hx hb dX12_wardBy_70 ?_
      refine lv_topi (fun z56 e57 => ?_)
      have t58 := ib_add e57 ba1 (by decide : Bd 1 (1) (1)) (by decide) (by decide)
      have b59 : Bd z56 (1) (100) := ib_addb t58 ba1 (by decide : Bd 1 (1) (1))
      have t58 : z56.toInt = a1.toInt + 1 := fold_add t58 rfl (by decide)
      have tt60 : z56 = (a1 + (1 : Int32)) := by rw [e57]
      refine lv_imul hx hb dX12_wardBy_71 ?_
      refine lv_topi (fun z61 e62 => ?_)
      have t63 := ib_cmul (q := 12) e62 (by decide) (by decide) b59 (by decide) (by decide)
      have b64 : Bd z61 (12) (1200) := ib_mulb t63 (by decide) b59
      have tt65 : z61 = ((12 : Int32) * (a1 + (1 : Int32))) := by rw [e62, tt60]
      refine lv_iload hx hb dX12_wardBy_72 (lv_at hl 1 rfl) ?_
      refine lv_iadd hx hb dX12_wardBy_74 ?_
      refine lv_topi (fun z66 e67 => ?_)
      have t68 := ib_add e67 b64 b45 (by decide) (by decide)
      have b69 : Bd z66 (12) (1211) := ib_addb t68 b64 b45
      have tt70 : z66 = (((12 : Int32) * (a1 + (1 : Int32))) + (fOn (S 7) (S 8) (S 10) (fShoved (S 7) (S 8) (S 10) a2 a3) a1)) := by rw [e67, tt65, tt46]
      obtain ⟨f71, c72, b73⟩ := invM_16 hI
      refine xiald E hQ 16 (by decide) c72 (ib_in b69 (by decide) (by decide)) dX12_wardBy_75 ?_
      refine lv_topi (fun z74 e75 => ?_)
      have b76 : Bd z74 (0) (100000) := (by rw [e75]; exact b73 _)
      have tt77 : z74 = (arr (S 16) (((12 : Int32) * (a1 + (1 : Int32))) + (fOn (S 7) (S 8) (S 10) (fShoved (S 7) (S 8) (S 10) a2 a3) a1)).toNatClampNeg) := by rw [e75, arr_of c72, tt70]
      refine lv_iadd hx hb dX12_wardBy_76 ?_
      refine lv_topi (fun z78 e79 => ?_)
      have t80 := ib_add e79 (by decide : Bd 1 (1) (1)) b76 (by decide) (by decide)
      have b81 : Bd z78 (1) (100001) := ib_addb t80 (by decide : Bd 1 (1) (1)) b76
      have t80 : z78.toInt = 1 + z74.toInt := fold_add t80 (by decide) rfl
      have tt82 : z78 = ((1 : Int32) + (arr (S 16) (((12 : Int32) * (a1 + (1 : Int32))) + (fOn (S 7) (S 8) (S 10) (fShoved (S 7) (S 8) (S 10) a2 a3) a1)).toNatClampNeg)) := by rw [e79, tt77]
      exact xri E hr hlk hQ (⟨rfl, (ib_wk b81 (by decide) (by decide)), (by rw [fWard, if_neg kc49, if_pos kc54]; exact tt82)⟩) dX12_wardBy_77
    · have h83 := ib_ne k52
      have kc84 : ¬ ((fBeach (S 7) (S 8) (S 10) (fOn (S 7) (S 8) (S 10) (fShoved (S 7) (S 8) (S 10) a2 a3) a1)) = (0 : Int32)) := by have h0 := k52; rw [tt51] at h0; exact h0
      have b85 : Bd r50 (1) (1) := rf_nlo b50 (by decide : Bd 0 (0) (0)) h83
      refine lv_aload_n hx hb dX12_wardBy_33 rfl (lv_at hl 2 rfl) ?_
      refine lv_iload hx hb dX12_wardBy_34 (lv_at hl 1 rfl) ?_
      refine lv_aload_n hx hb dX12_wardBy_36 rfl (lv_at hl 2 rfl) ?_
      refine lv_iload_n hx hb dX12_wardBy_37 rfl (lv_at hl 3 rfl) ?_
      refine lv_iconst (v := 1) hx hb dX12_wardBy_38 (by decide) ?_
      refine lv_iadd hx hb dX12_wardBy_39 ?_
      refine lv_topi (fun z86 e87 => ?_)
      have t88 := ib_add e87 ba1 (by decide : Bd 1 (1) (1)) (by decide) (by decide)
      have b89 : Bd z86 (1) (100) := ib_addb t88 ba1 (by decide : Bd 1 (1) (1))
      have t88 : z86.toInt = a1.toInt + 1 := fold_add t88 rfl (by decide)
      have tt90 : z86 = (a1 + (1 : Int32)) := by rw [e87]
      refine xcVi E hs hQ hml hl.1 0 (gX12_phaseOf_0 l g ad hD S hI z86 (by omega)) mX12_phaseOf q1787 (by decide) c43 rfl rfl ⟨(Nat.le_of_ble_eq_true rfl), (Nat.le_of_ble_eq_true rfl)⟩ ⟨(Nat.le_of_ble_eq_true rfl), (Nat.le_of_ble_eq_true rfl)⟩ (Nat.le_of_ble_eq_true rfl) rfl dX12_wardBy_40 (fun r91 S91 H locs hp91 hQ _ => ?_)
      obtain ⟨rfl, b91, fg91⟩ := hp91
      have tt92 : r91 = (fPhase (S 7) (S 8) (S 10) (a1 + (1 : Int32))) := by rw [fg91, tt90]
      refine lv_iconst (v := (-1)) hx hb dX12_wardBy_43 (by decide) ?_
      refine xcVi E hs hQ hml hl.1 0 (gX12_partyOf_0 l g ad hD S hI r45 r91 (-1)) mX12_partyOf q1862 (by decide) c43 rfl rfl ⟨(Nat.le_of_ble_eq_true rfl), (Nat.le_of_ble_eq_true rfl)⟩ ⟨(Nat.le_of_ble_eq_true rfl), (Nat.le_of_ble_eq_true rfl)⟩ (Nat.le_of_ble_eq_true rfl) rfl dX12_wardBy_44 (fun r93 S93 H locs hp93 hQ _ => ?_)
      obtain ⟨rfl, fg93⟩ := hp93
      have tt94 : r93 = (fParty (S 7) (S 8) (S 10) (fOn (S 7) (S 8) (S 10) (fShoved (S 7) (S 8) (S 10) a2 a3) a1) (fPhase (S 7) (S 8) (S 10) (a1 + (1 : Int32))) ((-1) : Int32)) := by rw [fg93, tt46, tt92]
      refine lv_iload hx hb dX12_wardBy_47 (lv_at hl 6 rfl) ?_
      refine lv_icmp_ne (tgt := 57) hx hb dX12_wardBy_49 (by decide) (fun k95 => ?_) (fun k95 => ?_)
      · have h96 := ib_ne k95
        have kc97 : ¬ ((fParty (S 7) (S 8) (S 10) (fOn (S 7) (S 8) (S 10) (fShoved (S 7) (S 8) (S 10) a2 a3) a1) (fPhase (S 7) (S 8) (S 10) (a1 + (1 : Int32))) ((-1) : Int32)) = a4) := by have h0 := k95; rw [tt94] at h0; exact h0
        refine lv_iload hx hb dX12_wardBy_57 (lv_at hl 0 rfl) ?_
        exact xri E hr hlk hQ (⟨rfl, (ib_wk (by decide : Bd 1 (1) (1)) (by decide) (by decide)), (by rw [fWard, if_neg kc49, if_neg kc84, if_neg kc97])⟩) dX12_wardBy_59
      · have h98 := ib_eq k95
        have kc99 : (fParty (S 7) (S 8) (S 10) (fOn (S 7) (S 8) (S 10) (fShoved (S 7) (S 8) (S 10) a2 a3) a1) (fPhase (S 7) (S 8) (S 10) (a1 + (1 : Int32))) ((-1) : Int32)) = a4 := by have h0 := k95; rw [tt94] at h0; exact h0
        refine lv_ldc (v := 100000) hx hb E.2.2.1 (E.2.2.2.1 _ q1648) dX12_wardBy_52 ?_
        refine lv_goto (tgt := 59) hx hb dX12_wardBy_54 (by decide) ?_
        exact xri E hr hlk hQ (⟨rfl, (ib_wk (by decide : Bd 100000 (100000) (100000)) (by decide) (by decide)), (by rw [fWard, if_neg kc49, if_neg kc84, if_pos kc99])⟩) dX12_wardBy_59
  · have h100 := ib_eq k47
    have kc101 : a3 = (0 : Int32) := by have h0 := k47; exact h0
    have b102 : Bd a3 (0) (0) := ⟨((rf_eq (ib_full a3) (by decide : Bd 0 (0) (0)) h100).1).1, ((rf_eq (ib_full a3) (by decide : Bd 0 (0) (0)) h100).1).2⟩
    refine lv_iconst (v := 0) hx hb dX12_wardBy_17 (by decide) ?_
    refine lv_goto (tgt := 22) hx hb dX12_wardBy_18 (by decide) ?_
    refine lv_istore (lv' := [(6, .int 0), (5, .int r45), (0, .ref (ad 0)), (1, .int a1), (2, .int a2), (3, .int a3), (4, .int a4)]) hx hb dX12_wardBy_22 hl (by decide) rfl (fun ls hl => ?_)
    refine lv_aload_n hx hb dX12_wardBy_24 rfl (lv_at hl 2 rfl) ?_
    refine lv_iload hx hb dX12_wardBy_25 (lv_at hl 1 rfl) ?_
    refine xcVi E hs hQ hml hl.1 0 (gX12_isBeach_0 l g ad hD S hI r45) mX12_isBeach q1755 (by decide) c43 rfl rfl ⟨(Nat.le_of_ble_eq_true rfl), (Nat.le_of_ble_eq_true rfl)⟩ ⟨(Nat.le_of_ble_eq_true rfl), (Nat.le_of_ble_eq_true rfl)⟩ (Nat.le_of_ble_eq_true rfl) rfl dX12_wardBy_27 (fun r103 S103 H locs hp103 hQ _ => ?_)
    obtain ⟨rfl, b103, fg103⟩ := hp103
    have tt104 : r103 = (fBeach (S 7) (S 8) (S 10) (fOn (S 7) (S 8) (S 10) (fShoved (S 7) (S 8) (S 10) a2 a3) a1)) := by rw [fg103, tt46]
    refine lv_if_eq (tgt := 60) hx hb dX12_wardBy_30 (by decide) (fun k105 => ?_) (fun k105 => ?_)
    · have h106 := ib_eq k105
      have kc107 : (fBeach (S 7) (S 8) (S 10) (fOn (S 7) (S 8) (S 10) (fShoved (S 7) (S 8) (S 10) a2 a3) a1)) = (0 : Int32) := by have h0 := k105; rw [tt104] at h0; exact h0
      have b108 : Bd r103 (0) (0) := ⟨(b103).1, ((rf_eq b103 (by decide : Bd 0 (0) (0)) h106).1).2⟩
      refine lv_iload hx hb dX12_wardBy_60 (lv_at hl 0 rfl) ?_
      refine lv_aload_n hx hb dX12_wardBy_62 rfl (lv_at hl 2 rfl) ?_
      refine xget E hQ 0 (by decide) c43 rfl 28 (by decide) q1496 rfl dX12_wardBy_63 ?_
      refine lv_bipush (v := 12) hx hb dX12_wardBy_66 (by decide) ?_
      refine lv_iload_n hx hb dX12_wardBy_68 rfl (lv_at hl 3 rfl) ?_
      refine lv_iconst (v := 1) hx hb dX12_wardBy_69 (by decide) ?_
      refine lv_iadd hx hb dX12_wardBy_70 ?_
      refine lv_topi (fun z109 e110 => ?_)
      have t111 := ib_add e110 ba1 (by decide : Bd 1 (1) (1)) (by decide) (by decide)
      have b112 : Bd z109 (1) (100) := ib_addb t111 ba1 (by decide : Bd 1 (1) (1))
      have t111 : z109.toInt = a1.toInt + 1 := fold_add t111 rfl (by decide)
      have tt113 : z109 = (a1 + (1 : Int32)) := by rw [e110]
      refine lv_imul hx hb dX12_wardBy_71 ?_
      refine lv_topi (fun z114 e115 => ?_)
      have t116 := ib_cmul (q := 12) e115 (by decide) (by decide) b112 (by decide) (by decide)
      have b117 : Bd z114 (12) (1200) := ib_mulb t116 (by decide) b112
      have tt118 : z114 = ((12 : Int32) * (a1 + (1 : Int32))) := by rw [e115, tt113]
      refine lv_iload hx hb dX12_wardBy_72 (lv_at hl 1 rfl) ?_
      refine lv_iadd hx hb dX12_wardBy_74 ?_
      refine lv_topi (fun z119 e120 => ?_)
      have t121 := ib_add e120 b117 b45 (by decide) (by decide)
      have b122 : Bd z119 (12) (1211) := ib_addb t121 b117 b45
      have tt123 : z119 = (((12 : Int32) * (a1 + (1 : Int32))) + (fOn (S 7) (S 8) (S 10) (fShoved (S 7) (S 8) (S 10) a2 a3) a1)) := by rw [e120, tt118, tt46]
      obtain ⟨f124, c125, b126⟩ := invM_16 hI
      refine xiald E hQ 16 (by decide) c125 (ib_in b122 (by decide) (by decide)) dX12_wardBy_75 ?_
      refine lv_topi (fun z127 e128 => ?_)
      have b129 : Bd z127 (0) (100000) := (by rw [e128]; exact b126 _)
      have tt130 : z127 = (arr (S 16) (((12 : Int32) * (a1 + (1 : Int32))) + (fOn (S 7) (S 8) (S 10) (fShoved (S 7) (S 8) (S 10) a2 a3) a1)).toNatClampNeg) := by rw [e128, arr_of c125, tt123]
      refine lv_iadd hx hb dX12_wardBy_76 ?_
      refine lv_topi (fun z131 e132 => ?_)
      have t133 := ib_add e132 (by decide : Bd 0 (0) (0)) b129 (by decide) (by decide)
      have b134 : Bd z131 (0) (100000) := ib_addb t133 (by decide : Bd 0 (0) (0)) b129
      have t133 : z131.toInt = 0 + z127.toInt := fold_add t133 (by decide) rfl
      have tt135 : z131 = ((0 : Int32) + (arr (S 16) (((12 : Int32) * (a1 + (1 : Int32))) + (fOn (S 7) (S 8) (S 10) (fShoved (S 7) (S 8) (S 10) a2 a3) a1)).toNatClampNeg)) := by rw [e132, tt130]
      exact xri E hr hlk hQ (⟨rfl, (ib_wk b134 (by decide) (by decide)), (by rw [fWard, if_pos kc101, if_pos kc107]; exact tt135)⟩) dX12_wardBy_77
    · have h136 := ib_ne k105
      have kc137 : ¬ ((fBeach (S 7) (S 8) (S 10) (fOn (S 7) (S 8) (S 10) (fShoved (S 7) (S 8) (S 10) a2 a3) a1)) = (0 : Int32)) := by have h0 := k105; rw [tt104] at h0; exact h0
      have b138 : Bd r103 (1) (1) := rf_nlo b103 (by decide : Bd 0 (0) (0)) h136
      refine lv_aload_n hx hb dX12_wardBy_33 rfl (lv_at hl 2 rfl) ?_
      refine lv_iload hx hb dX12_wardBy_34 (lv_at hl 1 rfl) ?_
      refine lv_aload_n hx hb dX12_wardBy_36 rfl (lv_at hl 2 rfl) ?_
      refine lv_iload_n hx hb dX12_wardBy_37 rfl (lv_at hl 3 rfl) ?_
      refine lv_iconst (v := 1) hx hb dX12_wardBy_38 (by decide) ?_
      refine lv_iadd hx hb dX12_wardBy_39 ?_
      refine lv_topi (fun z139 e140 => ?_)
      have t141 := ib_add e140 ba1 (by decide : Bd 1 (1) (1)) (by decide) (by decide)
      have b142 : Bd z139 (1) (100) := ib_addb t141 ba1 (by decide : Bd 1 (1) (1))
      have t141 : z139.toInt = a1.toInt + 1 := fold_add t141 rfl (by decide)
      have tt143 : z139 = (a1 + (1 : Int32)) := by rw [e140]
      refine xcVi E hs hQ hml hl.1 0 (gX12_phaseOf_0 l g ad hD S hI z139 (by omega)) mX12_phaseOf q1787 (by decide) c43 rfl rfl ⟨(Nat.le_of_ble_eq_true rfl), (Nat.le_of_ble_eq_true rfl)⟩ ⟨(Nat.le_of_ble_eq_true rfl), (Nat.le_of_ble_eq_true rfl)⟩ (Nat.le_of_ble_eq_true rfl) rfl dX12_wardBy_40 (fun r144 S144 H locs hp144 hQ _ => ?_)
      obtain ⟨rfl, b144, fg144⟩ := hp144
      have tt145 : r144 = (fPhase (S 7) (S 8) (S 10) (a1 + (1 : Int32))) := by rw [fg144, tt143]
      refine lv_iconst (v := (-1)) hx hb dX12_wardBy_43 (by decide) ?_
      refine xcVi E hs hQ hml hl.1 0 (gX12_partyOf_0 l g ad hD S hI r45 r144 (-1)) mX12_partyOf q1862 (by decide) c43 rfl rfl ⟨(Nat.le_of_ble_eq_true rfl), (Nat.le_of_ble_eq_true rfl)⟩ ⟨(Nat.le_of_ble_eq_true rfl), (Nat.le_of_ble_eq_true rfl)⟩ (Nat.le_of_ble_eq_true rfl) rfl dX12_wardBy_44 (fun r146 S146 H locs hp146 hQ _ => ?_)
      obtain ⟨rfl, fg146⟩ := hp146
      have tt147 : r146 = (fParty (S 7) (S 8) (S 10) (fOn (S 7) (S 8) (S 10) (fShoved (S 7) (S 8) (S 10) a2 a3) a1) (fPhase (S 7) (S 8) (S 10) (a1 + (1 : Int32))) ((-1) : Int32)) := by rw [fg146, tt46, tt145]
      refine lv_iload hx hb dX12_wardBy_47 (lv_at hl 6 rfl) ?_
      refine lv_icmp_ne (tgt := 57) hx hb dX12_wardBy_49 (by decide) (fun k148 => ?_) (fun k148 => ?_)
      · have h149 := ib_ne k148
        have kc150 : ¬ ((fParty (S 7) (S 8) (S 10) (fOn (S 7) (S 8) (S 10) (fShoved (S 7) (S 8) (S 10) a2 a3) a1) (fPhase (S 7) (S 8) (S 10) (a1 + (1 : Int32))) ((-1) : Int32)) = a4) := by have h0 := k148; rw [tt147] at h0; exact h0
        refine lv_iload hx hb dX12_wardBy_57 (lv_at hl 0 rfl) ?_
        exact xri E hr hlk hQ (⟨rfl, (ib_wk (by decide : Bd 0 (0) (0)) (by decide) (by decide)), (by rw [fWard, if_pos kc101, if_neg kc137, if_neg kc150])⟩) dX12_wardBy_59
      · have h151 := ib_eq k148
        have kc152 : (fParty (S 7) (S 8) (S 10) (fOn (S 7) (S 8) (S 10) (fShoved (S 7) (S 8) (S 10) a2 a3) a1) (fPhase (S 7) (S 8) (S 10) (a1 + (1 : Int32))) ((-1) : Int32)) = a4 := by have h0 := k148; rw [tt147] at h0; exact h0
        refine lv_ldc (v := 100000) hx hb E.2.2.1 (E.2.2.2.1 _ q1648) dX12_wardBy_52 ?_
        refine lv_goto (tgt := 59) hx hb dX12_wardBy_54 (by decide) ?_
        exact xri E hr hlk hQ (⟨rfl, (ib_wk (by decide : Bd 100000 (100000) (100000)) (by decide) (by decide)), (by rw [fWard, if_pos kc101, if_neg kc137, if_pos kc152])⟩) dX12_wardBy_59
set_option maxHeartbeats 4000000 in
set_option maxRecDepth 100000 in
theorem gX12_laysPushes_0 (l : Launch) (g : GG) (ad : Nat → Nat) (hD : Dj ad 20) (S : SS) (hI : InvM g ad S) (a1 : Int32) (hq1 : 0 ≤ elm (S 7) 0 + (-1)) (hq2 : 0 ≤ elm (S 7) 1 + (-1)) : Met l yX12_laysPushes (wG (.code yX12_laysPushes cX12_laysPushes 6 none)) (Rm 4) (XPre g ad 20 S [.ref (ad 0), .int a1]) (va_Qv (fun S' => InvM g ad S' ∧ (∀ j, j ∉ ([16] : List Nat) → S' j = S j)) (QB g ad 20) (FA ad 20)) 0 0 (FA ad 20) := by
  refine xmet cX12_laysPushes "EbbWreckModel" (by decide) rfl (Nat.le_of_ble_eq_true rfl) (fun p e s m below meth c E hr hlk hml hQ ls hl => ?_)
  have hx := E.1
  have hb := E.2.1
  have hs : Sp ad 20 (FA ad 20) := Sp.fa hD
  have hl : lv_has ls 6 [(0, .ref (ad 0)), (1, .int a1)] := hl
  obtain ⟨f1, c2, b3⟩ := invM_7 hI
  obtain ⟨v4, ee5⟩ : ∃ z : Int32, f1 0 = z := ⟨_, rfl⟩
  have b6 : Bd v4 (0) (12) := (by rw [← ee5]; exact b3.1 0 (by decide))
  obtain ⟨v7, ee8⟩ : ∃ z : Int32, f1 1 = z := ⟨_, rfl⟩
  have b9 : Bd v7 (0) (12) := (by rw [← ee8]; exact b3.2.1 1 (by decide))
  have q10 : elm (S 7) 0 = v4.toInt := (elm_of c2 0).trans (congrArg Int32.toInt (ee5))
  have b11 : Bd v4 (1) (12) := ⟨by omega, (b6).2⟩
  have q12 : elm (S 7) 1 = v7.toInt := (elm_of c2 1).trans (congrArg Int32.toInt (ee8))
  have b13 : Bd v7 (1) (12) := ⟨by omega, (b9).2⟩
  refine lv_iconst (v := 0) hx hb dX12_laysPushes_0 (by decide) ?_
  refine lv_istore_n (lv' := [(2, .int 0), (0, .ref (ad 0)), (1, .int a1)]) hx hb dX12_laysPushes_1 rfl hl (by decide) rfl (fun ls hl => ?_)
  have loop2 : ∀ (n : Nat) (S_2 : SS) (H : Heap) (locs : List Loc) (ls : Array Slot) (x2_2 : Int32), Bd x2_2 (0) (12) → (-1) * x2_2.toInt + 12 < ((n : Nat) : Int) → InvM g ad S_2 → (∀ j, j ∉ ([16] : List Nat) → S_2 j = S j) → Hp g ad 20 S_2 (FA ad 20) s.heap H locs → lv_has ls 6 [(2, .int x2_2), (0, .ref (ad 0)), (1, .int a1)] → W p l e (Rm 4) s m [.ref (ad 0), .int a1].toArray below meth c H locs 0 0 (MQ below (va_Qv (fun S' => InvM g ad S' ∧ (∀ j, j ∉ ([16] : List Nat) → S' j = S j)) (QB g ad 20) (FA ad 20)) [.ref (ad 0), .int a1].toArray s 0 0 (FA ad 20)) (F0 m 2 ls []) := by
    intro n
    induction n with
    | zero => intro S_2 H locs ls x2_2 Bx2_2 hn2_ hI hf2 hQ hl; exfalso; have := (Bx2_2).2; omega
    | succ n2_ ih2 =>
      intro S_2 H locs ls x2_2 Bx2_2 hn2_ hI hf2 hQ hl
      refine lv_iload_n hx hb dX12_laysPushes_2 rfl (lv_at hl 0 rfl) ?_
      refine lv_aload_n hx hb dX12_laysPushes_3 rfl (lv_at hl 1 rfl) ?_
      obtain ⟨v14, v15, v17, v19, v21, v22, w23, v24, v26, v27, v28, v29, v31, v33, v35, v37, v39, v40, v41, c42, b16, b18, b20, b25, b30, b32, b34, b36, b38⟩ := invM_0 hI
      have c42 : S_2 0 = .inr (12, [.int v14, .ref (ad 1), .ref (ad 2), .ref (ad 3), .ref (ad 4), .ref (ad 5), .int v15, .int v17, .int v19, .int v21, .int v22, .long w23, .int v24, .int v26, .int v27, .int v28, .ref (ad 6), .ref (ad 7), .ref (ad 8), .ref (ad 9), .ref (ad 10), .ref (ad 11), .ref (ad 12), .ref (ad 13), .ref (ad 14), .ref (ad 15), .int v29, .int v31, .ref (ad 16), .int v33, .int v35, .int v37, .int v39, .int v40, .ref (ad 17), .ref (ad 18), .int v41, .ref (ad 19)]) := c42
      refine xget E hQ 0 (by decide) c42 rfl 17 (by decide) q1485 rfl dX12_laysPushes_4 ?_
      refine lv_iconst (v := 0) hx hb dX12_laysPushes_7 (by decide) ?_
      have c43 : S_2 7 = .inl (g.2 0, 50, .inl f1) := ((hf2 7 (by decide)).trans c2)
      refine xiald E hQ 7 (by decide) c43 (vp_in_lit 0 50 (by decide)) dX12_laysPushes_8 ?_
      refine sb_at (P := fun z => W _ _ _ _ _ _ _ _ _ _ _ _ _ _ _ (F0 _ _ _ (.int z :: _))) (show f1 (0 : Int32).toNatClampNeg = v4 from ee5) ?_
      refine lv_icmp_ge (tgt := 30) hx hb dX12_laysPushes_9 (by decide) (fun k44 => ?_) (fun k44 => ?_)
      · have h45 := ib_le k44
        have b46 : Bd x2_2 (1) (12) := ⟨((rf_le b11 Bx2_2 h45).2).1, (Bx2_2).2⟩
        refine lv_bipush (v := 99) hx hb dX12_laysPushes_30 (by decide) ?_
        refine lv_istore_n (lv' := [(2, .int 99), (0, .ref (ad 0)), (1, .int a1)]) hx hb dX12_laysPushes_32 rfl hl (by decide) rfl (fun ls hl => ?_)
        have loop33 : ∀ (n : Nat) (S_33 : SS) (H : Heap) (locs : List Loc) (ls : Array Slot) (x33_2 : Int32), Bd x33_2 (-1) (99) → x33_2.toInt + 1 < ((n : Nat) : Int) → InvM g ad S_33 → (∀ j, j ∉ ([16] : List Nat) → S_33 j = S_2 j) → Hp g ad 20 S_33 (FA ad 20) s.heap H locs → lv_has ls 6 [(2, .int x33_2), (0, .ref (ad 0)), (1, .int a1)] → W p l e (Rm 4) s m [.ref (ad 0), .int a1].toArray below meth c H locs 0 0 (MQ below (va_Qv (fun S' => InvM g ad S' ∧ (∀ j, j ∉ ([16] : List Nat) → S' j = S j)) (QB g ad 20) (FA ad 20)) [.ref (ad 0), .int a1].toArray s 0 0 (FA ad 20)) (F0 m 33 ls []) := by
          intro n
          induction n with
          | zero => intro S_33 H locs ls x33_2 Bx33_2 hn33_ hI hf33 hQ hl; exfalso; have := (Bx33_2).1; omega
          | succ n33_ ih33 =>
            intro S_33 H locs ls x33_2 Bx33_2 hn33_ hI hf33 hQ hl
            refine lv_iload_n hx hb dX12_laysPushes_33 rfl (lv_at hl 0 rfl) ?_
            refine lv_if_lt (tgt := 118) hx hb dX12_laysPushes_34 (by decide) (fun k47 => ?_) (fun k47 => ?_)
            · have h48 := ib_lt k47
              have b49 : Bd x33_2 (-1) (-1) := ⟨(Bx33_2).1, ((rf_lt Bx33_2 (by decide : Bd 0 (0) (0)) h48).1).2⟩
              exact xrv E hr hlk hQ (⟨hI, (o_trans (o_trans o_refl hf2 (by decide)) hf33 (by decide))⟩) dX12_laysPushes_118
            · have h50 := ib_nlt k47
              have b51 : Bd x33_2 (0) (99) := ⟨((rf_le (by decide : Bd 0 (0) (0)) Bx33_2 h50).2).1, (Bx33_2).2⟩
              refine lv_iconst (v := 0) hx hb dX12_laysPushes_37 (by decide) ?_
              refine lv_istore_n (lv' := [(3, .int 0), (2, .int x33_2), (0, .ref (ad 0)), (1, .int a1)]) hx hb dX12_laysPushes_38 rfl hl (by decide) rfl (fun ls hl => ?_)
              have loop39 : ∀ (n : Nat) (S_39 : SS) (H : Heap) (locs : List Loc) (ls : Array Slot) (x39_3 : Int32), Bd x39_3 (0) (12) → (-1) * x39_3.toInt + 12 < ((n : Nat) : Int) → InvM g ad S_39 → (∀ j, j ∉ ([16] : List Nat) → S_39 j = S_33 j) → Hp g ad 20 S_39 (FA ad 20) s.heap H locs → lv_has ls 6 [(3, .int x39_3), (2, .int x33_2), (0, .ref (ad 0)), (1, .int a1)] → W p l e (Rm 4) s m [.ref (ad 0), .int a1].toArray below meth c H locs 0 0 (MQ below (va_Qv (fun S' => InvM g ad S' ∧ (∀ j, j ∉ ([16] : List Nat) → S' j = S j)) (QB g ad 20) (FA ad 20)) [.ref (ad 0), .int a1].toArray s 0 0 (FA ad 20)) (F0 m 39 ls []) := by
                intro n
                induction n with
                | zero => intro S_39 H locs ls x39_3 Bx39_3 hn39_ hI hf39 hQ hl; exfalso; have := (Bx39_3).2; omega
                | succ n39_ ih39 =>
                  intro S_39 H locs ls x39_3 Bx39_3 hn39_ hI hf39 hQ hl
                  refine lv_iload_n hx hb dX12_laysPushes_39 rfl (lv_at hl 0 rfl) ?_
                  refine lv_aload_n hx hb dX12_laysPushes_40 rfl (lv_at hl 2 rfl) ?_
                  have c52 : S_39 0 = .inr (12, [.int v14, .ref (ad 1), .ref (ad 2), .ref (ad 3), .ref (ad 4), .ref (ad 5), .int v15, .int v17, .int v19, .int v21, .int v22, .long w23, .int v24, .int v26, .int v27, .int v28, .ref (ad 6), .ref (ad 7), .ref (ad 8), .ref (ad 9), .ref (ad 10), .ref (ad 11), .ref (ad 12), .ref (ad 13), .ref (ad 14), .ref (ad 15), .int v29, .int v31, .ref (ad 16), .int v33, .int v35, .int v37, .int v39, .int v40, .ref (ad 17), .ref (ad 18), .int v41, .ref (ad 19)]) := ((hf39 0 (by decide)).trans ((hf33 0 (by decide)).trans c42))
                  refine xget E hQ 0 (by decide) c52 rfl 17 (by decide) q1485 rfl dX12_laysPushes_41 ?_
                  refine lv_iconst (v := 0) hx hb dX12_laysPushes_44 (by decide) ?_
                  have c53 : S_39 7 = .inl (g.2 0, 50, .inl f1) := ((hf39 7 (by decide)).trans ((hf33 7 (by decide)).trans c43))
                  refine xiald E hQ 7 (by decide) c53 (vp_in_lit 0 50 (by decide)) dX12_laysPushes_45 ?_
                  refine sb_at (P := fun z => W _ _ _ _ _ _ _ _ _ _ _ _ _ _ _ (F0 _ _ _ (.int z :: _))) (show f1 (0 : Int32).toNatClampNeg = v4 from ee5) ?_
                  refine lv_icmp_ge (tgt := 112) hx hb dX12_laysPushes_46 (by decide) (fun k54 => ?_) (fun k54 => ?_)
                  · have h55 := ib_le k54
                    have b56 : Bd x39_3 (1) (12) := ⟨((rf_le b11 Bx39_3 h55).2).1, (Bx39_3).2⟩
                    obtain ⟨z57, e58⟩ : ∃ z : Int32, z = x33_2 + (-1) := ⟨_, rfl⟩
                    have t59 := ib_add e58 b51 (by decide : Bd (-1) (-1) (-1)) (by decide) (by decide)
                    have b60 : Bd z57 (-1) (98) := ib_addb t59 b51 (by decide : Bd (-1) (-1) (-1))
                    have t59 : z57.toInt = x33_2.toInt + (-1) := fold_add t59 rfl (by decide)
                    refine lv_iinc (v := z57) (lv' := [(2, .int z57), (3, .int x39_3), (0, .ref (ad 0)), (1, .int a1)]) hx hb dX12_laysPushes_112 hl (k := 1) rfl (by rw [e58]; rfl) (by decide) rfl (fun ls hl => ?_)
                    refine lv_goto (tgt := 33) hx hb dX12_laysPushes_115 (by decide) ?_
                    exact ih33 _ _ _ _ z57 (ib_wk b60 (by decide) (by decide)) (by omega) hI (o_trans hf33 hf39 (by decide)) hQ (lv_sub hl [0, 2, 3] rfl)
                  · have h61 := ib_nle k54
                    have b62 : Bd x39_3 (0) (11) := ⟨(Bx39_3).1, ((rf_lt Bx39_3 b11 h61).1).2⟩
                    refine lv_ldc (v := 100000) hx hb E.2.2.1 (E.2.2.2.1 _ q1648) dX12_laysPushes_49 ?_
                    refine lv_istore (lv' := [(4, .int 100000), (3, .int x39_3), (2, .int x33_2), (0, .ref (ad 0)), (1, .int a1)]) hx hb dX12_laysPushes_51 hl (by decide) rfl (fun ls hl => ?_)
                    refine lv_iconst (v := 0) hx hb dX12_laysPushes_53 (by decide) ?_
                    refine lv_istore (lv' := [(5, .int 0), (4, .int 100000), (3, .int x39_3), (2, .int x33_2), (0, .ref (ad 0)), (1, .int a1)]) hx hb dX12_laysPushes_54 hl (by decide) rfl (fun ls hl => ?_)
                    have loop56 : ∀ (n : Nat) (H : Heap) (locs : List Loc) (ls : Array Slot) (x56_4 : Int32) (x56_5 : Int32), Bd x56_4 (0) (100000) → Bd x56_5 (0) (3) → (-1) * x56_5.toInt + 3 < ((n : Nat) : Int) → Hp g ad 20 S_39 (FA ad 20) s.heap H locs → lv_has ls 6 [(5, .int x56_5), (4, .int x56_4), (3, .int x39_3), (2, .int x33_2), (0, .ref (ad 0)), (1, .int a1)] → W p l e (Rm 4) s m [.ref (ad 0), .int a1].toArray below meth c H locs 0 0 (MQ below (va_Qv (fun S' => InvM g ad S' ∧ (∀ j, j ∉ ([16] : List Nat) → S' j = S j)) (QB g ad 20) (FA ad 20)) [.ref (ad 0), .int a1].toArray s 0 0 (FA ad 20)) (F0 m 56 ls []) := by
                      intro n
                      induction n with
                      | zero => intro H locs ls x56_4 x56_5 Bx56_4 Bx56_5 hn56_ hQ hl; exfalso; have := (Bx56_5).2; omega
                      | succ n56_ ih56 =>
                        intro H locs ls x56_4 x56_5 Bx56_4 Bx56_5 hn56_ hQ hl
                        refine lv_iload hx hb dX12_laysPushes_56 (lv_at hl 0 rfl) ?_
                        refine lv_iconst (v := 3) hx hb dX12_laysPushes_58 (by decide) ?_
                        refine lv_icmp_ge (tgt := 93) hx hb dX12_laysPushes_59 (by decide) (fun k63 => ?_) (fun k63 => ?_)
                        · have h64 := ib_le k63
                          have b65 : Bd x56_5 (3) (3) := ⟨((rf_le (by decide : Bd 3 (3) (3)) Bx56_5 h64).2).1, (Bx56_5).2⟩
                          refine lv_aload_n hx hb dX12_laysPushes_93 rfl (lv_at hl 4 rfl) ?_
                          refine xget E hQ 0 (by decide) c52 rfl 28 (by decide) q1496 rfl dX12_laysPushes_94 ?_
                          refine lv_bipush (v := 12) hx hb dX12_laysPushes_97 (by decide) ?_
                          refine lv_iload_n hx hb dX12_laysPushes_99 rfl (lv_at hl 3 rfl) ?_
                          refine lv_imul hx hb dX12_laysPushes_100 ?_
                          refine lv_topi (fun z66 e67 => ?_)
                          have t68 := ib_cmul (q := 12) e67 (by decide) (by decide) b51 (by decide) (by decide)
                          have b69 : Bd z66 (0) (1188) := ib_mulb t68 (by decide) b51
                          refine lv_iload_n hx hb dX12_laysPushes_101 rfl (lv_at hl 2 rfl) ?_
                          refine lv_iadd hx hb dX12_laysPushes_102 ?_
                          refine lv_topi (fun z70 e71 => ?_)
                          have t72 := ib_add e71 b69 b62 (by decide) (by decide)
                          have b73 : Bd z70 (0) (1199) := ib_addb t72 b69 b62
                          refine lv_iload hx hb dX12_laysPushes_103 (lv_at hl 1 rfl) ?_
                          obtain ⟨f74, c75, b76⟩ := invM_16 hI
                          refine xiast E hs hQ 16 (by decide) c75 (ib_in b73 (by decide) (by decide)) dX12_laysPushes_105 (fun H locs S77 eS77 hQ => ?_)
                          have hI := invM_up_16 hI eS77 ⟨_, rfl, upd_b b76 Bx56_4⟩
                          have b79 : ∀ j, Bd ((upd f74 (z70 : Int32).toNatClampNeg x56_4) j) (0) (100000) := upd_b b76 Bx56_4
                          have c78 : S77 16 = .inl (g.2 0, 1212, .inl (upd f74 (z70 : Int32).toNatClampNeg x56_4)) := up_at eS77 rfl
                          obtain ⟨z80, e81⟩ : ∃ z : Int32, z = x39_3 + 1 := ⟨_, rfl⟩
                          have t82 := ib_add e81 b62 (by decide : Bd 1 (1) (1)) (by decide) (by decide)
                          have b83 : Bd z80 (1) (12) := ib_addb t82 b62 (by decide : Bd 1 (1) (1))
                          have t82 : z80.toInt = x39_3.toInt + 1 := fold_add t82 rfl (by decide)
                          refine lv_iinc (v := z80) (lv' := [(3, .int z80), (5, .int x56_5), (4, .int x56_4), (2, .int x33_2), (0, .ref (ad 0)), (1, .int a1)]) hx hb dX12_laysPushes_106 hl (k := 2) rfl (by rw [e81]; rfl) (by decide) rfl (fun ls hl => ?_)
                          refine lv_goto (tgt := 39) hx hb dX12_laysPushes_109 (by decide) ?_
                          exact ih39 _ _ _ _ z80 (ib_wk b83 (by decide) (by decide)) (by omega) hI (up_o hf39 eS77 (by decide)) hQ (lv_sub hl [0, 3, 4, 5] rfl)
                        · have h84 := ib_nle k63
                          have b85 : Bd x56_5 (0) (2) := ⟨(Bx56_5).1, ((rf_lt Bx56_5 (by decide : Bd 3 (3) (3)) h84).1).2⟩
                          refine lv_aload_n hx hb dX12_laysPushes_62 rfl (lv_at hl 4 rfl) ?_
                          refine lv_iload_n hx hb dX12_laysPushes_63 rfl (lv_at hl 3 rfl) ?_
                          refine lv_iload_n hx hb dX12_laysPushes_64 rfl (lv_at hl 2 rfl) ?_
                          refine lv_iload hx hb dX12_laysPushes_65 (lv_at hl 0 rfl) ?_
                          refine lv_iload_n hx hb dX12_laysPushes_67 rfl (lv_at hl 5 rfl) ?_
                          have q86 : elm (S_39 7) 0 = v4.toInt := (elm_of c53 0).trans (congrArg Int32.toInt (ee5))
                          have q87 : elm (S_39 7) 1 = v7.toInt := (elm_of c53 1).trans (congrArg Int32.toInt (ee8))
                          refine xcVi E hs hQ hml hl.1 0 (gX12_pushBy_0 l g ad hD S_39 hI x33_2 x39_3 x56_5 a1 b51 b62 (by omega) (by omega)) mX12_pushBy q1930 (by decide) c52 rfl rfl ⟨(Nat.le_of_ble_eq_true rfl), (Nat.le_of_ble_eq_true rfl)⟩ ⟨(Nat.le_of_ble_eq_true rfl), (Nat.le_of_ble_eq_true rfl)⟩ (Nat.le_of_ble_eq_true rfl) rfl dX12_laysPushes_68 (fun r88 S88 H locs hp88 hQ _ => ?_)
                          obtain ⟨rfl, b88, fg88⟩ := hp88
                          refine lv_iload hx hb dX12_laysPushes_71 (lv_at hl 1 rfl) ?_
                          refine lv_icmp_ge (tgt := 87) hx hb dX12_laysPushes_73 (by decide) (fun k89 => ?_) (fun k89 => ?_)
                          · have h90 := ib_le k89
                            obtain ⟨z91, e92⟩ : ∃ z : Int32, z = x56_5 + 1 := ⟨_, rfl⟩
                            have t93 := ib_add e92 b85 (by decide : Bd 1 (1) (1)) (by decide) (by decide)
                            have b94 : Bd z91 (1) (3) := ib_addb t93 b85 (by decide : Bd 1 (1) (1))
                            have t93 : z91.toInt = x56_5.toInt + 1 := fold_add t93 rfl (by decide)
                            refine lv_iinc (v := z91) (lv' := [(5, .int z91), (4, .int x56_4), (3, .int x39_3), (2, .int x33_2), (0, .ref (ad 0)), (1, .int a1)]) hx hb dX12_laysPushes_87 hl (k := 0) rfl (by rw [e92]; rfl) (by decide) rfl (fun ls hl => ?_)
                            refine lv_goto (tgt := 56) hx hb dX12_laysPushes_90 (by decide) ?_
                            exact ih56 _ _ _ x56_4 z91 Bx56_4 (ib_wk b94 (by decide) (by decide)) (by omega) hQ (lv_sub hl [0, 1, 2, 3, 4, 5] rfl)
                          · have h95 := ib_nle k89
                            have b96 : Bd r88 (0) (99999) := ⟨(b88).1, ((rf_lt b88 Bx56_4 h95).1).2⟩
                            have b97 : Bd x56_4 (1) (100000) := ⟨((rf_lt b88 Bx56_4 h95).2).1, (Bx56_4).2⟩
                            refine lv_aload_n hx hb dX12_laysPushes_76 rfl (lv_at hl 4 rfl) ?_
                            refine lv_iload_n hx hb dX12_laysPushes_77 rfl (lv_at hl 3 rfl) ?_
                            refine lv_iload_n hx hb dX12_laysPushes_78 rfl (lv_at hl 2 rfl) ?_
                            refine lv_iload hx hb dX12_laysPushes_79 (lv_at hl 0 rfl) ?_
                            refine lv_iload_n hx hb dX12_laysPushes_81 rfl (lv_at hl 5 rfl) ?_
                            refine xcVi E hs hQ hml hl.1 0 (gX12_pushBy_0 l g ad hD S_39 hI x33_2 x39_3 x56_5 a1 b51 b62 (by omega) (by omega)) mX12_pushBy q1930 (by decide) c52 rfl rfl ⟨(Nat.le_of_ble_eq_true rfl), (Nat.le_of_ble_eq_true rfl)⟩ ⟨(Nat.le_of_ble_eq_true rfl), (Nat.le_of_ble_eq_true rfl)⟩ (Nat.le_of_ble_eq_true rfl) rfl dX12_laysPushes_82 (fun r98 S98 H locs hp98 hQ _ => ?_)
                            obtain ⟨rfl, b98, fg98⟩ := hp98
                            have t99 : r98.toInt = r88.toInt := by rw [fg98, fg88]
                            have b100 : Bd r98 (0) (99999) := ⟨(b98).1, by omega⟩
                            refine lv_istore (lv' := [(4, .int r98), (5, .int x56_5), (3, .int x39_3), (2, .int x33_2), (0, .ref (ad 0)), (1, .int a1)]) hx hb dX12_laysPushes_85 hl (by decide) rfl (fun ls hl => ?_)
                            obtain ⟨z101, e102⟩ : ∃ z : Int32, z = x56_5 + 1 := ⟨_, rfl⟩
                            have t103 := ib_add e102 b85 (by decide : Bd 1 (1) (1)) (by decide) (by decide)
                            have b104 : Bd z101 (1) (3) := ib_addb t103 b85 (by decide : Bd 1 (1) (1))
                            have t103 : z101.toInt = x56_5.toInt + 1 := fold_add t103 rfl (by decide)
                            refine lv_iinc (v := z101) (lv' := [(5, .int z101), (4, .int r98), (3, .int x39_3), (2, .int x33_2), (0, .ref (ad 0)), (1, .int a1)]) hx hb dX12_laysPushes_87 hl (k := 1) rfl (by rw [e102]; rfl) (by decide) rfl (fun ls hl => ?_)
                            refine lv_goto (tgt := 56) hx hb dX12_laysPushes_90 (by decide) ?_
                            exact ih56 _ _ _ r98 z101 (ib_wk b100 (by decide) (by decide)) (ib_wk b104 (by decide) (by decide)) (by omega) hQ (lv_sub hl [0, 1, 2, 3, 4, 5] rfl)
                    obtain ⟨n56, hn56⟩ := fu_n (3)
                    exact loop56 n56 _ _ _ 100000 0 (ib_wk (by decide : Bd 100000 (100000) (100000)) (by decide) (by decide)) (ib_wk (by decide : Bd 0 (0) (0)) (by decide) (by decide)) (by have : (100000 : Int32).toInt = 100000 := (by decide); have : (0 : Int32).toInt = 0 := (by decide); omega) hQ (lv_sub hl [0, 1, 2, 3, 4, 5] rfl)
              obtain ⟨n39, hn39⟩ := fu_n (12)
              exact loop39 n39 _ _ _ _ 0 (ib_wk (by decide : Bd 0 (0) (0)) (by decide) (by decide)) (by have : (0 : Int32).toInt = 0 := (by decide); omega) hI o_refl hQ (lv_sub hl [0, 1, 2, 3] rfl)
        obtain ⟨n33, hn33⟩ := fu_n (100)
        exact loop33 n33 _ _ _ _ 99 (ib_wk (by decide : Bd 99 (99) (99)) (by decide) (by decide)) (by have : (99 : Int32).toInt = 99 := (by decide); omega) hI o_refl hQ (lv_sub hl [0, 1, 2] rfl)
      · have h105 := ib_nle k44
        have b106 : Bd x2_2 (0) (11) := ⟨(Bx2_2).1, ((rf_lt Bx2_2 b11 h105).1).2⟩
        refine lv_aload_n hx hb dX12_laysPushes_12 rfl (lv_at hl 1 rfl) ?_
        refine xget E hQ 0 (by decide) c42 rfl 28 (by decide) q1496 rfl dX12_laysPushes_13 ?_
        refine lv_sipush (v := 1200) hx hb dX12_laysPushes_16 (by decide) ?_
        refine lv_iload_n hx hb dX12_laysPushes_19 rfl (lv_at hl 0 rfl) ?_
        refine lv_iadd hx hb dX12_laysPushes_20 ?_
        refine lv_topi (fun z107 e108 => ?_)
        have t109 := ib_add e108 (by decide : Bd 1200 (1200) (1200)) b106 (by decide) (by decide)
        have b110 : Bd z107 (1200) (1211) := ib_addb t109 (by decide : Bd 1200 (1200) (1200)) b106
        have t109 : z107.toInt = 1200 + x2_2.toInt := fold_add t109 (by decide) rfl
        refine lv_ldc (v := 100000) hx hb E.2.2.1 (E.2.2.2.1 _ q1648) dX12_laysPushes_21 ?_
        obtain ⟨f111, c112, b113⟩ := invM_16 hI
        refine xiast E hs hQ 16 (by decide) c112 (ib_in b110 (by decide) (by decide)) dX12_laysPushes_23 (fun H locs S114 eS114 hQ => ?_)
        have hI := invM_up_16 hI eS114 ⟨_, rfl, upd_b b113 (ib_wk (by decide : Bd 100000 (100000) (100000)) (by decide) (by decide))⟩
        have b116 : ∀ j, Bd ((upd f111 (z107 : Int32).toNatClampNeg 100000) j) (0) (100000) := upd_b b113 (ib_wk (by decide : Bd 100000 (100000) (100000)) (by decide) (by decide))
        have c115 : S114 16 = .inl (g.2 0, 1212, .inl (upd f111 (z107 : Int32).toNatClampNeg 100000)) := up_at eS114 rfl
        obtain ⟨z117, e118⟩ : ∃ z : Int32, z = x2_2 + 1 := ⟨_, rfl⟩
        have t119 := ib_add e118 b106 (by decide : Bd 1 (1) (1)) (by decide) (by decide)
        have b120 : Bd z117 (1) (12) := ib_addb t119 b106 (by decide : Bd 1 (1) (1))
        have t119 : z117.toInt = x2_2.toInt + 1 := fold_add t119 rfl (by decide)
        refine lv_iinc (v := z117) (lv' := [(2, .int z117), (0, .ref (ad 0)), (1, .int a1)]) hx hb dX12_laysPushes_24 hl (k := 0) rfl (by rw [e118]; rfl) (by decide) rfl (fun ls hl => ?_)
        refine lv_goto (tgt := 2) hx hb dX12_laysPushes_27 (by decide) ?_
        exact ih2 _ _ _ _ z117 (ib_wk b120 (by decide) (by decide)) (by omega) hI (up_o hf2 eS114 (by decide)) hQ (lv_sub hl [0, 1, 2] rfl)
  obtain ⟨n2, hn2⟩ := fu_n (12)
  exact loop2 n2 _ _ _ _ 0 (ib_wk (by decide : Bd 0 (0) (0)) (by decide) (by decide)) (by have : (0 : Int32).toInt = 0 := (by decide); omega) hI o_refl hQ (lv_sub hl [0, 1, 2] rfl)
set_option maxHeartbeats 4000000 in
set_option maxRecDepth 100000 in
theorem gX12_floatsFrom_0 (l : Launch) (g : GG) (ad : Nat → Nat) (hD : Dj ad 20) (S : SS) (hI : InvM g ad S) (a1 : Int32) (a2 : Int32) (a3 : Int32) (ba1 : Bd a1 (0) (11)) (ba2 : Bd a2 (0) (400)) (ba3 : Bd a3 (-2147483648) (468)) (hq1 : 0 ≤ elm (S 7) 0 + (-1)) (hq2 : 0 ≤ elm (S 7) 1 + (-1)) : Met l yX12_floatsFrom (wG (.code yX12_floatsFrom cX12_floatsFrom 5 none)) (Rm 3) (XPre g ad 20 S [.ref (ad 0), .int a1, .int a2, .int a3]) (va_Qv (fun S' => InvM g ad S' ∧ (∀ j, j ∉ ([0] : List Nat) → S' j = S j)) (QB g ad 20) (FA ad 20)) 0 0 (FA ad 20) := by
  refine xmet cX12_floatsFrom "EbbWreckModel" (by decide) rfl (Nat.le_of_ble_eq_true rfl) (fun p e s m below meth c E hr hlk hml hQ ls hl => ?_)
  have hx := E.1
  have hb := E.2.1
  have hs : Sp ad 20 (FA ad 20) := Sp.fa hD
  have hl : lv_has ls 5 [(0, .ref (ad 0)), (1, .int a1), (2, .int a2), (3, .int a3)] := hl
  obtain ⟨f1, c2, b3⟩ := invM_7 hI
  obtain ⟨v4, ee5⟩ : ∃ z : Int32, f1 0 = z := ⟨_, rfl⟩
  have b6 : Bd v4 (0) (12) := (by rw [← ee5]; exact b3.1 0 (by decide))
  obtain ⟨v7, ee8⟩ : ∃ z : Int32, f1 1 = z := ⟨_, rfl⟩
  have b9 : Bd v7 (0) (12) := (by rw [← ee8]; exact b3.2.1 1 (by decide))
  have q10 : elm (S 7) 0 = v4.toInt := (elm_of c2 0).trans (congrArg Int32.toInt (ee5))
  have b11 : Bd v4 (1) (12) := ⟨by omega, (b6).2⟩
  have q12 : elm (S 7) 1 = v7.toInt := (elm_of c2 1).trans (congrArg Int32.toInt (ee8))
  have b13 : Bd v7 (1) (12) := ⟨by omega, (b9).2⟩
  refine lv_aload_n hx hb dX12_floatsFrom_0 rfl (lv_at hl 0 rfl) ?_
  refine lv_iload_n hx hb dX12_floatsFrom_1 rfl (lv_at hl 1 rfl) ?_
  obtain ⟨v14, v15, v17, v19, v21, v22, w23, v24, v26, v27, v28, v29, v31, v33, v35, v37, v39, v40, v41, c42, b16, b18, b20, b25, b30, b32, b34, b36, b38⟩ := invM_0 hI
  have c42 : S 0 = .inr (12, [.int v14, .ref (ad 1), .ref (ad 2), .ref (ad 3), .ref (ad 4), .ref (ad 5), .int v15, .int v17, .int v19, .int v21, .int v22, .long w23, .int v24, .int v26, .int v27, .int v28, .ref (ad 6), .ref (ad 7), .ref (ad 8), .ref (ad 9), .ref (ad 10), .ref (ad 11), .ref (ad 12), .ref (ad 13), .ref (ad 14), .ref (ad 15), .int v29, .int v31, .ref (ad 16), .int v33, .int v35, .int v37, .int v39, .int v40, .ref (ad 17), .ref (ad 18), .int v41, .ref (ad 19)]) := c42
  refine xputi E hs hQ 0 (by decide) c42 rfl 30 (by decide) q1498 rfl rfl (Nat.le_of_ble_eq_true rfl) dX12_floatsFrom_2 (fun H locs S43 eS43 hQ => ?_)
  have hI := invM_up_0 hI eS43 ⟨v14, v15, v17, v19, v21, v22, w23, v24, v26, v27, v28, v29, v31, v33, a1, v37, v39, v40, v41, rfl, b16, b18, b20, b25, b30, b32, b34, ba1, b38⟩
  have c44 : S43 0 = .inr (12, [.int v14, .ref (ad 1), .ref (ad 2), .ref (ad 3), .ref (ad 4), .ref (ad 5), .int v15, .int v17, .int v19, .int v21, .int v22, .long w23, .int v24, .int v26, .int v27, .int v28, .ref (ad 6), .ref (ad 7), .ref (ad 8), .ref (ad 9), .ref (ad 10), .ref (ad 11), .ref (ad 12), .ref (ad 13), .ref (ad 14), .ref (ad 15), .int v29, .int v31, .ref (ad 16), .int v33, .int a1, .int v37, .int v39, .int v40, .ref (ad 17), .ref (ad 18), .int v41, .ref (ad 19)]) := up_at eS43 rfl
  refine lv_aload_n hx hb dX12_floatsFrom_5 rfl (lv_at hl 0 rfl) ?_
  refine lv_iconst (v := (-1)) hx hb dX12_floatsFrom_6 (by decide) ?_
  refine xputi E hs hQ 0 (by decide) c44 rfl 31 (by decide) q1499 rfl rfl (Nat.le_of_ble_eq_true rfl) dX12_floatsFrom_7 (fun H locs S45 eS45 hQ => ?_)
  have hI := invM_up_0 hI eS45 ⟨v14, v15, v17, v19, v21, v22, w23, v24, v26, v27, v28, v29, v31, v33, a1, (-1), v39, v40, v41, rfl, b16, b18, b20, b25, b30, b32, b34, ba1, (ib_wk (by decide : Bd (-1) (-1) (-1)) (by decide) (by decide))⟩
  have c46 : S45 0 = .inr (12, [.int v14, .ref (ad 1), .ref (ad 2), .ref (ad 3), .ref (ad 4), .ref (ad 5), .int v15, .int v17, .int v19, .int v21, .int v22, .long w23, .int v24, .int v26, .int v27, .int v28, .ref (ad 6), .ref (ad 7), .ref (ad 8), .ref (ad 9), .ref (ad 10), .ref (ad 11), .ref (ad 12), .ref (ad 13), .ref (ad 14), .ref (ad 15), .int v29, .int v31, .ref (ad 16), .int v33, .int a1, .int (-1), .int v39, .int v40, .ref (ad 17), .ref (ad 18), .int v41, .ref (ad 19)]) := up_at eS45 rfl
  refine lv_iload_n hx hb dX12_floatsFrom_10 rfl (lv_at hl 2 rfl) ?_
  refine lv_istore (lv' := [(4, .int a2), (0, .ref (ad 0)), (1, .int a1), (2, .int a2), (3, .int a3)]) hx hb dX12_floatsFrom_11 hl (by decide) rfl (fun ls hl => ?_)
  have loop13 : ∀ (n : Nat) (S_13 : SS) (H : Heap) (locs : List Loc) (ls : Array Slot) (x13_4 : Int32) (y13_0_0 : Int32) (y13_0_6 : Int32) (y13_0_7 : Int32) (y13_0_8 : Int32) (y13_0_9 : Int32) (y13_0_10 : Int32) (wy13_0_11 : Int64) (y13_0_12 : Int32) (y13_0_13 : Int32) (y13_0_14 : Int32) (y13_0_15 : Int32) (y13_0_26 : Int32) (y13_0_27 : Int32) (y13_0_29 : Int32) (y13_0_30 : Int32) (y13_0_31 : Int32) (y13_0_32 : Int32) (y13_0_33 : Int32) (y13_0_36 : Int32), Bd x13_4 (0) (1199) → Bd y13_0_6 (0) (1200) → Bd y13_0_7 (0) (1200) → Bd y13_0_8 (0) (4) → Bd y13_0_12 (0) (3) → Bd y13_0_26 (0) (11) → Bd y13_0_27 (-1) (400) → Bd y13_0_29 (0) (2) → Bd y13_0_30 (0) (11) → Bd y13_0_31 (-1) (1199) → (-1) * x13_4.toInt + 1199 < ((n : Nat) : Int) → InvM g ad S_13 → (∀ j, j ∉ ([0] : List Nat) → S_13 j = S45 j) → S_13 0 = .inr (12, [.int y13_0_0, .ref (ad 1), .ref (ad 2), .ref (ad 3), .ref (ad 4), .ref (ad 5), .int y13_0_6, .int y13_0_7, .int y13_0_8, .int y13_0_9, .int y13_0_10, .long wy13_0_11, .int y13_0_12, .int y13_0_13, .int y13_0_14, .int y13_0_15, .ref (ad 6), .ref (ad 7), .ref (ad 8), .ref (ad 9), .ref (ad 10), .ref (ad 11), .ref (ad 12), .ref (ad 13), .ref (ad 14), .ref (ad 15), .int y13_0_26, .int y13_0_27, .ref (ad 16), .int y13_0_29, .int y13_0_30, .int y13_0_31, .int y13_0_32, .int y13_0_33, .ref (ad 17), .ref (ad 18), .int y13_0_36, .ref (ad 19)]) → Hp g ad 20 S_13 (FA ad 20) s.heap H locs → lv_has ls 5 [(4, .int x13_4), (0, .ref (ad 0)), (1, .int a1), (2, .int a2), (3, .int a3)] → W p l e (Rm 3) s m [.ref (ad 0), .int a1, .int a2, .int a3].toArray below meth c H locs 0 0 (MQ below (va_Qv (fun S' => InvM g ad S' ∧ (∀ j, j ∉ ([0] : List Nat) → S' j = S j)) (QB g ad 20) (FA ad 20)) [.ref (ad 0), .int a1, .int a2, .int a3].toArray s 0 0 (FA ad 20)) (F0 m 13 ls []) := by
    intro n
    induction n with
    | zero => intro S_13 H locs ls x13_4 y13_0_0 y13_0_6 y13_0_7 y13_0_8 y13_0_9 y13_0_10 wy13_0_11 y13_0_12 y13_0_13 y13_0_14 y13_0_15 y13_0_26 y13_0_27 y13_0_29 y13_0_30 y13_0_31 y13_0_32 y13_0_33 y13_0_36 Bx13_4 By13_0_6 By13_0_7 By13_0_8 By13_0_12 By13_0_26 By13_0_27 By13_0_29 By13_0_30 By13_0_31 hn13_ hI hf13 cl13_0 hQ hl; exfalso; have := (Bx13_4).2; omega
    | succ n13_ ih13 =>
      intro S_13 H locs ls x13_4 y13_0_0 y13_0_6 y13_0_7 y13_0_8 y13_0_9 y13_0_10 wy13_0_11 y13_0_12 y13_0_13 y13_0_14 y13_0_15 y13_0_26 y13_0_27 y13_0_29 y13_0_30 y13_0_31 y13_0_32 y13_0_33 y13_0_36 Bx13_4 By13_0_6 By13_0_7 By13_0_8 By13_0_12 By13_0_26 By13_0_27 By13_0_29 By13_0_30 By13_0_31 hn13_ hI hf13 cl13_0 hQ hl
      refine lv_iload hx hb dX12_floatsFrom_13 (lv_at hl 0 rfl) ?_
      refine lv_iload_n hx hb dX12_floatsFrom_15 rfl (lv_at hl 4 rfl) ?_
      refine lv_icmp_ge (tgt := 66) hx hb dX12_floatsFrom_16 (by decide) (fun k47 => ?_) (fun k47 => ?_)
      · have h48 := ib_le k47
        exact xrv E hr hlk hQ (⟨hI, (o_trans (up_o (up_o o_refl eS43 (by decide)) eS45 (by decide)) hf13 (by decide))⟩) dX12_floatsFrom_66
      · have h49 := ib_nle k47
        have b50 : Bd x13_4 (0) (467) := ⟨(Bx13_4).1, ((rf_lt Bx13_4 ba3 h49).1).2⟩
        have b51 : Bd a3 (1) (468) := ⟨((rf_lt Bx13_4 ba3 h49).2).1, (ba3).2⟩
        refine lv_aload_n hx hb dX12_floatsFrom_19 rfl (lv_at hl 1 rfl) ?_
        refine xget E hQ 0 (by decide) cl13_0 rfl 31 (by decide) q1499 rfl dX12_floatsFrom_20 ?_
        refine lv_iconst (v := (-1)) hx hb dX12_floatsFrom_23 (by decide) ?_
        refine lv_icmp_ne (tgt := 66) hx hb dX12_floatsFrom_24 (by decide) (fun k52 => ?_) (fun k52 => ?_)
        · have h53 := ib_ne k52
          have b54 : Bd y13_0_31 (0) (1199) := rf_nlo By13_0_31 (by decide : Bd (-1) (-1) (-1)) h53
          exact xrv E hr hlk hQ (⟨hI, (o_trans (up_o (up_o o_refl eS43 (by decide)) eS45 (by decide)) hf13 (by decide))⟩) dX12_floatsFrom_66
        · have h55 := ib_eq k52
          have b56 : Bd y13_0_31 (-1) (-1) := ⟨(By13_0_31).1, ((rf_eq By13_0_31 (by decide : Bd (-1) (-1) (-1)) h55).1).2⟩
          refine lv_aload_n hx hb dX12_floatsFrom_27 rfl (lv_at hl 1 rfl) ?_
          refine lv_aload_n hx hb dX12_floatsFrom_28 rfl (lv_at hl 1 rfl) ?_
          refine lv_aload_n hx hb dX12_floatsFrom_29 rfl (lv_at hl 1 rfl) ?_
          refine xget E hQ 0 (by decide) cl13_0 rfl 30 (by decide) q1498 rfl dX12_floatsFrom_30 ?_
          refine lv_iload hx hb dX12_floatsFrom_33 (lv_at hl 0 rfl) ?_
          have c57 : S_13 7 = .inl (g.2 0, 50, .inl f1) := ((hf13 7 (by decide)).trans (up_ne eS45 (by decide) (up_ne eS43 (by decide) c2)))
          have q58 : elm (S_13 7) 0 = v4.toInt := (elm_of c57 0).trans (congrArg Int32.toInt (ee5))
          have q59 : elm (S_13 7) 1 = v7.toInt := (elm_of c57 1).trans (congrArg Int32.toInt (ee8))
          refine xcVi E hs hQ hml hl.1 0 (gX12_on_0 l g ad hD S_13 hI y13_0_30 x13_4 By13_0_30 (by omega) (by omega)) mX12_on q1804 (by decide) cl13_0 rfl rfl ⟨(Nat.le_of_ble_eq_true rfl), (Nat.le_of_ble_eq_true rfl)⟩ ⟨(Nat.le_of_ble_eq_true rfl), (Nat.le_of_ble_eq_true rfl)⟩ (Nat.le_of_ble_eq_true rfl) rfl dX12_floatsFrom_35 (fun r60 S60 H locs hp60 hQ _ => ?_)
          obtain ⟨rfl, b60, g60_0, fg60⟩ := hp60
          refine xputi E hs hQ 0 (by decide) cl13_0 rfl 30 (by decide) q1498 rfl rfl (Nat.le_of_ble_eq_true rfl) dX12_floatsFrom_38 (fun H locs S61 eS61 hQ => ?_)
          have hI := invM_up_0 hI eS61 ⟨y13_0_0, y13_0_6, y13_0_7, y13_0_8, y13_0_9, y13_0_10, wy13_0_11, y13_0_12, y13_0_13, y13_0_14, y13_0_15, y13_0_26, y13_0_27, y13_0_29, r60, y13_0_31, y13_0_32, y13_0_33, y13_0_36, rfl, By13_0_6, By13_0_7, By13_0_8, By13_0_12, By13_0_26, By13_0_27, By13_0_29, b60, (ib_wk b56 (by decide) (by decide))⟩
          have c62 : S61 0 = .inr (12, [.int y13_0_0, .ref (ad 1), .ref (ad 2), .ref (ad 3), .ref (ad 4), .ref (ad 5), .int y13_0_6, .int y13_0_7, .int y13_0_8, .int y13_0_9, .int y13_0_10, .long wy13_0_11, .int y13_0_12, .int y13_0_13, .int y13_0_14, .int y13_0_15, .ref (ad 6), .ref (ad 7), .ref (ad 8), .ref (ad 9), .ref (ad 10), .ref (ad 11), .ref (ad 12), .ref (ad 13), .ref (ad 14), .ref (ad 15), .int y13_0_26, .int y13_0_27, .ref (ad 16), .int y13_0_29, .int r60, .int y13_0_31, .int y13_0_32, .int y13_0_33, .ref (ad 17), .ref (ad 18), .int y13_0_36, .ref (ad 19)]) := up_at eS61 rfl
          refine lv_aload_n hx hb dX12_floatsFrom_41 rfl (lv_at hl 1 rfl) ?_
          refine lv_aload_n hx hb dX12_floatsFrom_42 rfl (lv_at hl 1 rfl) ?_
          refine xget E hQ 0 (by decide) c62 rfl 30 (by decide) q1498 rfl dX12_floatsFrom_43 ?_
          refine xcVi E hs hQ hml hl.1 0 (gX12_isBeach_0 l g ad hD S61 hI r60) mX12_isBeach q1755 (by decide) c62 rfl rfl ⟨(Nat.le_of_ble_eq_true rfl), (Nat.le_of_ble_eq_true rfl)⟩ ⟨(Nat.le_of_ble_eq_true rfl), (Nat.le_of_ble_eq_true rfl)⟩ (Nat.le_of_ble_eq_true rfl) rfl dX12_floatsFrom_46 (fun r63 S63 H locs hp63 hQ _ => ?_)
          obtain ⟨rfl, b63, fg63⟩ := hp63
          refine lv_if_eq (tgt := 60) hx hb dX12_floatsFrom_49 (by decide) (fun k64 => ?_) (fun k64 => ?_)
          · have h65 := ib_eq k64
            have b66 : Bd r63 (0) (0) := ⟨(b63).1, ((rf_eq b63 (by decide : Bd 0 (0) (0)) h65).1).2⟩
            obtain ⟨z67, e68⟩ : ∃ z : Int32, z = x13_4 + 1 := ⟨_, rfl⟩
            have t69 := ib_add e68 b50 (by decide : Bd 1 (1) (1)) (by decide) (by decide)
            have b70 : Bd z67 (1) (468) := ib_addb t69 b50 (by decide : Bd 1 (1) (1))
            have t69 : z67.toInt = x13_4.toInt + 1 := fold_add t69 rfl (by decide)
            refine lv_iinc (v := z67) (lv' := [(4, .int z67), (0, .ref (ad 0)), (1, .int a1), (2, .int a2), (3, .int a3)]) hx hb dX12_floatsFrom_60 hl (k := 0) rfl (by rw [e68]; rfl) (by decide) rfl (fun ls hl => ?_)
            refine lv_goto (tgt := 13) hx hb dX12_floatsFrom_63 (by decide) ?_
            exact ih13 _ _ _ _ z67 y13_0_0 y13_0_6 y13_0_7 y13_0_8 y13_0_9 y13_0_10 wy13_0_11 y13_0_12 y13_0_13 y13_0_14 y13_0_15 y13_0_26 y13_0_27 y13_0_29 r60 y13_0_31 y13_0_32 y13_0_33 y13_0_36 (ib_wk b70 (by decide) (by decide)) By13_0_6 By13_0_7 By13_0_8 By13_0_12 By13_0_26 By13_0_27 By13_0_29 b60 (ib_wk b56 (by decide) (by decide)) (by omega) hI (up_o hf13 eS61 (by decide)) c62 hQ (lv_sub hl [0, 1, 2, 3, 4] rfl)
          · have h71 := ib_ne k64
            have b72 : Bd r63 (1) (1) := rf_nlo b63 (by decide : Bd 0 (0) (0)) h71
            refine lv_aload_n hx hb dX12_floatsFrom_52 rfl (lv_at hl 1 rfl) ?_
            refine lv_iload hx hb dX12_floatsFrom_53 (lv_at hl 0 rfl) ?_
            refine lv_iconst (v := 1) hx hb dX12_floatsFrom_55 (by decide) ?_
            refine lv_iadd hx hb dX12_floatsFrom_56 ?_
            refine lv_topi (fun z73 e74 => ?_)
            have t75 := ib_add e74 b50 (by decide : Bd 1 (1) (1)) (by decide) (by decide)
            have b76 : Bd z73 (1) (468) := ib_addb t75 b50 (by decide : Bd 1 (1) (1))
            have t75 : z73.toInt = x13_4.toInt + 1 := fold_add t75 rfl (by decide)
            refine xputi E hs hQ 0 (by decide) c62 rfl 31 (by decide) q1499 rfl rfl (Nat.le_of_ble_eq_true rfl) dX12_floatsFrom_57 (fun H locs S77 eS77 hQ => ?_)
            have hI := invM_up_0 hI eS77 ⟨y13_0_0, y13_0_6, y13_0_7, y13_0_8, y13_0_9, y13_0_10, wy13_0_11, y13_0_12, y13_0_13, y13_0_14, y13_0_15, y13_0_26, y13_0_27, y13_0_29, r60, z73, y13_0_32, y13_0_33, y13_0_36, rfl, By13_0_6, By13_0_7, By13_0_8, By13_0_12, By13_0_26, By13_0_27, By13_0_29, b60, (ib_wk b76 (by decide) (by decide))⟩
            have c78 : S77 0 = .inr (12, [.int y13_0_0, .ref (ad 1), .ref (ad 2), .ref (ad 3), .ref (ad 4), .ref (ad 5), .int y13_0_6, .int y13_0_7, .int y13_0_8, .int y13_0_9, .int y13_0_10, .long wy13_0_11, .int y13_0_12, .int y13_0_13, .int y13_0_14, .int y13_0_15, .ref (ad 6), .ref (ad 7), .ref (ad 8), .ref (ad 9), .ref (ad 10), .ref (ad 11), .ref (ad 12), .ref (ad 13), .ref (ad 14), .ref (ad 15), .int y13_0_26, .int y13_0_27, .ref (ad 16), .int y13_0_29, .int r60, .int z73, .int y13_0_32, .int y13_0_33, .ref (ad 17), .ref (ad 18), .int y13_0_36, .ref (ad 19)]) := up_at eS77 rfl
            obtain ⟨z79, e80⟩ : ∃ z : Int32, z = x13_4 + 1 := ⟨_, rfl⟩
            have t81 := ib_add e80 b50 (by decide : Bd 1 (1) (1)) (by decide) (by decide)
            have b82 : Bd z79 (1) (468) := ib_addb t81 b50 (by decide : Bd 1 (1) (1))
            have t81 : z79.toInt = x13_4.toInt + 1 := fold_add t81 rfl (by decide)
            refine lv_iinc (v := z79) (lv' := [(4, .int z79), (0, .ref (ad 0)), (1, .int a1), (2, .int a2), (3, .int a3)]) hx hb dX12_floatsFrom_60 hl (k := 0) rfl (by rw [e80]; rfl) (by decide) rfl (fun ls hl => ?_)
            refine lv_goto (tgt := 13) hx hb dX12_floatsFrom_63 (by decide) ?_
            exact ih13 _ _ _ _ z79 y13_0_0 y13_0_6 y13_0_7 y13_0_8 y13_0_9 y13_0_10 wy13_0_11 y13_0_12 y13_0_13 y13_0_14 y13_0_15 y13_0_26 y13_0_27 y13_0_29 r60 z73 y13_0_32 y13_0_33 y13_0_36 (ib_wk b82 (by decide) (by decide)) By13_0_6 By13_0_7 By13_0_8 By13_0_12 By13_0_26 By13_0_27 By13_0_29 b60 (ib_wk b76 (by decide) (by decide)) (by omega) hI (up_o (up_o hf13 eS61 (by decide)) eS77 (by decide)) c78 hQ (lv_sub hl [0, 1, 2, 3, 4] rfl)
  obtain ⟨n13, hn13⟩ := fu_n ((-1) * a2.toInt + 1199)
  exact loop13 n13 _ _ _ _ a2 v14 v15 v17 v19 v21 v22 w23 v24 v26 v27 v28 v29 v31 v33 a1 (-1) v39 v40 v41 (ib_wk ba2 (by decide) (by decide)) b16 b18 b20 b25 b30 b32 b34 ba1 (ib_wk (by decide : Bd (-1) (-1) (-1)) (by decide) (by decide)) (by have : ((-1) : Int32).toInt = (-1) := (by decide); omega) hI o_refl c46 hQ (lv_sub hl [0, 1, 2, 3, 4] rfl)
set_option maxHeartbeats 4000000 in
set_option maxRecDepth 100000 in
theorem gX12_isIdle_0 (l : Launch) (g : GG) (ad : Nat → Nat) (hD : Dj ad 20) (S : SS) (hI : InvM g ad S) (a1 : Int32) (ba1 : Bd a1 (0) (5)) : Met l yX12_isIdle (wG (.code yX12_isIdle cX12_isIdle 6 (some .boolean))) (Rm 2) (XPre g ad 20 S [.ref (ad 0), .int a1]) (va_Qi (fun r S' => S = S' ∧ Bd r (0) (1)) (QB g ad 20) (FA ad 20)) 0 0 (FA ad 20) := by
  refine xmet cX12_isIdle "EbbWreckModel" (by decide) rfl (Nat.le_of_ble_eq_true rfl) (fun p e s m below meth c E hr hlk hml hQ ls hl => ?_)
  have hx := E.1
  have hb := E.2.1
  have hs : Sp ad 20 (FA ad 20) := Sp.fa hD
  have hl : lv_has ls 6 [(0, .ref (ad 0)), (1, .int a1)] := hl
  refine lv_iconst (v := 0) hx hb dX12_isIdle_0 (by decide) ?_
  refine lv_istore_n (lv' := [(2, .int 0), (0, .ref (ad 0)), (1, .int a1)]) hx hb dX12_isIdle_1 rfl hl (by decide) rfl (fun ls hl => ?_)
  have loop2 : ∀ (n : Nat) (H : Heap) (locs : List Loc) (ls : Array Slot) (x2_2 : Int32), Bd x2_2 (0) (12) → (-1) * x2_2.toInt + 12 < ((n : Nat) : Int) → Hp g ad 20 S (FA ad 20) s.heap H locs → lv_has ls 6 [(2, .int x2_2), (0, .ref (ad 0)), (1, .int a1)] → W p l e (Rm 2) s m [.ref (ad 0), .int a1].toArray below meth c H locs 0 0 (MQ below (va_Qi (fun r S' => S = S' ∧ Bd r (0) (1)) (QB g ad 20) (FA ad 20)) [.ref (ad 0), .int a1].toArray s 0 0 (FA ad 20)) (F0 m 2 ls []) := by
    intro n
    induction n with
    | zero => intro H locs ls x2_2 Bx2_2 hn2_ hQ hl; exfalso; have := (Bx2_2).2; omega
    | succ n2_ ih2 =>
      intro H locs ls x2_2 Bx2_2 hn2_ hQ hl
      refine lv_iload_n hx hb dX12_isIdle_2 rfl (lv_at hl 0 rfl) ?_
      refine lv_aload_n hx hb dX12_isIdle_3 rfl (lv_at hl 1 rfl) ?_
      obtain ⟨v1, v2, v4, v6, v8, v9, w10, v11, v13, v14, v15, v16, v18, v20, v22, v24, v26, v27, v28, c29, b3, b5, b7, b12, b17, b19, b21, b23, b25⟩ := invM_0 hI
      have c29 : S 0 = .inr (12, [.int v1, .ref (ad 1), .ref (ad 2), .ref (ad 3), .ref (ad 4), .ref (ad 5), .int v2, .int v4, .int v6, .int v8, .int v9, .long w10, .int v11, .int v13, .int v14, .int v15, .ref (ad 6), .ref (ad 7), .ref (ad 8), .ref (ad 9), .ref (ad 10), .ref (ad 11), .ref (ad 12), .ref (ad 13), .ref (ad 14), .ref (ad 15), .int v16, .int v18, .ref (ad 16), .int v20, .int v22, .int v24, .int v26, .int v27, .ref (ad 17), .ref (ad 18), .int v28, .ref (ad 19)]) := c29
      refine xget E hQ 0 (by decide) c29 rfl 17 (by decide) q1485 rfl dX12_isIdle_4 ?_
      refine lv_iconst (v := 0) hx hb dX12_isIdle_7 (by decide) ?_
      obtain ⟨f30, c31, b32⟩ := invM_7 hI
      refine xiald E hQ 7 (by decide) c31 (vp_in_lit 0 50 (by decide)) dX12_isIdle_8 ?_
      obtain ⟨v33, ee34⟩ : ∃ z : Int32, f30 0 = z := ⟨_, rfl⟩
      have b35 : Bd v33 (0) (12) := (by rw [← ee34]; exact b32.1 0 (by decide))
      refine sb_at (P := fun z => W _ _ _ _ _ _ _ _ _ _ _ _ _ _ _ (F0 _ _ _ (.int z :: _))) (show f30 (0 : Int32).toNatClampNeg = v33 from ee34) ?_
      refine lv_icmp_ge (tgt := 98) hx hb dX12_isIdle_9 (by decide) (fun k36 => ?_) (fun k36 => ?_)
      · have h37 := ib_le k36
        refine lv_iconst (v := 1) hx hb dX12_isIdle_98 (by decide) ?_
        exact xrz E hr hlk hQ rfl (⟨rfl, (ib_wk (by decide : Bd 1 (1) (1)) (by decide) (by decide))⟩) dX12_isIdle_99
      · have h38 := ib_nle k36
        have b39 : Bd x2_2 (0) (11) := ⟨(Bx2_2).1, ((rf_lt Bx2_2 b35 h38).1).2⟩
        have b40 : Bd v33 (1) (12) := ⟨((rf_lt Bx2_2 b35 h38).2).1, (b35).2⟩
        refine lv_iconst (v := 0) hx hb dX12_isIdle_12 (by decide) ?_
        refine lv_istore_n (lv' := [(3, .int 0), (2, .int x2_2), (0, .ref (ad 0)), (1, .int a1)]) hx hb dX12_isIdle_13 rfl hl (by decide) rfl (fun ls hl => ?_)
        have loop14 : ∀ (n : Nat) (H : Heap) (locs : List Loc) (ls : Array Slot) (x14_3 : Int32), Bd x14_3 (0) (3) → (-1) * x14_3.toInt + 3 < ((n : Nat) : Int) → Hp g ad 20 S (FA ad 20) s.heap H locs → lv_has ls 6 [(3, .int x14_3), (2, .int x2_2), (0, .ref (ad 0)), (1, .int a1)] → W p l e (Rm 2) s m [.ref (ad 0), .int a1].toArray below meth c H locs 0 0 (MQ below (va_Qi (fun r S' => S = S' ∧ Bd r (0) (1)) (QB g ad 20) (FA ad 20)) [.ref (ad 0), .int a1].toArray s 0 0 (FA ad 20)) (F0 m 14 ls []) := by
          intro n
          induction n with
          | zero => intro H locs ls x14_3 Bx14_3 hn14_ hQ hl; exfalso; have := (Bx14_3).2; omega
          | succ n14_ ih14 =>
            intro H locs ls x14_3 Bx14_3 hn14_ hQ hl
            refine lv_iload_n hx hb dX12_isIdle_14 rfl (lv_at hl 0 rfl) ?_
            refine lv_iconst (v := 3) hx hb dX12_isIdle_15 (by decide) ?_
            refine lv_icmp_ge (tgt := 92) hx hb dX12_isIdle_16 (by decide) (fun k41 => ?_) (fun k41 => ?_)
            · have h42 := ib_le k41
              have b43 : Bd x14_3 (3) (3) := ⟨((rf_le (by decide : Bd 3 (3) (3)) Bx14_3 h42).2).1, (Bx14_3).2⟩
              obtain ⟨z44, e45⟩ : ∃ z : Int32, z = x2_2 + 1 := ⟨_, rfl⟩
              have t46 := ib_add e45 b39 (by decide : Bd 1 (1) (1)) (by decide) (by decide)
              have b47 : Bd z44 (1) (12) := ib_addb t46 b39 (by decide : Bd 1 (1) (1))
              have t46 : z44.toInt = x2_2.toInt + 1 := fold_add t46 rfl (by decide)
              refine lv_iinc (v := z44) (lv' := [(2, .int z44), (3, .int x14_3), (0, .ref (ad 0)), (1, .int a1)]) hx hb dX12_isIdle_92 hl (k := 1) rfl (by rw [e45]; rfl) (by decide) rfl (fun ls hl => ?_)
              refine lv_goto (tgt := 2) hx hb dX12_isIdle_95 (by decide) ?_
              exact ih2 _ _ _ z44 (ib_wk b47 (by decide) (by decide)) (by omega) hQ (lv_sub hl [0, 2, 3] rfl)
            · have h48 := ib_nle k41
              have b49 : Bd x14_3 (0) (2) := ⟨(Bx14_3).1, ((rf_lt Bx14_3 (by decide : Bd 3 (3) (3)) h48).1).2⟩
              refine lv_aload_n hx hb dX12_isIdle_19 rfl (lv_at hl 2 rfl) ?_
              refine lv_iload_n hx hb dX12_isIdle_20 rfl (lv_at hl 1 rfl) ?_
              refine xcVi E hs hQ hml hl.1 0 (gX12_isBeach_0 l g ad hD S hI x2_2) mX12_isBeach q1755 (by decide) c29 rfl rfl ⟨(Nat.le_of_ble_eq_true rfl), (Nat.le_of_ble_eq_true rfl)⟩ ⟨(Nat.le_of_ble_eq_true rfl), (Nat.le_of_ble_eq_true rfl)⟩ (Nat.le_of_ble_eq_true rfl) rfl dX12_isIdle_21 (fun r50 S50 H locs hp50 hQ _ => ?_)
              obtain ⟨rfl, b50, fg50⟩ := hp50
              refine lv_if_eq (tgt := 86) hx hb dX12_isIdle_24 (by decide) (fun k51 => ?_) (fun k51 => ?_)
              · have h52 := ib_eq k51
                have b53 : Bd r50 (0) (0) := ⟨(b50).1, ((rf_eq b50 (by decide : Bd 0 (0) (0)) h52).1).2⟩
                obtain ⟨z54, e55⟩ : ∃ z : Int32, z = x14_3 + 1 := ⟨_, rfl⟩
                have t56 := ib_add e55 b49 (by decide : Bd 1 (1) (1)) (by decide) (by decide)
                have b57 : Bd z54 (1) (3) := ib_addb t56 b49 (by decide : Bd 1 (1) (1))
                have t56 : z54.toInt = x14_3.toInt + 1 := fold_add t56 rfl (by decide)
                refine lv_iinc (v := z54) (lv' := [(3, .int z54), (2, .int x2_2), (0, .ref (ad 0)), (1, .int a1)]) hx hb dX12_isIdle_86 hl (k := 0) rfl (by rw [e55]; rfl) (by decide) rfl (fun ls hl => ?_)
                refine lv_goto (tgt := 14) hx hb dX12_isIdle_89 (by decide) ?_
                exact ih14 _ _ _ z54 (ib_wk b57 (by decide) (by decide)) (by omega) hQ (lv_sub hl [0, 1, 2, 3] rfl)
              · have h58 := ib_ne k51
                have b59 : Bd r50 (1) (1) := rf_nlo b50 (by decide : Bd 0 (0) (0)) h58
                refine lv_aload_n hx hb dX12_isIdle_27 rfl (lv_at hl 2 rfl) ?_
                refine lv_iload_n hx hb dX12_isIdle_28 rfl (lv_at hl 3 rfl) ?_
                refine lv_iload_n hx hb dX12_isIdle_29 rfl (lv_at hl 1 rfl) ?_
                refine lv_iload_n hx hb dX12_isIdle_30 rfl (lv_at hl 0 rfl) ?_
                refine xcVi E hs hQ hml hl.1 0 (gX12_stands_0 l g ad hD S hI a1 x2_2 x14_3 ba1) mX12_stands q1866 (by decide) c29 rfl rfl ⟨(Nat.le_of_ble_eq_true rfl), (Nat.le_of_ble_eq_true rfl)⟩ ⟨(Nat.le_of_ble_eq_true rfl), (Nat.le_of_ble_eq_true rfl)⟩ (Nat.le_of_ble_eq_true rfl) rfl dX12_isIdle_31 (fun r60 S60 H locs hp60 hQ _ => ?_)
                obtain ⟨rfl, b60, fg60⟩ := hp60
                refine lv_if_ne (tgt := 40) hx hb dX12_isIdle_34 (by decide) (fun k61 => ?_) (fun k61 => ?_)
                · have h62 := ib_ne k61
                  have b63 : Bd r60 (1) (1) := rf_nlo b60 (by decide : Bd 0 (0) (0)) h62
                  refine lv_iconst (v := 1) hx hb dX12_isIdle_40 (by decide) ?_
                  refine lv_istore (lv' := [(4, .int 1), (3, .int x14_3), (2, .int x2_2), (0, .ref (ad 0)), (1, .int a1)]) hx hb dX12_isIdle_41 hl (by decide) rfl (fun ls hl => ?_)
                  refine lv_iconst (v := 0) hx hb dX12_isIdle_43 (by decide) ?_
                  refine lv_istore (lv' := [(5, .int 0), (4, .int 1), (3, .int x14_3), (2, .int x2_2), (0, .ref (ad 0)), (1, .int a1)]) hx hb dX12_isIdle_44 hl (by decide) rfl (fun ls hl => ?_)
                  have loop46 : ∀ (n : Nat) (H : Heap) (locs : List Loc) (ls : Array Slot) (x46_4 : Int32) (x46_5 : Int32), Bd x46_5 (0) (5) → (-1) * x46_5.toInt + 5 < ((n : Nat) : Int) → Hp g ad 20 S (FA ad 20) s.heap H locs → lv_has ls 6 [(5, .int x46_5), (4, .int x46_4), (3, .int x14_3), (2, .int x2_2), (0, .ref (ad 0)), (1, .int a1)] → W p l e (Rm 2) s m [.ref (ad 0), .int a1].toArray below meth c H locs 0 0 (MQ below (va_Qi (fun r S' => S = S' ∧ Bd r (0) (1)) (QB g ad 20) (FA ad 20)) [.ref (ad 0), .int a1].toArray s 0 0 (FA ad 20)) (F0 m 46 ls []) := by
                    intro n
                    induction n with
                    | zero => intro H locs ls x46_4 x46_5 Bx46_5 hn46_ hQ hl; exfalso; have := (Bx46_5).2; omega
                    | succ n46_ ih46 =>
                      intro H locs ls x46_4 x46_5 Bx46_5 hn46_ hQ hl
                      refine lv_iload hx hb dX12_isIdle_46 (lv_at hl 0 rfl) ?_
                      refine lv_iload_n hx hb dX12_isIdle_48 rfl (lv_at hl 5 rfl) ?_
                      refine lv_icmp_ge (tgt := 79) hx hb dX12_isIdle_49 (by decide) (fun k64 => ?_) (fun k64 => ?_)
                      · have h65 := ib_le k64
                        refine lv_iload hx hb dX12_isIdle_79 (lv_at hl 1 rfl) ?_
                        refine lv_if_eq (tgt := 86) hx hb dX12_isIdle_81 (by decide) (fun k66 => ?_) (fun k66 => ?_)
                        · have h67 := ib_eq k66
                          have b68 : Bd x46_4 (0) (0) := ⟨((rf_eq (ib_full x46_4) (by decide : Bd 0 (0) (0)) h67).1).1, ((rf_eq (ib_full x46_4) (by decide : Bd 0 (0) (0)) h67).1).2⟩
                          obtain ⟨z69, e70⟩ : ∃ z : Int32, z = x14_3 + 1 := ⟨_, rfl⟩
                          have t71 := ib_add e70 b49 (by decide : Bd 1 (1) (1)) (by decide) (by decide)
                          have b72 : Bd z69 (1) (3) := ib_addb t71 b49 (by decide : Bd 1 (1) (1))
                          have t71 : z69.toInt = x14_3.toInt + 1 := fold_add t71 rfl (by decide)
                          refine lv_iinc (v := z69) (lv' := [(3, .int z69), (5, .int x46_5), (4, .int x46_4), (2, .int x2_2), (0, .ref (ad 0)), (1, .int a1)]) hx hb dX12_isIdle_86 hl (k := 2) rfl (by rw [e70]; rfl) (by decide) rfl (fun ls hl => ?_)
                          refine lv_goto (tgt := 14) hx hb dX12_isIdle_89 (by decide) ?_
                          exact ih14 _ _ _ z69 (ib_wk b72 (by decide) (by decide)) (by omega) hQ (lv_sub hl [0, 3, 4, 5] rfl)
                        · have h73 := ib_ne k66
                          refine lv_iconst (v := 0) hx hb dX12_isIdle_84 (by decide) ?_
                          exact xrz E hr hlk hQ rfl (⟨rfl, (ib_wk (by decide : Bd 0 (0) (0)) (by decide) (by decide))⟩) dX12_isIdle_85
                      · have h74 := ib_nle k64
                        have b75 : Bd x46_5 (0) (4) := ⟨(Bx46_5).1, ((rf_lt Bx46_5 ba1 h74).1).2⟩
                        have b76 : Bd a1 (1) (5) := ⟨((rf_lt Bx46_5 ba1 h74).2).1, (ba1).2⟩
                        refine lv_iload hx hb dX12_isIdle_52 (lv_at hl 1 rfl) ?_
                        refine lv_aload_n hx hb dX12_isIdle_54 rfl (lv_at hl 4 rfl) ?_
                        refine lv_iload hx hb dX12_isIdle_55 (lv_at hl 0 rfl) ?_
                        refine lv_iload_n hx hb dX12_isIdle_57 rfl (lv_at hl 3 rfl) ?_
                        refine lv_iload_n hx hb dX12_isIdle_58 rfl (lv_at hl 2 rfl) ?_
                        refine xcVi E hs hQ hml hl.1 0 (gX12_stands_0 l g ad hD S hI x46_5 x2_2 x14_3 (ib_wk b75 (by decide) (by decide))) mX12_stands q1866 (by decide) c29 rfl rfl ⟨(Nat.le_of_ble_eq_true rfl), (Nat.le_of_ble_eq_true rfl)⟩ ⟨(Nat.le_of_ble_eq_true rfl), (Nat.le_of_ble_eq_true rfl)⟩ (Nat.le_of_ble_eq_true rfl) rfl dX12_isIdle_59 (fun r77 S77 H locs hp77 hQ _ => ?_)
                        obtain ⟨rfl, b77, fg77⟩ := hp77
                        refine lv_if_ne (tgt := 69) hx hb dX12_isIdle_62 (by decide) (fun k78 => ?_) (fun k78 => ?_)
                        · have h79 := ib_ne k78
                          have b80 : Bd r77 (1) (1) := rf_nlo b77 (by decide : Bd 0 (0) (0)) h79
                          refine lv_iconst (v := 0) hx hb dX12_isIdle_69 (by decide) ?_
                          refine lv_iand hx hb dX12_isIdle_70 ?_
                          refine lv_topi (fun z81 e82 => ?_)
                          refine lv_istore (lv' := [(4, .int z81), (5, .int x46_5), (3, .int x14_3), (2, .int x2_2), (0, .ref (ad 0)), (1, .int a1)]) hx hb dX12_isIdle_71 hl (by decide) rfl (fun ls hl => ?_)
                          obtain ⟨z83, e84⟩ : ∃ z : Int32, z = x46_5 + 1 := ⟨_, rfl⟩
                          have t85 := ib_add e84 b75 (by decide : Bd 1 (1) (1)) (by decide) (by decide)
                          have b86 : Bd z83 (1) (5) := ib_addb t85 b75 (by decide : Bd 1 (1) (1))
                          have t85 : z83.toInt = x46_5.toInt + 1 := fold_add t85 rfl (by decide)
                          refine lv_iinc (v := z83) (lv' := [(5, .int z83), (4, .int z81), (3, .int x14_3), (2, .int x2_2), (0, .ref (ad 0)), (1, .int a1)]) hx hb dX12_isIdle_73 hl (k := 1) rfl (by rw [e84]; rfl) (by decide) rfl (fun ls hl => ?_)
                          refine lv_goto (tgt := 46) hx hb dX12_isIdle_76 (by decide) ?_
                          exact ih46 _ _ _ z81 z83 (ib_wk b86 (by decide) (by decide)) (by omega) hQ (lv_sub hl [0, 1, 2, 3, 4, 5] rfl)
                        · have h87 := ib_eq k78
                          have b88 : Bd r77 (0) (0) := ⟨(b77).1, ((rf_eq b77 (by decide : Bd 0 (0) (0)) h87).1).2⟩
                          refine lv_iconst (v := 1) hx hb dX12_isIdle_65 (by decide) ?_
                          refine lv_goto (tgt := 70) hx hb dX12_isIdle_66 (by decide) ?_
                          refine lv_iand hx hb dX12_isIdle_70 ?_
                          refine lv_topi (fun z89 e90 => ?_)
                          have b91 : Bd z89 (0) (1) := ib_and 1 e90 (by decide) (by decide)
                          refine lv_istore (lv' := [(4, .int z89), (5, .int x46_5), (3, .int x14_3), (2, .int x2_2), (0, .ref (ad 0)), (1, .int a1)]) hx hb dX12_isIdle_71 hl (by decide) rfl (fun ls hl => ?_)
                          obtain ⟨z92, e93⟩ : ∃ z : Int32, z = x46_5 + 1 := ⟨_, rfl⟩
                          have t94 := ib_add e93 b75 (by decide : Bd 1 (1) (1)) (by decide) (by decide)
                          have b95 : Bd z92 (1) (5) := ib_addb t94 b75 (by decide : Bd 1 (1) (1))
                          have t94 : z92.toInt = x46_5.toInt + 1 := fold_add t94 rfl (by decide)
                          refine lv_iinc (v := z92) (lv' := [(5, .int z92), (4, .int z89), (3, .int x14_3), (2, .int x2_2), (0, .ref (ad 0)), (1, .int a1)]) hx hb dX12_isIdle_73 hl (k := 1) rfl (by rw [e93]; rfl) (by decide) rfl (fun ls hl => ?_)
                          refine lv_goto (tgt := 46) hx hb dX12_isIdle_76 (by decide) ?_
                          exact ih46 _ _ _ z89 z92 (ib_wk b95 (by decide) (by decide)) (by omega) hQ (lv_sub hl [0, 1, 2, 3, 4, 5] rfl)
                  obtain ⟨n46, hn46⟩ := fu_n (5)
                  exact loop46 n46 _ _ _ 1 0 (ib_wk (by decide : Bd 0 (0) (0)) (by decide) (by decide)) (by have : (1 : Int32).toInt = 1 := (by decide); have : (0 : Int32).toInt = 0 := (by decide); omega) hQ (lv_sub hl [0, 1, 2, 3, 4, 5] rfl)
                · have h96 := ib_eq k61
                  have b97 : Bd r60 (0) (0) := ⟨(b60).1, ((rf_eq b60 (by decide : Bd 0 (0) (0)) h96).1).2⟩
                  refine lv_goto (tgt := 86) hx hb dX12_isIdle_37 (by decide) ?_
                  obtain ⟨z98, e99⟩ : ∃ z : Int32, z = x14_3 + 1 := ⟨_, rfl⟩
                  have t100 := ib_add e99 b49 (by decide : Bd 1 (1) (1)) (by decide) (by decide)
                  have b101 : Bd z98 (1) (3) := ib_addb t100 b49 (by decide : Bd 1 (1) (1))
                  have t100 : z98.toInt = x14_3.toInt + 1 := fold_add t100 rfl (by decide)
                  refine lv_iinc (v := z98) (lv' := [(3, .int z98), (2, .int x2_2), (0, .ref (ad 0)), (1, .int a1)]) hx hb dX12_isIdle_86 hl (k := 0) rfl (by rw [e99]; rfl) (by decide) rfl (fun ls hl => ?_)
                  refine lv_goto (tgt := 14) hx hb dX12_isIdle_89 (by decide) ?_
                  exact ih14 _ _ _ z98 (ib_wk b101 (by decide) (by decide)) (by omega) hQ (lv_sub hl [0, 1, 2, 3] rfl)
        obtain ⟨n14, hn14⟩ := fu_n (3)
        exact loop14 n14 _ _ _ 0 (ib_wk (by decide : Bd 0 (0) (0)) (by decide) (by decide)) (by have : (0 : Int32).toInt = 0 := (by decide); omega) hQ (lv_sub hl [0, 1, 2, 3] rfl)
  obtain ⟨n2, hn2⟩ := fu_n (12)
  exact loop2 n2 _ _ _ 0 (ib_wk (by decide : Bd 0 (0) (0)) (by decide) (by decide)) (by have : (0 : Int32).toInt = 0 := (by decide); omega) hQ (lv_sub hl [0, 1, 2] rfl)
set_option maxHeartbeats 4000000 in
set_option maxRecDepth 100000 in
theorem gX12_dropOf_0 (l : Launch) (g : GG) (ad : Nat → Nat) (hD : Dj ad 20) (S : SS) (hI : InvM g ad S) (a1 : Int32) (a2 : Int32) (ba2 : Bd a2 (0) (99)) (hq1 : 0 ≤ elm (S 7) 0 + (-1)) (hq2 : 0 ≤ elm (S 7) 1 + (-1)) : Met l yX12_dropOf (wG (.code yX12_dropOf cX12_dropOf 5 (some .int))) (Rm 4) (XPre g ad 20 S [.ref (ad 0), .int a1, .int a2]) (va_Qi (fun _ S' => InvM g ad S' ∧ (∀ j, j ∉ ([0] : List Nat) → S' j = S j)) (QB g ad 20) (FA ad 20)) 0 0 (FA ad 20) := by
  refine xmet cX12_dropOf "EbbWreckModel" (by decide) rfl (Nat.le_of_ble_eq_true rfl) (fun p e s m below meth c E hr hlk hml hQ ls hl => ?_)
  have hx := E.1
  have hb := E.2.1
  have hs : Sp ad 20 (FA ad 20) := Sp.fa hD
  have hl : lv_has ls 5 [(0, .ref (ad 0)), (1, .int a1), (2, .int a2)] := hl
  obtain ⟨f1, c2, b3⟩ := invM_7 hI
  obtain ⟨v4, ee5⟩ : ∃ z : Int32, f1 0 = z := ⟨_, rfl⟩
  have b6 : Bd v4 (0) (12) := (by rw [← ee5]; exact b3.1 0 (by decide))
  obtain ⟨v7, ee8⟩ : ∃ z : Int32, f1 1 = z := ⟨_, rfl⟩
  have b9 : Bd v7 (0) (12) := (by rw [← ee8]; exact b3.2.1 1 (by decide))
  have q10 : elm (S 7) 0 = v4.toInt := (elm_of c2 0).trans (congrArg Int32.toInt (ee5))
  have b11 : Bd v4 (1) (12) := ⟨by omega, (b6).2⟩
  have q12 : elm (S 7) 1 = v7.toInt := (elm_of c2 1).trans (congrArg Int32.toInt (ee8))
  have b13 : Bd v7 (1) (12) := ⟨by omega, (b9).2⟩
  refine lv_iconst (v := 0) hx hb dX12_dropOf_0 (by decide) ?_
  refine lv_istore_n (lv' := [(3, .int 0), (0, .ref (ad 0)), (1, .int a1), (2, .int a2)]) hx hb dX12_dropOf_1 rfl hl (by decide) rfl (fun ls hl => ?_)
  refine lv_iconst (v := 0) hx hb dX12_dropOf_2 (by decide) ?_
  refine lv_istore (lv' := [(4, .int 0), (3, .int 0), (0, .ref (ad 0)), (1, .int a1), (2, .int a2)]) hx hb dX12_dropOf_3 hl (by decide) rfl (fun ls hl => ?_)
  obtain ⟨v14, v15, v17, v19, v21, v22, w23, v24, v26, v27, v28, v29, v31, v33, v35, v37, v39, v40, v41, c42, b16, b18, b20, b25, b30, b32, b34, b36, b38⟩ := invM_0 hI
  have c42 : S 0 = .inr (12, [.int v14, .ref (ad 1), .ref (ad 2), .ref (ad 3), .ref (ad 4), .ref (ad 5), .int v15, .int v17, .int v19, .int v21, .int v22, .long w23, .int v24, .int v26, .int v27, .int v28, .ref (ad 6), .ref (ad 7), .ref (ad 8), .ref (ad 9), .ref (ad 10), .ref (ad 11), .ref (ad 12), .ref (ad 13), .ref (ad 14), .ref (ad 15), .int v29, .int v31, .ref (ad 16), .int v33, .int v35, .int v37, .int v39, .int v40, .ref (ad 17), .ref (ad 18), .int v41, .ref (ad 19)]) := c42
  have loop5 : ∀ (n : Nat) (S_5 : SS) (H : Heap) (locs : List Loc) (ls : Array Slot) (x5_3 : Int32) (x5_4 : Int32) (y5_0_0 : Int32) (y5_0_6 : Int32) (y5_0_7 : Int32) (y5_0_8 : Int32) (y5_0_9 : Int32) (y5_0_10 : Int32) (wy5_0_11 : Int64) (y5_0_12 : Int32) (y5_0_13 : Int32) (y5_0_14 : Int32) (y5_0_15 : Int32) (y5_0_26 : Int32) (y5_0_27 : Int32) (y5_0_29 : Int32) (y5_0_30 : Int32) (y5_0_31 : Int32) (y5_0_32 : Int32) (y5_0_33 : Int32) (y5_0_36 : Int32), Bd x5_4 (0) (12) → Bd y5_0_6 (0) (1200) → Bd y5_0_7 (0) (1200) → Bd y5_0_8 (0) (4) → Bd y5_0_12 (0) (3) → Bd y5_0_26 (0) (11) → Bd y5_0_27 (-1) (400) → Bd y5_0_29 (0) (2) → Bd y5_0_30 (0) (11) → Bd y5_0_31 (-1) (468) → (-1) * x5_4.toInt + 12 < ((n : Nat) : Int) → InvM g ad S_5 → (∀ j, j ∉ ([0] : List Nat) → S_5 j = S j) → S_5 0 = .inr (12, [.int y5_0_0, .ref (ad 1), .ref (ad 2), .ref (ad 3), .ref (ad 4), .ref (ad 5), .int y5_0_6, .int y5_0_7, .int y5_0_8, .int y5_0_9, .int y5_0_10, .long wy5_0_11, .int y5_0_12, .int y5_0_13, .int y5_0_14, .int y5_0_15, .ref (ad 6), .ref (ad 7), .ref (ad 8), .ref (ad 9), .ref (ad 10), .ref (ad 11), .ref (ad 12), .ref (ad 13), .ref (ad 14), .ref (ad 15), .int y5_0_26, .int y5_0_27, .ref (ad 16), .int y5_0_29, .int y5_0_30, .int y5_0_31, .int y5_0_32, .int y5_0_33, .ref (ad 17), .ref (ad 18), .int y5_0_36, .ref (ad 19)]) → Hp g ad 20 S_5 (FA ad 20) s.heap H locs → lv_has ls 5 [(4, .int x5_4), (3, .int x5_3), (0, .ref (ad 0)), (1, .int a1), (2, .int a2)] → W p l e (Rm 4) s m [.ref (ad 0), .int a1, .int a2].toArray below meth c H locs 0 0 (MQ below (va_Qi (fun _ S' => InvM g ad S' ∧ (∀ j, j ∉ ([0] : List Nat) → S' j = S j)) (QB g ad 20) (FA ad 20)) [.ref (ad 0), .int a1, .int a2].toArray s 0 0 (FA ad 20)) (F0 m 5 ls []) := by
    intro n
    induction n with
    | zero => intro S_5 H locs ls x5_3 x5_4 y5_0_0 y5_0_6 y5_0_7 y5_0_8 y5_0_9 y5_0_10 wy5_0_11 y5_0_12 y5_0_13 y5_0_14 y5_0_15 y5_0_26 y5_0_27 y5_0_29 y5_0_30 y5_0_31 y5_0_32 y5_0_33 y5_0_36 Bx5_4 By5_0_6 By5_0_7 By5_0_8 By5_0_12 By5_0_26 By5_0_27 By5_0_29 By5_0_30 By5_0_31 hn5_ hI hf5 cl5_0 hQ hl; exfalso; have := (Bx5_4).2; omega
    | succ n5_ ih5 =>
      intro S_5 H locs ls x5_3 x5_4 y5_0_0 y5_0_6 y5_0_7 y5_0_8 y5_0_9 y5_0_10 wy5_0_11 y5_0_12 y5_0_13 y5_0_14 y5_0_15 y5_0_26 y5_0_27 y5_0_29 y5_0_30 y5_0_31 y5_0_32 y5_0_33 y5_0_36 Bx5_4 By5_0_6 By5_0_7 By5_0_8 By5_0_12 By5_0_26 By5_0_27 By5_0_29 By5_0_30 By5_0_31 hn5_ hI hf5 cl5_0 hQ hl
      refine lv_iload hx hb dX12_dropOf_5 (lv_at hl 0 rfl) ?_
      refine lv_aload_n hx hb dX12_dropOf_7 rfl (lv_at hl 2 rfl) ?_
      refine xget E hQ 0 (by decide) cl5_0 rfl 17 (by decide) q1485 rfl dX12_dropOf_8 ?_
      refine lv_iconst (v := 0) hx hb dX12_dropOf_11 (by decide) ?_
      have c43 : S_5 7 = .inl (g.2 0, 50, .inl f1) := ((hf5 7 (by decide)).trans c2)
      refine xiald E hQ 7 (by decide) c43 (vp_in_lit 0 50 (by decide)) dX12_dropOf_12 ?_
      refine sb_at (P := fun z => W _ _ _ _ _ _ _ _ _ _ _ _ _ _ _ (F0 _ _ _ (.int z :: _))) (show f1 (0 : Int32).toNatClampNeg = v4 from ee5) ?_
      refine lv_icmp_ge (tgt := 72) hx hb dX12_dropOf_13 (by decide) (fun k44 => ?_) (fun k44 => ?_)
      · have h45 := ib_le k44
        have b46 : Bd x5_4 (1) (12) := ⟨((rf_le b11 Bx5_4 h45).2).1, (Bx5_4).2⟩
        refine lv_iload_n hx hb dX12_dropOf_72 rfl (lv_at hl 1 rfl) ?_
        exact xri E hr hlk hQ (⟨hI, (o_trans o_refl hf5 (by decide))⟩) dX12_dropOf_73
      · have h47 := ib_nle k44
        have b48 : Bd x5_4 (0) (11) := ⟨(Bx5_4).1, ((rf_lt Bx5_4 b11 h47).1).2⟩
        refine lv_aload_n hx hb dX12_dropOf_16 rfl (lv_at hl 2 rfl) ?_
        refine lv_iload hx hb dX12_dropOf_17 (lv_at hl 0 rfl) ?_
        refine lv_iload_n hx hb dX12_dropOf_19 rfl (lv_at hl 4 rfl) ?_
        refine lv_sipush (v := 400) hx hb dX12_dropOf_20 (by decide) ?_
        have q49 : elm (S_5 7) 0 = v4.toInt := (elm_of c43 0).trans (congrArg Int32.toInt (ee5))
        have q50 : elm (S_5 7) 1 = v7.toInt := (elm_of c43 1).trans (congrArg Int32.toInt (ee8))
        refine xcVv E hs hQ hml hl.1 0 (gX12_floatsFrom_0 l g ad hD S_5 hI x5_4 a2 400 b48 (ib_wk ba2 (by decide) (by decide)) (ib_wk (by decide : Bd 400 (400) (400)) (by decide) (by decide)) (by omega) (by omega)) mX12_floatsFrom q1986 (by decide) cl5_0 rfl rfl ⟨(Nat.le_of_ble_eq_true rfl), (Nat.le_of_ble_eq_true rfl)⟩ ⟨(Nat.le_of_ble_eq_true rfl), (Nat.le_of_ble_eq_true rfl)⟩ (Nat.le_of_ble_eq_true rfl) rfl dX12_dropOf_23 (fun S51 H locs hp51 hQ _ => ?_)
        obtain ⟨hI, o51⟩ := hp51
        refine lv_iload_n hx hb dX12_dropOf_26 rfl (lv_at hl 1 rfl) ?_
        refine lv_aload_n hx hb dX12_dropOf_27 rfl (lv_at hl 2 rfl) ?_
        obtain ⟨v52, v53, v55, v57, v59, v60, w61, v62, v64, v65, v66, v67, v69, v71, v73, v75, v77, v78, v79, c80, b54, b56, b58, b63, b68, b70, b72, b74, b76⟩ := invM_0 hI
        have c80 : S51 0 = .inr (12, [.int v52, .ref (ad 1), .ref (ad 2), .ref (ad 3), .ref (ad 4), .ref (ad 5), .int v53, .int v55, .int v57, .int v59, .int v60, .long w61, .int v62, .int v64, .int v65, .int v66, .ref (ad 6), .ref (ad 7), .ref (ad 8), .ref (ad 9), .ref (ad 10), .ref (ad 11), .ref (ad 12), .ref (ad 13), .ref (ad 14), .ref (ad 15), .int v67, .int v69, .ref (ad 16), .int v71, .int v73, .int v75, .int v77, .int v78, .ref (ad 17), .ref (ad 18), .int v79, .ref (ad 19)]) := c80
        refine xget E hQ 0 (by decide) c80 rfl 31 (by decide) q1499 rfl dX12_dropOf_28 ?_
        refine lv_iconst (v := (-1)) hx hb dX12_dropOf_31 (by decide) ?_
        refine lv_icmp_eq (tgt := 63) hx hb dX12_dropOf_32 (by decide) (fun k81 => ?_) (fun k81 => ?_)
        · have h82 := ib_eq k81
          have b83 : Bd v75 (-1) (-1) := ⟨(b76).1, ((rf_eq b76 (by decide : Bd (-1) (-1) (-1)) h82).1).2⟩
          refine lv_iconst (v := 0) hx hb dX12_dropOf_63 (by decide) ?_
          refine lv_ior hx hb dX12_dropOf_64 ?_
          refine lv_topi (fun z84 e85 => ?_)
          refine lv_istore_n (lv' := [(3, .int z84), (4, .int x5_4), (0, .ref (ad 0)), (1, .int a1), (2, .int a2)]) hx hb dX12_dropOf_65 rfl hl (by decide) rfl (fun ls hl => ?_)
          obtain ⟨z86, e87⟩ : ∃ z : Int32, z = x5_4 + 1 := ⟨_, rfl⟩
          have t88 := ib_add e87 b48 (by decide : Bd 1 (1) (1)) (by decide) (by decide)
          have b89 : Bd z86 (1) (12) := ib_addb t88 b48 (by decide : Bd 1 (1) (1))
          have t88 : z86.toInt = x5_4.toInt + 1 := fold_add t88 rfl (by decide)
          refine lv_iinc (v := z86) (lv' := [(4, .int z86), (3, .int z84), (0, .ref (ad 0)), (1, .int a1), (2, .int a2)]) hx hb dX12_dropOf_66 hl (k := 1) rfl (by rw [e87]; rfl) (by decide) rfl (fun ls hl => ?_)
          refine lv_goto (tgt := 5) hx hb dX12_dropOf_69 (by decide) ?_
          exact ih5 _ _ _ _ z84 z86 v52 v53 v55 v57 v59 v60 w61 v62 v64 v65 v66 v67 v69 v71 v73 v75 v77 v78 v79 (ib_wk b89 (by decide) (by decide)) b54 b56 b58 b63 b68 b70 b72 b74 (ib_wk b83 (by decide) (by decide)) (by omega) hI (o_trans hf5 o51 (by decide)) c80 hQ (lv_sub hl [0, 1, 2, 3, 4] rfl)
        · have h90 := ib_ne k81
          have b91 : Bd v75 (0) (468) := rf_nlo b76 (by decide : Bd (-1) (-1) (-1)) h90
          refine lv_aload_n hx hb dX12_dropOf_35 rfl (lv_at hl 2 rfl) ?_
          refine lv_aload_n hx hb dX12_dropOf_36 rfl (lv_at hl 2 rfl) ?_
          refine xget E hQ 0 (by decide) c80 rfl 30 (by decide) q1498 rfl dX12_dropOf_37 ?_
          refine lv_aload_n hx hb dX12_dropOf_40 rfl (lv_at hl 2 rfl) ?_
          refine lv_aload_n hx hb dX12_dropOf_41 rfl (lv_at hl 2 rfl) ?_
          refine xget E hQ 0 (by decide) c80 rfl 31 (by decide) q1499 rfl dX12_dropOf_42 ?_
          have c92 : S51 7 = .inl (g.2 0, 50, .inl f1) := ((o51 7 (by decide)).trans c43)
          have q93 : elm (S51 7) 1 = v7.toInt := (elm_of c92 1).trans (congrArg Int32.toInt (ee8))
          refine xcVi E hs hQ hml hl.1 0 (gX12_phaseOf_0 l g ad hD S51 hI v75 (by omega)) mX12_phaseOf q1787 (by decide) c80 rfl rfl ⟨(Nat.le_of_ble_eq_true rfl), (Nat.le_of_ble_eq_true rfl)⟩ ⟨(Nat.le_of_ble_eq_true rfl), (Nat.le_of_ble_eq_true rfl)⟩ (Nat.le_of_ble_eq_true rfl) rfl dX12_dropOf_45 (fun r94 S94 H locs hp94 hQ _ => ?_)
          obtain ⟨rfl, b94, fg94⟩ := hp94
          refine lv_iconst (v := (-1)) hx hb dX12_dropOf_48 (by decide) ?_
          refine xcVi E hs hQ hml hl.1 0 (gX12_partyOf_0 l g ad hD S51 hI v73 r94 (-1)) mX12_partyOf q1862 (by decide) c80 rfl rfl ⟨(Nat.le_of_ble_eq_true rfl), (Nat.le_of_ble_eq_true rfl)⟩ ⟨(Nat.le_of_ble_eq_true rfl), (Nat.le_of_ble_eq_true rfl)⟩ (Nat.le_of_ble_eq_true rfl) rfl dX12_dropOf_49 (fun r95 S95 H locs hp95 hQ _ => ?_)
          obtain ⟨rfl, fg95⟩ := hp95
          refine lv_iload_n hx hb dX12_dropOf_52 rfl (lv_at hl 3 rfl) ?_
          refine lv_icmp_ne (tgt := 63) hx hb dX12_dropOf_53 (by decide) (fun k96 => ?_) (fun k96 => ?_)
          · have h97 := ib_ne k96
            refine lv_iconst (v := 0) hx hb dX12_dropOf_63 (by decide) ?_
            refine lv_ior hx hb dX12_dropOf_64 ?_
            refine lv_topi (fun z98 e99 => ?_)
            refine lv_istore_n (lv' := [(3, .int z98), (4, .int x5_4), (0, .ref (ad 0)), (1, .int a1), (2, .int a2)]) hx hb dX12_dropOf_65 rfl hl (by decide) rfl (fun ls hl => ?_)
            obtain ⟨z100, e101⟩ : ∃ z : Int32, z = x5_4 + 1 := ⟨_, rfl⟩
            have t102 := ib_add e101 b48 (by decide : Bd 1 (1) (1)) (by decide) (by decide)
            have b103 : Bd z100 (1) (12) := ib_addb t102 b48 (by decide : Bd 1 (1) (1))
            have t102 : z100.toInt = x5_4.toInt + 1 := fold_add t102 rfl (by decide)
            refine lv_iinc (v := z100) (lv' := [(4, .int z100), (3, .int z98), (0, .ref (ad 0)), (1, .int a1), (2, .int a2)]) hx hb dX12_dropOf_66 hl (k := 1) rfl (by rw [e101]; rfl) (by decide) rfl (fun ls hl => ?_)
            refine lv_goto (tgt := 5) hx hb dX12_dropOf_69 (by decide) ?_
            exact ih5 _ _ _ _ z98 z100 v52 v53 v55 v57 v59 v60 w61 v62 v64 v65 v66 v67 v69 v71 v73 v75 v77 v78 v79 (ib_wk b103 (by decide) (by decide)) b54 b56 b58 b63 b68 b70 b72 b74 (ib_wk b91 (by decide) (by decide)) (by omega) hI (o_trans hf5 o51 (by decide)) c80 hQ (lv_sub hl [0, 1, 2, 3, 4] rfl)
          · have h104 := ib_eq k96
            refine lv_iconst (v := 1) hx hb dX12_dropOf_56 (by decide) ?_
            refine lv_iload hx hb dX12_dropOf_57 (lv_at hl 0 rfl) ?_
            refine lv_ishl hx hb dX12_dropOf_59 ?_
            refine lv_topi (fun z105 e106 => ?_)
            refine lv_goto (tgt := 64) hx hb dX12_dropOf_60 (by decide) ?_
            refine lv_ior hx hb dX12_dropOf_64 ?_
            refine lv_topi (fun z107 e108 => ?_)
            refine lv_istore_n (lv' := [(3, .int z107), (4, .int x5_4), (0, .ref (ad 0)), (1, .int a1), (2, .int a2)]) hx hb dX12_dropOf_65 rfl hl (by decide) rfl (fun ls hl => ?_)
            obtain ⟨z109, e110⟩ : ∃ z : Int32, z = x5_4 + 1 := ⟨_, rfl⟩
            have t111 := ib_add e110 b48 (by decide : Bd 1 (1) (1)) (by decide) (by decide)
            have b112 : Bd z109 (1) (12) := ib_addb t111 b48 (by decide : Bd 1 (1) (1))
            have t111 : z109.toInt = x5_4.toInt + 1 := fold_add t111 rfl (by decide)
            refine lv_iinc (v := z109) (lv' := [(4, .int z109), (3, .int z107), (0, .ref (ad 0)), (1, .int a1), (2, .int a2)]) hx hb dX12_dropOf_66 hl (k := 1) rfl (by rw [e110]; rfl) (by decide) rfl (fun ls hl => ?_)
            refine lv_goto (tgt := 5) hx hb dX12_dropOf_69 (by decide) ?_
            exact ih5 _ _ _ _ z107 z109 v52 v53 v55 v57 v59 v60 w61 v62 v64 v65 v66 v67 v69 v71 v73 v75 v77 v78 v79 (ib_wk b112 (by decide) (by decide)) b54 b56 b58 b63 b68 b70 b72 b74 (ib_wk b91 (by decide) (by decide)) (by omega) hI (o_trans hf5 o51 (by decide)) c80 hQ (lv_sub hl [0, 1, 2, 3, 4] rfl)
  obtain ⟨n5, hn5⟩ := fu_n (12)
  exact loop5 n5 _ _ _ _ 0 0 v14 v15 v17 v19 v21 v22 w23 v24 v26 v27 v28 v29 v31 v33 v35 v37 v39 v40 v41 (ib_wk (by decide : Bd 0 (0) (0)) (by decide) (by decide)) b16 b18 b20 b25 b30 b32 b34 b36 b38 (by have : (0 : Int32).toInt = 0 := (by decide); omega) hI o_refl c42 hQ (lv_sub hl [0, 1, 2, 3, 4] rfl)
set_option maxHeartbeats 4000000 in
set_option maxRecDepth 100000 in
theorem gX12_carried_0 (l : Launch) (g : GG) (ad : Nat → Nat) (hD : Dj ad 20) (S : SS) (hI : InvM g ad S) (a1 : Int32) (a2 : Int32) (a3 : Int32) (a4 : Int32) (a5 : Int32) (ba1 : Bd a1 (0) (11)) (hq1 : 0 ≤ elm (S 7) 0 + (-1)) (hq2 : 0 ≤ elm (S 7) 1 + (-1)) : Met l yX12_carried (wG (.code yX12_carried cX12_carried 9 (some .int))) (Rm 2) (XPre g ad 20 S [.ref (ad 0), .int a1, .int a2, .int a3, .int a4, .int a5]) (va_Qi (fun r S' => S = S' ∧ Bd r (0) (11)) (QB g ad 20) (FA ad 20)) 0 0 (FA ad 20) := by
  refine xmet cX12_carried "EbbWreckModel" (by decide) rfl (Nat.le_of_ble_eq_true rfl) (fun p e s m below meth c E hr hlk hml hQ ls hl => ?_)
  have hx := E.1
  have hb := E.2.1
  have hs : Sp ad 20 (FA ad 20) := Sp.fa hD
  have hl : lv_has ls 9 [(0, .ref (ad 0)), (1, .int a1), (2, .int a2), (3, .int a3), (4, .int a4), (5, .int a5)] := hl
  obtain ⟨f1, c2, b3⟩ := invM_7 hI
  obtain ⟨v4, ee5⟩ : ∃ z : Int32, f1 0 = z := ⟨_, rfl⟩
  have b6 : Bd v4 (0) (12) := (by rw [← ee5]; exact b3.1 0 (by decide))
  obtain ⟨v7, ee8⟩ : ∃ z : Int32, f1 1 = z := ⟨_, rfl⟩
  have b9 : Bd v7 (0) (12) := (by rw [← ee8]; exact b3.2.1 1 (by decide))
  have q10 : elm (S 7) 0 = v4.toInt := (elm_of c2 0).trans (congrArg Int32.toInt (ee5))
  have b11 : Bd v4 (1) (12) := ⟨by omega, (b6).2⟩
  have q12 : elm (S 7) 1 = v7.toInt := (elm_of c2 1).trans (congrArg Int32.toInt (ee8))
  have b13 : Bd v7 (1) (12) := ⟨by omega, (b9).2⟩
  refine lv_iload_n hx hb dX12_carried_0 rfl (lv_at hl 1 rfl) ?_
  refine lv_istore (lv' := [(6, .int a1), (0, .ref (ad 0)), (1, .int a1), (2, .int a2), (3, .int a3), (4, .int a4), (5, .int a5)]) hx hb dX12_carried_1 hl (by decide) rfl (fun ls hl => ?_)
  refine lv_iload_n hx hb dX12_carried_3 rfl (lv_at hl 3 rfl) ?_
  refine lv_istore (lv' := [(7, .int a2), (6, .int a1), (0, .ref (ad 0)), (1, .int a1), (2, .int a2), (3, .int a3), (4, .int a4), (5, .int a5)]) hx hb dX12_carried_4 hl (by decide) rfl (fun ls hl => ?_)
  have loop6 : ∀ (n : Nat) (H : Heap) (locs : List Loc) (ls : Array Slot) (x6_6 : Int32) (x6_7 : Int32), Bd x6_6 (0) (11) → (-1) * x6_7.toInt + 2147483647 < ((n : Nat) : Int) → Hp g ad 20 S (FA ad 20) s.heap H locs → lv_has ls 9 [(7, .int x6_7), (6, .int x6_6), (0, .ref (ad 0)), (1, .int a1), (2, .int a2), (3, .int a3), (4, .int a4), (5, .int a5)] → W p l e (Rm 2) s m [.ref (ad 0), .int a1, .int a2, .int a3, .int a4, .int a5].toArray below meth c H locs 0 0 (MQ below (va_Qi (fun r S' => S = S' ∧ Bd r (0) (11)) (QB g ad 20) (FA ad 20)) [.ref (ad 0), .int a1, .int a2, .int a3, .int a4, .int a5].toArray s 0 0 (FA ad 20)) (F0 m 6 ls []) := by
    intro n
    induction n with
    | zero => intro H locs ls x6_6 x6_7 Bx6_6 hn6_ hQ hl; exfalso; have := (ib_full x6_7).2; omega
    | succ n6_ ih6 =>
      intro H locs ls x6_6 x6_7 Bx6_6 hn6_ hQ hl
      refine lv_iload hx hb dX12_carried_6 (lv_at hl 0 rfl) ?_
      refine lv_iload_n hx hb dX12_carried_8 rfl (lv_at hl 5 rfl) ?_
      refine lv_icmp_ge (tgt := 57) hx hb dX12_carried_9 (by decide) (fun k14 => ?_) (fun k14 => ?_)
      · have h15 := ib_le k14
        refine lv_iload hx hb dX12_carried_57 (lv_at hl 1 rfl) ?_
        exact xri E hr hlk hQ (⟨rfl, Bx6_6⟩) dX12_carried_59
      · have h16 := ib_nle k14
        have b17 : Bd x6_7 (-2147483648) (2147483646) := ⟨((ib_full x6_7)).1, ((rf_lt (ib_full x6_7) (ib_full a3) h16).1).2⟩
        have b18 : Bd a3 (-2147483647) (2147483647) := ⟨((rf_lt (ib_full x6_7) (ib_full a3) h16).2).1, ((ib_full a3)).2⟩
        refine lv_aload_n hx hb dX12_carried_12 rfl (lv_at hl 2 rfl) ?_
        refine lv_iload hx hb dX12_carried_13 (lv_at hl 0 rfl) ?_
        obtain ⟨v20, v21, v23, v25, v27, v28, w29, v30, v32, v33, v34, v35, v37, v39, v41, v43, v45, v46, v47, c48, b22, b24, b26, b31, b36, b38, b40, b42, b44⟩ := invM_0 hI
        have c48 : S 0 = .inr (12, [.int v20, .ref (ad 1), .ref (ad 2), .ref (ad 3), .ref (ad 4), .ref (ad 5), .int v21, .int v23, .int v25, .int v27, .int v28, .long w29, .int v30, .int v32, .int v33, .int v34, .ref (ad 6), .ref (ad 7), .ref (ad 8), .ref (ad 9), .ref (ad 10), .ref (ad 11), .ref (ad 12), .ref (ad 13), .ref (ad 14), .ref (ad 15), .int v35, .int v37, .ref (ad 16), .int v39, .int v41, .int v43, .int v45, .int v46, .ref (ad 17), .ref (ad 18), .int v47, .ref (ad 19)]) := c48
        refine xcVi E hs hQ hml hl.1 0 (gX12_phaseOf_0 l g ad hD S hI x6_7 (by omega)) mX12_phaseOf q1787 (by decide) c48 rfl rfl ⟨(Nat.le_of_ble_eq_true rfl), (Nat.le_of_ble_eq_true rfl)⟩ ⟨(Nat.le_of_ble_eq_true rfl), (Nat.le_of_ble_eq_true rfl)⟩ (Nat.le_of_ble_eq_true rfl) rfl dX12_carried_15 (fun r19 S19 H locs hp19 hQ _ => ?_)
        obtain ⟨rfl, b19, fg19⟩ := hp19
        refine lv_istore (lv' := [(8, .int r19), (7, .int x6_7), (6, .int x6_6), (0, .ref (ad 0)), (1, .int a1), (2, .int a2), (3, .int a3), (4, .int a4), (5, .int a5)]) hx hb dX12_carried_18 hl (by decide) rfl (fun ls hl => ?_)
        refine lv_aload_n hx hb dX12_carried_20 rfl (lv_at hl 3 rfl) ?_
        refine lv_iload hx hb dX12_carried_21 (lv_at hl 2 rfl) ?_
        refine lv_iload hx hb dX12_carried_23 (lv_at hl 0 rfl) ?_
        refine lv_if_ne (tgt := 33) hx hb dX12_carried_25 (by decide) (fun k49 => ?_) (fun k49 => ?_)
        · have h50 := ib_ne k49
          have b51 : Bd r19 (1) (2) := rf_nlo b19 (by decide : Bd 0 (0) (0)) h50
          refine lv_iload hx hb dX12_carried_33 (lv_at hl 0 rfl) ?_
          refine lv_iconst (v := 2) hx hb dX12_carried_35 (by decide) ?_
          refine lv_icmp_ne (tgt := 44) hx hb dX12_carried_36 (by decide) (fun k52 => ?_) (fun k52 => ?_)
          · have h53 := ib_ne k52
            have b54 : Bd r19 (1) (1) := rf_nhi b51 (by decide : Bd 2 (2) (2)) h53
            refine lv_iconst (v := 0) hx hb dX12_carried_44 (by decide) ?_
            refine lv_iadd hx hb dX12_carried_45 ?_
            refine lv_topi (fun z55 e56 => ?_)
            have t57 := ib_add e56 Bx6_6 (by decide : Bd 0 (0) (0)) (by decide) (by decide)
            have b58 : Bd z55 (0) (11) := ib_addb t57 Bx6_6 (by decide : Bd 0 (0) (0))
            have t57 : z55.toInt = x6_6.toInt + 0 := fold_add t57 rfl (by decide)
            refine xcVi E hs hQ hml hl.1 0 (gX12_held_0 l g ad hD S hI z55 (by omega)) mX12_held q1808 (by decide) c48 rfl rfl ⟨(Nat.le_of_ble_eq_true rfl), (Nat.le_of_ble_eq_true rfl)⟩ ⟨(Nat.le_of_ble_eq_true rfl), (Nat.le_of_ble_eq_true rfl)⟩ (Nat.le_of_ble_eq_true rfl) rfl dX12_carried_46 (fun r59 S59 H locs hp59 hQ _ => ?_)
            obtain ⟨rfl, b59, g59_0, fg59⟩ := hp59
            refine lv_istore (lv' := [(6, .int r59), (8, .int r19), (7, .int x6_7), (0, .ref (ad 0)), (1, .int a1), (2, .int a2), (3, .int a3), (4, .int a4), (5, .int a5)]) hx hb dX12_carried_49 hl (by decide) rfl (fun ls hl => ?_)
            obtain ⟨z60, e61⟩ : ∃ z : Int32, z = x6_7 + 1 := ⟨_, rfl⟩
            have t62 := ib_add e61 b17 (by decide : Bd 1 (1) (1)) (by decide) (by decide)
            have b63 : Bd z60 (-2147483647) (2147483647) := ib_addb t62 b17 (by decide : Bd 1 (1) (1))
            have t62 : z60.toInt = x6_7.toInt + 1 := fold_add t62 rfl (by decide)
            refine lv_iinc (v := z60) (lv' := [(7, .int z60), (6, .int r59), (8, .int r19), (0, .ref (ad 0)), (1, .int a1), (2, .int a2), (3, .int a3), (4, .int a4), (5, .int a5)]) hx hb dX12_carried_51 hl (k := 2) rfl (by rw [e61]; rfl) (by decide) rfl (fun ls hl => ?_)
            refine lv_goto (tgt := 6) hx hb dX12_carried_54 (by decide) ?_
            exact ih6 _ _ _ r59 z60 b59 (by omega) hQ (lv_sub hl [0, 1, 3, 4, 5, 6, 7, 8] rfl)
          · have h64 := ib_eq k52
            have b65 : Bd r19 (2) (2) := ⟨((rf_eq b51 (by decide : Bd 2 (2) (2)) h64).1).1, (b51).2⟩
            refine lv_iload hx hb dX12_carried_39 (lv_at hl 8 rfl) ?_
            refine lv_goto (tgt := 45) hx hb dX12_carried_41 (by decide) ?_
            refine lv_iadd hx hb dX12_carried_45 ?_
            refine lv_topi (fun z66 e67 => ?_)
            refine xcVi E hs hQ hml hl.1 0 (gX12_held_0 l g ad hD S hI z66 (by omega)) mX12_held q1808 (by decide) c48 rfl rfl ⟨(Nat.le_of_ble_eq_true rfl), (Nat.le_of_ble_eq_true rfl)⟩ ⟨(Nat.le_of_ble_eq_true rfl), (Nat.le_of_ble_eq_true rfl)⟩ (Nat.le_of_ble_eq_true rfl) rfl dX12_carried_46 (fun r68 S68 H locs hp68 hQ _ => ?_)
            obtain ⟨rfl, b68, g68_0, fg68⟩ := hp68
            refine lv_istore (lv' := [(6, .int r68), (8, .int r19), (7, .int x6_7), (0, .ref (ad 0)), (1, .int a1), (2, .int a2), (3, .int a3), (4, .int a4), (5, .int a5)]) hx hb dX12_carried_49 hl (by decide) rfl (fun ls hl => ?_)
            obtain ⟨z69, e70⟩ : ∃ z : Int32, z = x6_7 + 1 := ⟨_, rfl⟩
            have t71 := ib_add e70 b17 (by decide : Bd 1 (1) (1)) (by decide) (by decide)
            have b72 : Bd z69 (-2147483647) (2147483647) := ib_addb t71 b17 (by decide : Bd 1 (1) (1))
            have t71 : z69.toInt = x6_7.toInt + 1 := fold_add t71 rfl (by decide)
            refine lv_iinc (v := z69) (lv' := [(7, .int z69), (6, .int r68), (8, .int r19), (0, .ref (ad 0)), (1, .int a1), (2, .int a2), (3, .int a3), (4, .int a4), (5, .int a5)]) hx hb dX12_carried_51 hl (k := 2) rfl (by rw [e70]; rfl) (by decide) rfl (fun ls hl => ?_)
            refine lv_goto (tgt := 6) hx hb dX12_carried_54 (by decide) ?_
            exact ih6 _ _ _ r68 z69 b68 (by omega) hQ (lv_sub hl [0, 1, 3, 4, 5, 6, 7, 8] rfl)
        · have h73 := ib_eq k49
          have b74 : Bd r19 (0) (0) := ⟨(b19).1, ((rf_eq b19 (by decide : Bd 0 (0) (0)) h73).1).2⟩
          refine lv_iload hx hb dX12_carried_28 (lv_at hl 7 rfl) ?_
          refine lv_goto (tgt := 45) hx hb dX12_carried_30 (by decide) ?_
          refine lv_iadd hx hb dX12_carried_45 ?_
          refine lv_topi (fun z75 e76 => ?_)
          refine xcVi E hs hQ hml hl.1 0 (gX12_held_0 l g ad hD S hI z75 (by omega)) mX12_held q1808 (by decide) c48 rfl rfl ⟨(Nat.le_of_ble_eq_true rfl), (Nat.le_of_ble_eq_true rfl)⟩ ⟨(Nat.le_of_ble_eq_true rfl), (Nat.le_of_ble_eq_true rfl)⟩ (Nat.le_of_ble_eq_true rfl) rfl dX12_carried_46 (fun r77 S77 H locs hp77 hQ _ => ?_)
          obtain ⟨rfl, b77, g77_0, fg77⟩ := hp77
          refine lv_istore (lv' := [(6, .int r77), (8, .int r19), (7, .int x6_7), (0, .ref (ad 0)), (1, .int a1), (2, .int a2), (3, .int a3), (4, .int a4), (5, .int a5)]) hx hb dX12_carried_49 hl (by decide) rfl (fun ls hl => ?_)
          obtain ⟨z78, e79⟩ : ∃ z : Int32, z = x6_7 + 1 := ⟨_, rfl⟩
          have t80 := ib_add e79 b17 (by decide : Bd 1 (1) (1)) (by decide) (by decide)
          have b81 : Bd z78 (-2147483647) (2147483647) := ib_addb t80 b17 (by decide : Bd 1 (1) (1))
          have t80 : z78.toInt = x6_7.toInt + 1 := fold_add t80 rfl (by decide)
          refine lv_iinc (v := z78) (lv' := [(7, .int z78), (6, .int r77), (8, .int r19), (0, .ref (ad 0)), (1, .int a1), (2, .int a2), (3, .int a3), (4, .int a4), (5, .int a5)]) hx hb dX12_carried_51 hl (k := 2) rfl (by rw [e79]; rfl) (by decide) rfl (fun ls hl => ?_)
          refine lv_goto (tgt := 6) hx hb dX12_carried_54 (by decide) ?_
          exact ih6 _ _ _ r77 z78 b77 (by omega) hQ (lv_sub hl [0, 1, 3, 4, 5, 6, 7, 8] rfl)
  obtain ⟨n6, hn6⟩ := fu_n ((-1) * a2.toInt + 2147483647)
  exact loop6 n6 _ _ _ a1 a2 ba1 (by omega) hQ (lv_sub hl [0, 1, 2, 3, 4, 5, 6, 7] rfl)
set_option maxHeartbeats 4000000 in
set_option maxRecDepth 100000 in
theorem gX12_carried_any (l : Launch) (g : GG) (ad : Nat → Nat) (hD : Dj ad 20) (S : SS) (hI : InvM g ad S) (a1 : Int32) (a2 : Int32) (a3 : Int32) (a4 : Int32) (a5 : Int32) (hq1 : 0 ≤ elm (S 7) 0 + (-1)) (hq2 : 0 ≤ elm (S 7) 1 + (-1)) : Met l yX12_carried (wG (.code yX12_carried cX12_carried 9 (some .int))) (Rm 2) (XPre g ad 20 S [.ref (ad 0), .int a1, .int a2, .int a3, .int a4, .int a5]) (va_Qi (fun _ S' => S = S') (QB g ad 20) (FA ad 20)) 0 0 (FA ad 20) := by
  refine xmet cX12_carried "EbbWreckModel" (by decide) rfl (Nat.le_of_ble_eq_true rfl) (fun p e s m below meth c E hr hlk hml hQ ls hl => ?_)
  have hx := E.1
  have hb := E.2.1
  have hs : Sp ad 20 (FA ad 20) := Sp.fa hD
  have hl : lv_has ls 9 [(0, .ref (ad 0)), (1, .int a1), (2, .int a2), (3, .int a3), (4, .int a4), (5, .int a5)] := hl
  obtain ⟨f1, c2, b3⟩ := invM_7 hI
  obtain ⟨v4, ee5⟩ : ∃ z : Int32, f1 0 = z := ⟨_, rfl⟩
  have b6 : Bd v4 (0) (12) := (by rw [← ee5]; exact b3.1 0 (by decide))
  obtain ⟨v7, ee8⟩ : ∃ z : Int32, f1 1 = z := ⟨_, rfl⟩
  have b9 : Bd v7 (0) (12) := (by rw [← ee8]; exact b3.2.1 1 (by decide))
  have q10 : elm (S 7) 0 = v4.toInt := (elm_of c2 0).trans (congrArg Int32.toInt (ee5))
  have b11 : Bd v4 (1) (12) := ⟨by omega, (b6).2⟩
  have q12 : elm (S 7) 1 = v7.toInt := (elm_of c2 1).trans (congrArg Int32.toInt (ee8))
  have b13 : Bd v7 (1) (12) := ⟨by omega, (b9).2⟩
  refine lv_iload_n hx hb dX12_carried_0 rfl (lv_at hl 1 rfl) ?_
  refine lv_istore (lv' := [(6, .int a1), (0, .ref (ad 0)), (1, .int a1), (2, .int a2), (3, .int a3), (4, .int a4), (5, .int a5)]) hx hb dX12_carried_1 hl (by decide) rfl (fun ls hl => ?_)
  refine lv_iload_n hx hb dX12_carried_3 rfl (lv_at hl 3 rfl) ?_
  refine lv_istore (lv' := [(7, .int a2), (6, .int a1), (0, .ref (ad 0)), (1, .int a1), (2, .int a2), (3, .int a3), (4, .int a4), (5, .int a5)]) hx hb dX12_carried_4 hl (by decide) rfl (fun ls hl => ?_)
  have loop6 : ∀ (n : Nat) (H : Heap) (locs : List Loc) (ls : Array Slot) (x6_6 : Int32) (x6_7 : Int32), (-1) * x6_7.toInt + 2147483647 < ((n : Nat) : Int) → Hp g ad 20 S (FA ad 20) s.heap H locs → lv_has ls 9 [(7, .int x6_7), (6, .int x6_6), (0, .ref (ad 0)), (1, .int a1), (2, .int a2), (3, .int a3), (4, .int a4), (5, .int a5)] → W p l e (Rm 2) s m [.ref (ad 0), .int a1, .int a2, .int a3, .int a4, .int a5].toArray below meth c H locs 0 0 (MQ below (va_Qi (fun _ S' => S = S') (QB g ad 20) (FA ad 20)) [.ref (ad 0), .int a1, .int a2, .int a3, .int a4, .int a5].toArray s 0 0 (FA ad 20)) (F0 m 6 ls []) := by
    intro n
    induction n with
    | zero => intro H locs ls x6_6 x6_7 hn6_ hQ hl; exfalso; have := (ib_full x6_7).2; omega
    | succ n6_ ih6 =>
      intro H locs ls x6_6 x6_7 hn6_ hQ hl
      refine lv_iload hx hb dX12_carried_6 (lv_at hl 0 rfl) ?_
      refine lv_iload_n hx hb dX12_carried_8 rfl (lv_at hl 5 rfl) ?_
      refine lv_icmp_ge (tgt := 57) hx hb dX12_carried_9 (by decide) (fun k14 => ?_) (fun k14 => ?_)
      · have h15 := ib_le k14
        refine lv_iload hx hb dX12_carried_57 (lv_at hl 1 rfl) ?_
        exact xri E hr hlk hQ (rfl) dX12_carried_59
      · have h16 := ib_nle k14
        have b17 : Bd x6_7 (-2147483648) (2147483646) := ⟨((ib_full x6_7)).1, ((rf_lt (ib_full x6_7) (ib_full a3) h16).1).2⟩
        have b18 : Bd a3 (-2147483647) (2147483647) := ⟨((rf_lt (ib_full x6_7) (ib_full a3) h16).2).1, ((ib_full a3)).2⟩
        refine lv_aload_n hx hb dX12_carried_12 rfl (lv_at hl 2 rfl) ?_
        refine lv_iload hx hb dX12_carried_13 (lv_at hl 0 rfl) ?_
        obtain ⟨v20, v21, v23, v25, v27, v28, w29, v30, v32, v33, v34, v35, v37, v39, v41, v43, v45, v46, v47, c48, b22, b24, b26, b31, b36, b38, b40, b42, b44⟩ := invM_0 hI
        have c48 : S 0 = .inr (12, [.int v20, .ref (ad 1), .ref (ad 2), .ref (ad 3), .ref (ad 4), .ref (ad 5), .int v21, .int v23, .int v25, .int v27, .int v28, .long w29, .int v30, .int v32, .int v33, .int v34, .ref (ad 6), .ref (ad 7), .ref (ad 8), .ref (ad 9), .ref (ad 10), .ref (ad 11), .ref (ad 12), .ref (ad 13), .ref (ad 14), .ref (ad 15), .int v35, .int v37, .ref (ad 16), .int v39, .int v41, .int v43, .int v45, .int v46, .ref (ad 17), .ref (ad 18), .int v47, .ref (ad 19)]) := c48
        refine xcVi E hs hQ hml hl.1 0 (gX12_phaseOf_0 l g ad hD S hI x6_7 (by omega)) mX12_phaseOf q1787 (by decide) c48 rfl rfl ⟨(Nat.le_of_ble_eq_true rfl), (Nat.le_of_ble_eq_true rfl)⟩ ⟨(Nat.le_of_ble_eq_true rfl), (Nat.le_of_ble_eq_true rfl)⟩ (Nat.le_of_ble_eq_true rfl) rfl dX12_carried_15 (fun r19 S19 H locs hp19 hQ _ => ?_)
        obtain ⟨rfl, b19, fg19⟩ := hp19
        refine lv_istore (lv' := [(8, .int r19), (7, .int x6_7), (6, .int x6_6), (0, .ref (ad 0)), (1, .int a1), (2, .int a2), (3, .int a3), (4, .int a4), (5, .int a5)]) hx hb dX12_carried_18 hl (by decide) rfl (fun ls hl => ?_)
        refine lv_aload_n hx hb dX12_carried_20 rfl (lv_at hl 3 rfl) ?_
        refine lv_iload hx hb dX12_carried_21 (lv_at hl 2 rfl) ?_
        refine lv_iload hx hb dX12_carried_23 (lv_at hl 0 rfl) ?_
        refine lv_if_ne (tgt := 33) hx hb dX12_carried_25 (by decide) (fun k49 => ?_) (fun k49 => ?_)
        · have h50 := ib_ne k49
          have b51 : Bd r19 (1) (2) := rf_nlo b19 (by decide : Bd 0 (0) (0)) h50
          refine lv_iload hx hb dX12_carried_33 (lv_at hl 0 rfl) ?_
          refine lv_iconst (v := 2) hx hb dX12_carried_35 (by decide) ?_
          refine lv_icmp_ne (tgt := 44) hx hb dX12_carried_36 (by decide) (fun k52 => ?_) (fun k52 => ?_)
          · have h53 := ib_ne k52
            have b54 : Bd r19 (1) (1) := rf_nhi b51 (by decide : Bd 2 (2) (2)) h53
            refine lv_iconst (v := 0) hx hb dX12_carried_44 (by decide) ?_
            refine lv_iadd hx hb dX12_carried_45 ?_
            refine lv_topi (fun z55 e56 => ?_)
            have t57 := ib_add e56 (ib_full x6_6) (by decide : Bd 0 (0) (0)) (by decide) (by decide)
            have b58 : Bd z55 (-2147483648) (2147483647) := ib_addb t57 (ib_full x6_6) (by decide : Bd 0 (0) (0))
            have t57 : z55.toInt = x6_6.toInt + 0 := fold_add t57 rfl (by decide)
            refine xcVi E hs hQ hml hl.1 0 (gX12_held_0 l g ad hD S hI z55 (by omega)) mX12_held q1808 (by decide) c48 rfl rfl ⟨(Nat.le_of_ble_eq_true rfl), (Nat.le_of_ble_eq_true rfl)⟩ ⟨(Nat.le_of_ble_eq_true rfl), (Nat.le_of_ble_eq_true rfl)⟩ (Nat.le_of_ble_eq_true rfl) rfl dX12_carried_46 (fun r59 S59 H locs hp59 hQ _ => ?_)
            obtain ⟨rfl, b59, g59_0, fg59⟩ := hp59
            refine lv_istore (lv' := [(6, .int r59), (8, .int r19), (7, .int x6_7), (0, .ref (ad 0)), (1, .int a1), (2, .int a2), (3, .int a3), (4, .int a4), (5, .int a5)]) hx hb dX12_carried_49 hl (by decide) rfl (fun ls hl => ?_)
            obtain ⟨z60, e61⟩ : ∃ z : Int32, z = x6_7 + 1 := ⟨_, rfl⟩
            have t62 := ib_add e61 b17 (by decide : Bd 1 (1) (1)) (by decide) (by decide)
            have b63 : Bd z60 (-2147483647) (2147483647) := ib_addb t62 b17 (by decide : Bd 1 (1) (1))
            have t62 : z60.toInt = x6_7.toInt + 1 := fold_add t62 rfl (by decide)
            refine lv_iinc (v := z60) (lv' := [(7, .int z60), (6, .int r59), (8, .int r19), (0, .ref (ad 0)), (1, .int a1), (2, .int a2), (3, .int a3), (4, .int a4), (5, .int a5)]) hx hb dX12_carried_51 hl (k := 2) rfl (by rw [e61]; rfl) (by decide) rfl (fun ls hl => ?_)
            refine lv_goto (tgt := 6) hx hb dX12_carried_54 (by decide) ?_
            exact ih6 _ _ _ r59 z60 (by omega) hQ (lv_sub hl [0, 1, 3, 4, 5, 6, 7, 8] rfl)
          · have h64 := ib_eq k52
            have b65 : Bd r19 (2) (2) := ⟨((rf_eq b51 (by decide : Bd 2 (2) (2)) h64).1).1, (b51).2⟩
            refine lv_iload hx hb dX12_carried_39 (lv_at hl 8 rfl) ?_
            refine lv_goto (tgt := 45) hx hb dX12_carried_41 (by decide) ?_
            refine lv_iadd hx hb dX12_carried_45 ?_
            refine lv_topi (fun z66 e67 => ?_)
            refine xcVi E hs hQ hml hl.1 0 (gX12_held_0 l g ad hD S hI z66 (by omega)) mX12_held q1808 (by decide) c48 rfl rfl ⟨(Nat.le_of_ble_eq_true rfl), (Nat.le_of_ble_eq_true rfl)⟩ ⟨(Nat.le_of_ble_eq_true rfl), (Nat.le_of_ble_eq_true rfl)⟩ (Nat.le_of_ble_eq_true rfl) rfl dX12_carried_46 (fun r68 S68 H locs hp68 hQ _ => ?_)
            obtain ⟨rfl, b68, g68_0, fg68⟩ := hp68
            refine lv_istore (lv' := [(6, .int r68), (8, .int r19), (7, .int x6_7), (0, .ref (ad 0)), (1, .int a1), (2, .int a2), (3, .int a3), (4, .int a4), (5, .int a5)]) hx hb dX12_carried_49 hl (by decide) rfl (fun ls hl => ?_)
            obtain ⟨z69, e70⟩ : ∃ z : Int32, z = x6_7 + 1 := ⟨_, rfl⟩
            have t71 := ib_add e70 b17 (by decide : Bd 1 (1) (1)) (by decide) (by decide)
            have b72 : Bd z69 (-2147483647) (2147483647) := ib_addb t71 b17 (by decide : Bd 1 (1) (1))
            have t71 : z69.toInt = x6_7.toInt + 1 := fold_add t71 rfl (by decide)
            refine lv_iinc (v := z69) (lv' := [(7, .int z69), (6, .int r68), (8, .int r19), (0, .ref (ad 0)), (1, .int a1), (2, .int a2), (3, .int a3), (4, .int a4), (5, .int a5)]) hx hb dX12_carried_51 hl (k := 2) rfl (by rw [e70]; rfl) (by decide) rfl (fun ls hl => ?_)
            refine lv_goto (tgt := 6) hx hb dX12_carried_54 (by decide) ?_
            exact ih6 _ _ _ r68 z69 (by omega) hQ (lv_sub hl [0, 1, 3, 4, 5, 6, 7, 8] rfl)
        · have h73 := ib_eq k49
          have b74 : Bd r19 (0) (0) := ⟨(b19).1, ((rf_eq b19 (by decide : Bd 0 (0) (0)) h73).1).2⟩
          refine lv_iload hx hb dX12_carried_28 (lv_at hl 7 rfl) ?_
          refine lv_goto (tgt := 45) hx hb dX12_carried_30 (by decide) ?_
          refine lv_iadd hx hb dX12_carried_45 ?_
          refine lv_topi (fun z75 e76 => ?_)
          refine xcVi E hs hQ hml hl.1 0 (gX12_held_0 l g ad hD S hI z75 (by omega)) mX12_held q1808 (by decide) c48 rfl rfl ⟨(Nat.le_of_ble_eq_true rfl), (Nat.le_of_ble_eq_true rfl)⟩ ⟨(Nat.le_of_ble_eq_true rfl), (Nat.le_of_ble_eq_true rfl)⟩ (Nat.le_of_ble_eq_true rfl) rfl dX12_carried_46 (fun r77 S77 H locs hp77 hQ _ => ?_)
          obtain ⟨rfl, b77, g77_0, fg77⟩ := hp77
          refine lv_istore (lv' := [(6, .int r77), (8, .int r19), (7, .int x6_7), (0, .ref (ad 0)), (1, .int a1), (2, .int a2), (3, .int a3), (4, .int a4), (5, .int a5)]) hx hb dX12_carried_49 hl (by decide) rfl (fun ls hl => ?_)
          obtain ⟨z78, e79⟩ : ∃ z : Int32, z = x6_7 + 1 := ⟨_, rfl⟩
          have t80 := ib_add e79 b17 (by decide : Bd 1 (1) (1)) (by decide) (by decide)
          have b81 : Bd z78 (-2147483647) (2147483647) := ib_addb t80 b17 (by decide : Bd 1 (1) (1))
          have t80 : z78.toInt = x6_7.toInt + 1 := fold_add t80 rfl (by decide)
          refine lv_iinc (v := z78) (lv' := [(7, .int z78), (6, .int r77), (8, .int r19), (0, .ref (ad 0)), (1, .int a1), (2, .int a2), (3, .int a3), (4, .int a4), (5, .int a5)]) hx hb dX12_carried_51 hl (k := 2) rfl (by rw [e79]; rfl) (by decide) rfl (fun ls hl => ?_)
          refine lv_goto (tgt := 6) hx hb dX12_carried_54 (by decide) ?_
          exact ih6 _ _ _ r77 z78 (by omega) hQ (lv_sub hl [0, 1, 3, 4, 5, 6, 7, 8] rfl)
  obtain ⟨n6, hn6⟩ := fu_n ((-1) * a2.toInt + 2147483647)
  exact loop6 n6 _ _ _ a1 a2 (by omega) hQ (lv_sub hl [0, 1, 2, 3, 4, 5, 6, 7] rfl)
set_option maxHeartbeats 4000000 in
set_option maxRecDepth 100000 in
theorem gX12_areFit_0 (l : Launch) (g : GG) (ad : Nat → Nat) (hD : Dj ad 20) (S : SS) (hI : InvM g ad S) (a1 : Int32) (a2 : Int32) (a3 : Int32) (ba1 : Bd a1 (0) (3)) (hq1 : 0 ≤ elm (S 7) 0 + (-1)) (hq2 : 0 ≤ elm (S 7) 1 + (-1)) : Met l yX12_areFit (wG (.code yX12_areFit cX12_areFit 6 (some .boolean))) (Rm 3) (XPre g ad 20 S [.ref (ad 0), .int a1, .int a2, .int a3]) (va_Qi (fun r S' => S = S' ∧ Bd r (0) (1)) (QB g ad 20) (FA ad 20)) 0 0 (FA ad 20) := by
  refine xmet cX12_areFit "EbbWreckModel" (by decide) rfl (Nat.le_of_ble_eq_true rfl) (fun p e s m below meth c E hr hlk hml hQ ls hl => ?_)
  have hx := E.1
  have hb := E.2.1
  have hs : Sp ad 20 (FA ad 20) := Sp.fa hD
  have hl : lv_has ls 6 [(0, .ref (ad 0)), (1, .int a1), (2, .int a2), (3, .int a3)] := hl
  obtain ⟨f1, c2, b3⟩ := invM_7 hI
  obtain ⟨v4, ee5⟩ : ∃ z : Int32, f1 0 = z := ⟨_, rfl⟩
  have b6 : Bd v4 (0) (12) := (by rw [← ee5]; exact b3.1 0 (by decide))
  obtain ⟨v7, ee8⟩ : ∃ z : Int32, f1 1 = z := ⟨_, rfl⟩
  have b9 : Bd v7 (0) (12) := (by rw [← ee8]; exact b3.2.1 1 (by decide))
  have q10 : elm (S 7) 0 = v4.toInt := (elm_of c2 0).trans (congrArg Int32.toInt (ee5))
  have b11 : Bd v4 (1) (12) := ⟨by omega, (b6).2⟩
  have q12 : elm (S 7) 1 = v7.toInt := (elm_of c2 1).trans (congrArg Int32.toInt (ee8))
  have b13 : Bd v7 (1) (12) := ⟨by omega, (b9).2⟩
  refine lv_iconst (v := 0) hx hb dX12_areFit_0 (by decide) ?_
  refine lv_istore (lv' := [(4, .int 0), (0, .ref (ad 0)), (1, .int a1), (2, .int a2), (3, .int a3)]) hx hb dX12_areFit_1 hl (by decide) rfl (fun ls hl => ?_)
  have loop3 : ∀ (n : Nat) (H : Heap) (locs : List Loc) (ls : Array Slot) (x3_4 : Int32), Bd x3_4 (0) (60) → (-1) * x3_4.toInt + 60 < ((n : Nat) : Int) → x3_4.toInt % 4 = 0 → Hp g ad 20 S (FA ad 20) s.heap H locs → lv_has ls 6 [(4, .int x3_4), (0, .ref (ad 0)), (1, .int a1), (2, .int a2), (3, .int a3)] → W p l e (Rm 3) s m [.ref (ad 0), .int a1, .int a2, .int a3].toArray below meth c H locs 0 0 (MQ below (va_Qi (fun r S' => S = S' ∧ Bd r (0) (1)) (QB g ad 20) (FA ad 20)) [.ref (ad 0), .int a1, .int a2, .int a3].toArray s 0 0 (FA ad 20)) (F0 m 3 ls []) := by
    intro n
    induction n with
    | zero => intro H locs ls x3_4 Bx3_4 hn3_ hC3 hQ hl; exfalso; have := (Bx3_4).2; omega
    | succ n3_ ih3 =>
      intro H locs ls x3_4 Bx3_4 hn3_ hC3 hQ hl
      refine lv_iload hx hb dX12_areFit_3 (lv_at hl 0 rfl) ?_
      refine lv_aload_n hx hb dX12_areFit_5 rfl (lv_at hl 1 rfl) ?_
      obtain ⟨v14, v15, v17, v19, v21, v22, w23, v24, v26, v27, v28, v29, v31, v33, v35, v37, v39, v40, v41, c42, b16, b18, b20, b25, b30, b32, b34, b36, b38⟩ := invM_0 hI
      have c42 : S 0 = .inr (12, [.int v14, .ref (ad 1), .ref (ad 2), .ref (ad 3), .ref (ad 4), .ref (ad 5), .int v15, .int v17, .int v19, .int v21, .int v22, .long w23, .int v24, .int v26, .int v27, .int v28, .ref (ad 6), .ref (ad 7), .ref (ad 8), .ref (ad 9), .ref (ad 10), .ref (ad 11), .ref (ad 12), .ref (ad 13), .ref (ad 14), .ref (ad 15), .int v29, .int v31, .ref (ad 16), .int v33, .int v35, .int v37, .int v39, .int v40, .ref (ad 17), .ref (ad 18), .int v41, .ref (ad 19)]) := c42
      refine xget E hQ 0 (by decide) c42 rfl 2 (by decide) q1470 rfl dX12_areFit_6 ?_
      refine lv_iload_n hx hb dX12_areFit_9 rfl (lv_at hl 2 rfl) ?_
      obtain ⟨f43, c44, b45⟩ := invM_2 hI
      refine xiald E hQ 2 (by decide) c44 (ib_in ba1 (by decide) (by decide)) dX12_areFit_10 ?_
      refine lv_topi (fun z46 e47 => ?_)
      have b48 : Bd z46 (0) (60) := (by rw [e47]; exact b45 _)
      refine lv_icmp_ge (tgt := 79) hx hb dX12_areFit_11 (by decide) (fun k49 => ?_) (fun k49 => ?_)
      · have h50 := ib_le k49
        refine lv_iconst (v := 1) hx hb dX12_areFit_79 (by decide) ?_
        exact xrz E hr hlk hQ rfl (⟨rfl, (ib_wk (by decide : Bd 1 (1) (1)) (by decide) (by decide))⟩) dX12_areFit_80
      · have h51 := ib_nle k49
        have b52 : Bd x3_4 (0) (59) := ⟨(Bx3_4).1, ((rf_lt Bx3_4 b48 h51).1).2⟩
        have b53 : Bd z46 (1) (60) := ⟨((rf_lt Bx3_4 b48 h51).2).1, (b48).2⟩
        have b54 : Bd x3_4 (0) (56) := ⟨(b52).1, by omega⟩
        refine lv_bipush (v := 60) hx hb dX12_areFit_14 (by decide) ?_
        refine lv_iload_n hx hb dX12_areFit_16 rfl (lv_at hl 2 rfl) ?_
        refine lv_imul hx hb dX12_areFit_17 ?_
        refine lv_topi (fun z55 e56 => ?_)
        have t57 := ib_cmul (q := 60) e56 (by decide) (by decide) ba1 (by decide) (by decide)
        have b58 : Bd z55 (0) (180) := ib_mulb t57 (by decide) ba1
        refine lv_iload hx hb dX12_areFit_18 (lv_at hl 0 rfl) ?_
        refine lv_iadd hx hb dX12_areFit_20 ?_
        refine lv_topi (fun z59 e60 => ?_)
        have t61 := ib_add e60 b58 b54 (by decide) (by decide)
        have b62 : Bd z59 (0) (236) := ib_addb t61 b58 b54
        refine lv_istore (lv' := [(5, .int z59), (4, .int x3_4), (0, .ref (ad 0)), (1, .int a1), (2, .int a2), (3, .int a3)]) hx hb dX12_areFit_21 hl (by decide) rfl (fun ls hl => ?_)
        refine lv_aload_n hx hb dX12_areFit_23 rfl (lv_at hl 2 rfl) ?_
        refine lv_aload_n hx hb dX12_areFit_24 rfl (lv_at hl 2 rfl) ?_
        refine xget E hQ 0 (by decide) c42 rfl 3 (by decide) q1471 rfl dX12_areFit_25 ?_
        refine lv_iload hx hb dX12_areFit_28 (lv_at hl 0 rfl) ?_
        obtain ⟨f63, c64⟩ := invM_3 hI
        refine xlald E hQ 3 (by decide) c64 (ib_in b62 (by decide) (by decide)) dX12_areFit_30 ?_
        refine lv_topl (fun w66 e67 => ?_)
        refine lv_l2i hx hb dX12_areFit_31 rfl ?_
        refine lv_topi (fun z68 e69 => ?_)
        refine lv_aload_n hx hb dX12_areFit_32 rfl (lv_at hl 2 rfl) ?_
        refine xget E hQ 0 (by decide) c42 rfl 3 (by decide) q1471 rfl dX12_areFit_33 ?_
        refine lv_iload hx hb dX12_areFit_36 (lv_at hl 0 rfl) ?_
        refine lv_iconst (v := 1) hx hb dX12_areFit_38 (by decide) ?_
        refine lv_iadd hx hb dX12_areFit_39 ?_
        refine lv_topi (fun z70 e71 => ?_)
        have t72 := ib_add e71 b62 (by decide : Bd 1 (1) (1)) (by decide) (by decide)
        have b73 : Bd z70 (1) (237) := ib_addb t72 b62 (by decide : Bd 1 (1) (1))
        have t72 : z70.toInt = z59.toInt + 1 := fold_add t72 rfl (by decide)
        refine xlald E hQ 3 (by decide) c64 (ib_in b73 (by decide) (by decide)) dX12_areFit_40 ?_
        refine lv_topl (fun w74 e75 => ?_)
        refine lv_l2i hx hb dX12_areFit_41 rfl ?_
        refine lv_topi (fun z76 e77 => ?_)
        refine lv_aload_n hx hb dX12_areFit_42 rfl (lv_at hl 2 rfl) ?_
        refine xget E hQ 0 (by decide) c42 rfl 3 (by decide) q1471 rfl dX12_areFit_43 ?_
        refine lv_iload hx hb dX12_areFit_46 (lv_at hl 0 rfl) ?_
        refine lv_iconst (v := 2) hx hb dX12_areFit_48 (by decide) ?_
        refine lv_iadd hx hb dX12_areFit_49 ?_
        refine lv_topi (fun z78 e79 => ?_)
        have t80 := ib_add e79 b62 (by decide : Bd 2 (2) (2)) (by decide) (by decide)
        have b81 : Bd z78 (2) (238) := ib_addb t80 b62 (by decide : Bd 2 (2) (2))
        have t80 : z78.toInt = z59.toInt + 2 := fold_add t80 rfl (by decide)
        refine xlald E hQ 3 (by decide) c64 (ib_in b81 (by decide) (by decide)) dX12_areFit_50 ?_
        refine lv_topl (fun w82 e83 => ?_)
        refine lv_l2i hx hb dX12_areFit_51 rfl ?_
        refine lv_topi (fun z84 e85 => ?_)
        refine lv_iload_n hx hb dX12_areFit_52 rfl (lv_at hl 4 rfl) ?_
        refine lv_iload_n hx hb dX12_areFit_53 rfl (lv_at hl 5 rfl) ?_
        refine xcVi E hs hQ hml hl.1 0 (gX12_carried_any l g ad hD S hI z68 z76 z84 a2 a3 (by omega) (by omega)) mX12_carried q2031 (by decide) c42 rfl rfl ⟨(Nat.le_of_ble_eq_true rfl), (Nat.le_of_ble_eq_true rfl)⟩ ⟨(Nat.le_of_ble_eq_true rfl), (Nat.le_of_ble_eq_true rfl)⟩ (Nat.le_of_ble_eq_true rfl) rfl dX12_areFit_54 (fun r86 S86 H locs hp86 hQ _ => ?_)
        subst hp86
        refine lv_i2l hx hb dX12_areFit_57 rfl ?_
        refine lv_topl (fun w87 e88 => ?_)
        have t89 : w87.toInt = r86.toInt := by rw [e88]; exact i2l_i _
        have b90 : BdL w87 (-2147483648) (2147483647) := (by have h1 := ((ib_full r86)).1; have h2 := ((ib_full r86)).2; exact ⟨by omega, by omega⟩)
        refine lv_aload_n hx hb dX12_areFit_58 rfl (lv_at hl 2 rfl) ?_
        refine xget E hQ 0 (by decide) c42 rfl 3 (by decide) q1471 rfl dX12_areFit_59 ?_
        refine lv_iload hx hb dX12_areFit_62 (lv_at hl 0 rfl) ?_
        refine lv_iconst (v := 3) hx hb dX12_areFit_64 (by decide) ?_
        refine lv_iadd hx hb dX12_areFit_65 ?_
        refine lv_topi (fun z91 e92 => ?_)
        have t93 := ib_add e92 b62 (by decide : Bd 3 (3) (3)) (by decide) (by decide)
        have b94 : Bd z91 (3) (239) := ib_addb t93 b62 (by decide : Bd 3 (3) (3))
        have t93 : z91.toInt = z59.toInt + 3 := fold_add t93 rfl (by decide)
        refine xlald E hQ 3 (by decide) c64 (ib_in b94 (by decide) (by decide)) dX12_areFit_66 ?_
        refine lv_topl (fun w95 e96 => ?_)
        refine W.lcmp hx hb dX12_areFit_67 ?_
        refine lv_if_eq (tgt := 73) hx hb dX12_areFit_68 (by decide) (fun k97 => ?_) (fun k97 => ?_)
        · have h98 := lc_eq k97
          have b99 : BdL w95 (-2147483648) (2147483647) := ⟨((rf_eqL b90 (ib_fullL w95) h98).2).1, ((rf_eqL b90 (ib_fullL w95) h98).2).2⟩
          obtain ⟨z100, e101⟩ : ∃ z : Int32, z = x3_4 + 4 := ⟨_, rfl⟩
          have t102 := ib_add e101 b54 (by decide : Bd 4 (4) (4)) (by decide) (by decide)
          have b103 : Bd z100 (4) (60) := ib_addb t102 b54 (by decide : Bd 4 (4) (4))
          have t102 : z100.toInt = x3_4.toInt + 4 := fold_add t102 rfl (by decide)
          refine lv_iinc (v := z100) (lv' := [(4, .int z100), (5, .int z59), (0, .ref (ad 0)), (1, .int a1), (2, .int a2), (3, .int a3)]) hx hb dX12_areFit_73 hl (k := 1) rfl (by rw [e101]; rfl) (by decide) rfl (fun ls hl => ?_)
          refine lv_goto (tgt := 3) hx hb dX12_areFit_76 (by decide) ?_
          exact ih3 _ _ _ z100 (ib_wk b103 (by decide) (by decide)) (by omega) (by omega) hQ (lv_sub hl [0, 2, 3, 4, 5] rfl)
        · have h104 := lc_ne k97
          refine lv_iconst (v := 0) hx hb dX12_areFit_71 (by decide) ?_
          exact xrz E hr hlk hQ rfl (⟨rfl, (ib_wk (by decide : Bd 0 (0) (0)) (by decide) (by decide))⟩) dX12_areFit_72
  obtain ⟨n3, hn3⟩ := fu_n (60)
  exact loop3 n3 _ _ _ 0 (ib_wk (by decide : Bd 0 (0) (0)) (by decide) (by decide)) (by have : (0 : Int32).toInt = 0 := (by decide); omega) (by decide) hQ (lv_sub hl [0, 1, 2, 3, 4] rfl)
set_option maxHeartbeats 4000000 in
set_option maxRecDepth 100000 in
theorem gX12_fitsOf_0 (l : Launch) (g : GG) (ad : Nat → Nat) (hD : Dj ad 20) (S : SS) (hI : InvM g ad S) (a1 : Int32) (ba1 : Bd a1 (0) (3)) (hq1 : 0 ≤ elm (S 7) 0 + (-1)) (hq2 : 0 ≤ elm (S 7) 1 + (-1)) : Met l yX12_fitsOf (wG (.code yX12_fitsOf cX12_fitsOf 5 (some .int))) (Rm 4) (XPre g ad 20 S [.ref (ad 0), .int a1]) (va_Qi (fun _ S' => S = S') (QB g ad 20) (FA ad 20)) 0 0 (FA ad 20) := by
  refine xmet cX12_fitsOf "EbbWreckModel" (by decide) rfl (Nat.le_of_ble_eq_true rfl) (fun p e s m below meth c E hr hlk hml hQ ls hl => ?_)
  have hx := E.1
  have hb := E.2.1
  have hs : Sp ad 20 (FA ad 20) := Sp.fa hD
  have hl : lv_has ls 5 [(0, .ref (ad 0)), (1, .int a1)] := hl
  obtain ⟨f1, c2, b3⟩ := invM_7 hI
  obtain ⟨v4, ee5⟩ : ∃ z : Int32, f1 0 = z := ⟨_, rfl⟩
  have b6 : Bd v4 (0) (12) := (by rw [← ee5]; exact b3.1 0 (by decide))
  obtain ⟨v7, ee8⟩ : ∃ z : Int32, f1 1 = z := ⟨_, rfl⟩
  have b9 : Bd v7 (0) (12) := (by rw [← ee8]; exact b3.2.1 1 (by decide))
  have q10 : elm (S 7) 0 = v4.toInt := (elm_of c2 0).trans (congrArg Int32.toInt (ee5))
  have b11 : Bd v4 (1) (12) := ⟨by omega, (b6).2⟩
  have q12 : elm (S 7) 1 = v7.toInt := (elm_of c2 1).trans (congrArg Int32.toInt (ee8))
  have b13 : Bd v7 (1) (12) := ⟨by omega, (b9).2⟩
  refine lv_iconst (v := 0) hx hb dX12_fitsOf_0 (by decide) ?_
  refine lv_istore_n (lv' := [(2, .int 0), (0, .ref (ad 0)), (1, .int a1)]) hx hb dX12_fitsOf_1 rfl hl (by decide) rfl (fun ls hl => ?_)
  refine lv_bipush (v := (-3)) hx hb dX12_fitsOf_2 (by decide) ?_
  refine lv_istore_n (lv' := [(3, .int (-3)), (2, .int 0), (0, .ref (ad 0)), (1, .int a1)]) hx hb dX12_fitsOf_4 rfl hl (by decide) rfl (fun ls hl => ?_)
  have loop5 : ∀ (n : Nat) (H : Heap) (locs : List Loc) (ls : Array Slot) (x5_2 : Int32) (x5_3 : Int32), Bd x5_3 (-3) (4) → (-1) * x5_3.toInt + 4 < ((n : Nat) : Int) → Hp g ad 20 S (FA ad 20) s.heap H locs → lv_has ls 5 [(3, .int x5_3), (2, .int x5_2), (0, .ref (ad 0)), (1, .int a1)] → W p l e (Rm 4) s m [.ref (ad 0), .int a1].toArray below meth c H locs 0 0 (MQ below (va_Qi (fun _ S' => S = S') (QB g ad 20) (FA ad 20)) [.ref (ad 0), .int a1].toArray s 0 0 (FA ad 20)) (F0 m 5 ls []) := by
    intro n
    induction n with
    | zero => intro H locs ls x5_2 x5_3 Bx5_3 hn5_ hQ hl; exfalso; have := (Bx5_3).2; omega
    | succ n5_ ih5 =>
      intro H locs ls x5_2 x5_3 Bx5_3 hn5_ hQ hl
      refine lv_iload_n hx hb dX12_fitsOf_5 rfl (lv_at hl 0 rfl) ?_
      refine lv_iconst (v := 3) hx hb dX12_fitsOf_6 (by decide) ?_
      refine lv_icmp_gt (tgt := 51) hx hb dX12_fitsOf_7 (by decide) (fun k14 => ?_) (fun k14 => ?_)
      · have h15 := ib_lt k14
        have b16 : Bd x5_3 (4) (4) := ⟨((rf_lt (by decide : Bd 3 (3) (3)) Bx5_3 h15).2).1, (Bx5_3).2⟩
        refine lv_iload_n hx hb dX12_fitsOf_51 rfl (lv_at hl 1 rfl) ?_
        exact xri E hr hlk hQ (rfl) dX12_fitsOf_52
      · have h17 := ib_nlt k14
        have b18 : Bd x5_3 (-3) (3) := ⟨(Bx5_3).1, ((rf_le Bx5_3 (by decide : Bd 3 (3) (3)) h17).1).2⟩
        refine lv_bipush (v := (-3)) hx hb dX12_fitsOf_10 (by decide) ?_
        refine lv_istore (lv' := [(4, .int (-3)), (3, .int x5_3), (2, .int x5_2), (0, .ref (ad 0)), (1, .int a1)]) hx hb dX12_fitsOf_12 hl (by decide) rfl (fun ls hl => ?_)
        have loop14 : ∀ (n : Nat) (H : Heap) (locs : List Loc) (ls : Array Slot) (x14_2 : Int32) (x14_4 : Int32), Bd x14_4 (-3) (4) → (-1) * x14_4.toInt + 4 < ((n : Nat) : Int) → Hp g ad 20 S (FA ad 20) s.heap H locs → lv_has ls 5 [(4, .int x14_4), (3, .int x5_3), (2, .int x14_2), (0, .ref (ad 0)), (1, .int a1)] → W p l e (Rm 4) s m [.ref (ad 0), .int a1].toArray below meth c H locs 0 0 (MQ below (va_Qi (fun _ S' => S = S') (QB g ad 20) (FA ad 20)) [.ref (ad 0), .int a1].toArray s 0 0 (FA ad 20)) (F0 m 14 ls []) := by
          intro n
          induction n with
          | zero => intro H locs ls x14_2 x14_4 Bx14_4 hn14_ hQ hl; exfalso; have := (Bx14_4).2; omega
          | succ n14_ ih14 =>
            intro H locs ls x14_2 x14_4 Bx14_4 hn14_ hQ hl
            refine lv_iload hx hb dX12_fitsOf_14 (lv_at hl 0 rfl) ?_
            refine lv_iconst (v := 3) hx hb dX12_fitsOf_16 (by decide) ?_
            refine lv_icmp_gt (tgt := 45) hx hb dX12_fitsOf_17 (by decide) (fun k19 => ?_) (fun k19 => ?_)
            · have h20 := ib_lt k19
              have b21 : Bd x14_4 (4) (4) := ⟨((rf_lt (by decide : Bd 3 (3) (3)) Bx14_4 h20).2).1, (Bx14_4).2⟩
              obtain ⟨z22, e23⟩ : ∃ z : Int32, z = x5_3 + 1 := ⟨_, rfl⟩
              have t24 := ib_add e23 b18 (by decide : Bd 1 (1) (1)) (by decide) (by decide)
              have b25 : Bd z22 (-2) (4) := ib_addb t24 b18 (by decide : Bd 1 (1) (1))
              have t24 : z22.toInt = x5_3.toInt + 1 := fold_add t24 rfl (by decide)
              refine lv_iinc (v := z22) (lv' := [(3, .int z22), (4, .int x14_4), (2, .int x14_2), (0, .ref (ad 0)), (1, .int a1)]) hx hb dX12_fitsOf_45 hl (k := 1) rfl (by rw [e23]; rfl) (by decide) rfl (fun ls hl => ?_)
              refine lv_goto (tgt := 5) hx hb dX12_fitsOf_48 (by decide) ?_
              exact ih5 _ _ _ x14_2 z22 (ib_wk b25 (by decide) (by decide)) (by omega) hQ (lv_sub hl [0, 2, 3, 4] rfl)
            · have h26 := ib_nlt k19
              have b27 : Bd x14_4 (-3) (3) := ⟨(Bx14_4).1, ((rf_le Bx14_4 (by decide : Bd 3 (3) (3)) h26).1).2⟩
              refine lv_iload_n hx hb dX12_fitsOf_20 rfl (lv_at hl 2 rfl) ?_
              refine lv_aload_n hx hb dX12_fitsOf_21 rfl (lv_at hl 3 rfl) ?_
              refine lv_iload_n hx hb dX12_fitsOf_22 rfl (lv_at hl 4 rfl) ?_
              refine lv_iload_n hx hb dX12_fitsOf_23 rfl (lv_at hl 1 rfl) ?_
              refine lv_iload hx hb dX12_fitsOf_24 (lv_at hl 0 rfl) ?_
              obtain ⟨v29, v30, v32, v34, v36, v37, w38, v39, v41, v42, v43, v44, v46, v48, v50, v52, v54, v55, v56, c57, b31, b33, b35, b40, b45, b47, b49, b51, b53⟩ := invM_0 hI
              have c57 : S 0 = .inr (12, [.int v29, .ref (ad 1), .ref (ad 2), .ref (ad 3), .ref (ad 4), .ref (ad 5), .int v30, .int v32, .int v34, .int v36, .int v37, .long w38, .int v39, .int v41, .int v42, .int v43, .ref (ad 6), .ref (ad 7), .ref (ad 8), .ref (ad 9), .ref (ad 10), .ref (ad 11), .ref (ad 12), .ref (ad 13), .ref (ad 14), .ref (ad 15), .int v44, .int v46, .ref (ad 16), .int v48, .int v50, .int v52, .int v54, .int v55, .ref (ad 17), .ref (ad 18), .int v56, .ref (ad 19)]) := c57
              refine xcVi E hs hQ hml hl.1 0 (gX12_areFit_0 l g ad hD S hI a1 x5_3 x14_4 ba1 (by omega) (by omega)) mX12_areFit q2027 (by decide) c57 rfl rfl ⟨(Nat.le_of_ble_eq_true rfl), (Nat.le_of_ble_eq_true rfl)⟩ ⟨(Nat.le_of_ble_eq_true rfl), (Nat.le_of_ble_eq_true rfl)⟩ (Nat.le_of_ble_eq_true rfl) rfl dX12_fitsOf_26 (fun r28 S28 H locs hp28 hQ _ => ?_)
              obtain ⟨rfl, b28⟩ := hp28
              refine lv_if_eq (tgt := 36) hx hb dX12_fitsOf_29 (by decide) (fun k58 => ?_) (fun k58 => ?_)
              · have h59 := ib_eq k58
                have b60 : Bd r28 (0) (0) := ⟨(b28).1, ((rf_eq b28 (by decide : Bd 0 (0) (0)) h59).1).2⟩
                refine lv_iconst (v := 0) hx hb dX12_fitsOf_36 (by decide) ?_
                refine lv_iadd hx hb dX12_fitsOf_37 ?_
                refine lv_topi (fun z61 e62 => ?_)
                have t63 := ib_add e62 (ib_full x14_2) (by decide : Bd 0 (0) (0)) (by decide) (by decide)
                have b64 : Bd z61 (-2147483648) (2147483647) := ib_addb t63 (ib_full x14_2) (by decide : Bd 0 (0) (0))
                have t63 : z61.toInt = x14_2.toInt + 0 := fold_add t63 rfl (by decide)
                refine lv_istore_n (lv' := [(2, .int z61), (4, .int x14_4), (3, .int x5_3), (0, .ref (ad 0)), (1, .int a1)]) hx hb dX12_fitsOf_38 rfl hl (by decide) rfl (fun ls hl => ?_)
                obtain ⟨z65, e66⟩ : ∃ z : Int32, z = x14_4 + 1 := ⟨_, rfl⟩
                have t67 := ib_add e66 b27 (by decide : Bd 1 (1) (1)) (by decide) (by decide)
                have b68 : Bd z65 (-2) (4) := ib_addb t67 b27 (by decide : Bd 1 (1) (1))
                have t67 : z65.toInt = x14_4.toInt + 1 := fold_add t67 rfl (by decide)
                refine lv_iinc (v := z65) (lv' := [(4, .int z65), (2, .int z61), (3, .int x5_3), (0, .ref (ad 0)), (1, .int a1)]) hx hb dX12_fitsOf_39 hl (k := 1) rfl (by rw [e66]; rfl) (by decide) rfl (fun ls hl => ?_)
                refine lv_goto (tgt := 14) hx hb dX12_fitsOf_42 (by decide) ?_
                exact ih14 _ _ _ z61 z65 (ib_wk b68 (by decide) (by decide)) (by omega) hQ (lv_sub hl [0, 2, 1, 3, 4] rfl)
              · have h69 := ib_ne k58
                have b70 : Bd r28 (1) (1) := rf_nlo b28 (by decide : Bd 0 (0) (0)) h69
                refine lv_iconst (v := 1) hx hb dX12_fitsOf_32 (by decide) ?_
                refine lv_goto (tgt := 37) hx hb dX12_fitsOf_33 (by decide) ?_
                refine lv_iadd hx hb dX12_fitsOf_37 ?_
                refine lv_topi (fun z71 e72 => ?_)
                refine lv_istore_n (lv' := [(2, .int z71), (4, .int x14_4), (3, .int x5_3), (0, .ref (ad 0)), (1, .int a1)]) hx hb dX12_fitsOf_38 rfl hl (by decide) rfl (fun ls hl => ?_)
                obtain ⟨z73, e74⟩ : ∃ z : Int32, z = x14_4 + 1 := ⟨_, rfl⟩
                have t75 := ib_add e74 b27 (by decide : Bd 1 (1) (1)) (by decide) (by decide)
                have b76 : Bd z73 (-2) (4) := ib_addb t75 b27 (by decide : Bd 1 (1) (1))
                have t75 : z73.toInt = x14_4.toInt + 1 := fold_add t75 rfl (by decide)
                refine lv_iinc (v := z73) (lv' := [(4, .int z73), (2, .int z71), (3, .int x5_3), (0, .ref (ad 0)), (1, .int a1)]) hx hb dX12_fitsOf_39 hl (k := 1) rfl (by rw [e74]; rfl) (by decide) rfl (fun ls hl => ?_)
                refine lv_goto (tgt := 14) hx hb dX12_fitsOf_42 (by decide) ?_
                exact ih14 _ _ _ z71 z73 (ib_wk b76 (by decide) (by decide)) (by omega) hQ (lv_sub hl [0, 2, 1, 3, 4] rfl)
        obtain ⟨n14, hn14⟩ := fu_n (7)
        exact loop14 n14 _ _ _ x5_2 (-3) (ib_wk (by decide : Bd (-3) (-3) (-3)) (by decide) (by decide)) (by have : ((-3) : Int32).toInt = (-3) := (by decide); omega) hQ (lv_sub hl [0, 1, 2, 3, 4] rfl)
  obtain ⟨n5, hn5⟩ := fu_n (7)
  exact loop5 n5 _ _ _ 0 (-3) (ib_wk (by decide : Bd (-3) (-3) (-3)) (by decide) (by decide)) (by have : (0 : Int32).toInt = 0 := (by decide); have : ((-3) : Int32).toInt = (-3) := (by decide); omega) hQ (lv_sub hl [0, 1, 2, 3] rfl)
set_option maxHeartbeats 4000000 in
set_option maxRecDepth 100000 in
theorem gX12_whyNot_0 (l : Launch) (g : GG) (ad : Nat → Nat) (hD : Dj ad 20) (S : SS) (hI : InvM g ad S) (a1 : Int32) : Met l yX12_whyNot (wG (.code yX12_whyNot cX12_whyNot 4 (some .int))) (Rm 2) (XPre g ad 20 S [.ref (ad 0), .int a1]) (va_Qi (fun r S' => S = S' ∧ Bd r (-6) (0) ∧ ((r.toInt < 0 ∨ (0 ≤ a1.toInt ∧ 0 ≤ (-1) * a1.toInt + 3 ∧ 0 ≤ elm (S 6) 0 + (-1))))) (QB g ad 20) (FA ad 20)) 0 0 (FA ad 20) := by
  refine xmet cX12_whyNot "EbbWreckModel" (by decide) rfl (Nat.le_of_ble_eq_true rfl) (fun p e s m below meth c E hr hlk hml hQ ls hl => ?_)
  have hx := E.1
  have hb := E.2.1
  have hs : Sp ad 20 (FA ad 20) := Sp.fa hD
  have hl : lv_has ls 4 [(0, .ref (ad 0)), (1, .int a1)] := hl
  obtain ⟨f1, c2, b3⟩ := invM_6 hI
  obtain ⟨v4, ee5⟩ : ∃ z : Int32, f1 0 = z := ⟨_, rfl⟩
  have b6 : Bd v4 (0) (40000) := (by rw [← ee5]; exact b3 0)
  refine lv_iload_n hx hb dX12_whyNot_0 rfl (lv_at hl 1 rfl) ?_
  refine xcSi E hs hQ hml hl.1 (gX12_isSlot l g ad hD S hI a1) mX12_isSlot q1587 rfl ⟨(Nat.le_of_ble_eq_true rfl), (Nat.le_of_ble_eq_true rfl)⟩ ⟨(Nat.le_of_ble_eq_true rfl), (Nat.le_of_ble_eq_true rfl)⟩ (Nat.le_of_ble_eq_true rfl) rfl dX12_whyNot_1 (fun r7 S7 H locs hp7 hQ => ?_)
  obtain ⟨rfl, b7, g7_0, u7_0⟩ := hp7
  refine lv_if_eq (tgt := 14) hx hb dX12_whyNot_4 (by decide) (fun k8 => ?_) (fun k8 => ?_)
  · have h9 := ib_eq k8
    have b10 : Bd r7 (0) (0) := ⟨(b7).1, ((rf_eq b7 (by decide : Bd 0 (0) (0)) h9).1).2⟩
    clear g7_0
    refine lv_bipush (v := (-2)) hx hb dX12_whyNot_14 (by decide) ?_
    have q11 : elm (S 6) 0 = v4.toInt := (elm_of c2 0).trans (congrArg Int32.toInt (ee5))
    have q12 : ((-2) : Int32).toInt = (-2) := by decide
    exact xri E hr hlk hQ (⟨rfl, (ib_wk (by decide : Bd (-2) (-2) (-2)) (by decide) (by decide)), Or.inl (by omega)⟩) dX12_whyNot_16
  · have h13 := ib_ne k8
    have b14 : Bd r7 (1) (1) := rf_nlo b7 (by decide : Bd 0 (0) (0)) h13
    have g15 := g7_0.resolve_left (by omega)
    clear g7_0
    have b16 : Bd a1 (0) (3) := ⟨by omega, by omega⟩
    refine lv_aload_n hx hb dX12_whyNot_7 rfl (lv_at hl 0 rfl) ?_
    obtain ⟨v18, v19, v21, v23, v25, v26, w27, v28, v30, v31, v32, v33, v35, v37, v39, v41, v43, v44, v45, c46, b20, b22, b24, b29, b34, b36, b38, b40, b42⟩ := invM_0 hI
    have c46 : S 0 = .inr (12, [.int v18, .ref (ad 1), .ref (ad 2), .ref (ad 3), .ref (ad 4), .ref (ad 5), .int v19, .int v21, .int v23, .int v25, .int v26, .long w27, .int v28, .int v30, .int v31, .int v32, .ref (ad 6), .ref (ad 7), .ref (ad 8), .ref (ad 9), .ref (ad 10), .ref (ad 11), .ref (ad 12), .ref (ad 13), .ref (ad 14), .ref (ad 15), .int v33, .int v35, .ref (ad 16), .int v37, .int v39, .int v41, .int v43, .int v44, .ref (ad 17), .ref (ad 18), .int v45, .ref (ad 19)]) := c46
    refine xcVi E hs hQ hml hl.1 0 (gX12_isShore_0 l g ad hD S hI ) mX12_isShore q1782 (by decide) c46 rfl rfl ⟨(Nat.le_of_ble_eq_true rfl), (Nat.le_of_ble_eq_true rfl)⟩ ⟨(Nat.le_of_ble_eq_true rfl), (Nat.le_of_ble_eq_true rfl)⟩ (Nat.le_of_ble_eq_true rfl) rfl dX12_whyNot_8 (fun r17 S17 H locs hp17 hQ _ => ?_)
    obtain ⟨rfl, b17, g17_0⟩ := hp17
    have q47 : elm (S 6) 0 = v4.toInt := (elm_of c2 0).trans (congrArg Int32.toInt (ee5))
    refine lv_if_ne (tgt := 17) hx hb dX12_whyNot_11 (by decide) (fun k48 => ?_) (fun k48 => ?_)
    · have h49 := ib_ne k48
      have b50 : Bd r17 (1) (1) := rf_nlo b17 (by decide : Bd 0 (0) (0)) h49
      have g51 := g17_0.resolve_left (by omega)
      clear g17_0
      have b52 : Bd v4 (1) (40000) := ⟨by omega, (b6).2⟩
      refine lv_aload_n hx hb dX12_whyNot_17 rfl (lv_at hl 0 rfl) ?_
      refine xget E hQ 0 (by decide) c46 rfl 1 (by decide) q1469 rfl dX12_whyNot_18 ?_
      refine lv_iload_n hx hb dX12_whyNot_21 rfl (lv_at hl 1 rfl) ?_
      obtain ⟨f53, c54, b55⟩ := invM_1 hI
      refine xiald E hQ 1 (by decide) c54 (ib_in b16 (by decide) (by decide)) dX12_whyNot_22 ?_
      refine lv_topi (fun z56 e57 => ?_)
      have b58 : Bd z56 (-1) (3) := (by rw [e57]; exact b55 _)
      refine lv_iconst (v := (-1)) hx hb dX12_whyNot_23 (by decide) ?_
      refine lv_icmp_ne (tgt := 30) hx hb dX12_whyNot_24 (by decide) (fun k59 => ?_) (fun k59 => ?_)
      · have h60 := ib_ne k59
        have b61 : Bd z56 (0) (3) := rf_nlo b58 (by decide : Bd (-1) (-1) (-1)) h60
        refine lv_aload_n hx hb dX12_whyNot_30 rfl (lv_at hl 0 rfl) ?_
        refine xget E hQ 0 (by decide) c46 rfl 2 (by decide) q1470 rfl dX12_whyNot_31 ?_
        refine lv_iload_n hx hb dX12_whyNot_34 rfl (lv_at hl 1 rfl) ?_
        obtain ⟨f62, c63, b64⟩ := invM_2 hI
        refine xiald E hQ 2 (by decide) c63 (ib_in b16 (by decide) (by decide)) dX12_whyNot_35 ?_
        refine lv_topi (fun z65 e66 => ?_)
        have b67 : Bd z65 (0) (60) := (by rw [e66]; exact b64 _)
        refine lv_iconst (v := 4) hx hb dX12_whyNot_36 (by decide) ?_
        refine lv_irem hx hb dX12_whyNot_37 (ib_ne0 (by decide : Bd 4 (4) (4)) (by decide)) ?_
        refine lv_topi (fun z68 e69 => ?_)
        have b71 : Bd z68 (0) (3) := ib_remp e69 b67 (by decide : Bd 4 (4) (4)) (by decide) (by decide)
        refine lv_if_eq (tgt := 44) hx hb dX12_whyNot_38 (by decide) (fun k72 => ?_) (fun k72 => ?_)
        · have h73 := ib_eq k72
          have b74 : Bd z68 (0) (0) := ⟨(b71).1, ((rf_eq b71 (by decide : Bd 0 (0) (0)) h73).1).2⟩
          refine lv_iconst (v := 0) hx hb dX12_whyNot_44 (by decide) ?_
          refine lv_istore_n (lv' := [(2, .int 0), (0, .ref (ad 0)), (1, .int a1)]) hx hb dX12_whyNot_45 rfl hl (by decide) rfl (fun ls hl => ?_)
          have loop46 : ∀ (n : Nat) (H : Heap) (locs : List Loc) (ls : Array Slot) (x46_2 : Int32), Bd x46_2 (0) (60) → (-1) * x46_2.toInt + 60 < ((n : Nat) : Int) → x46_2.toInt % 4 = 0 → Hp g ad 20 S (FA ad 20) s.heap H locs → lv_has ls 4 [(2, .int x46_2), (0, .ref (ad 0)), (1, .int a1)] → W p l e (Rm 2) s m [.ref (ad 0), .int a1].toArray below meth c H locs 0 0 (MQ below (va_Qi (fun r S' => S = S' ∧ Bd r (-6) (0) ∧ ((r.toInt < 0 ∨ (0 ≤ a1.toInt ∧ 0 ≤ (-1) * a1.toInt + 3 ∧ 0 ≤ elm (S 6) 0 + (-1))))) (QB g ad 20) (FA ad 20)) [.ref (ad 0), .int a1].toArray s 0 0 (FA ad 20)) (F0 m 46 ls []) := by
            intro n
            induction n with
            | zero => intro H locs ls x46_2 Bx46_2 hn46_ hC46 hQ hl; exfalso; have := (Bx46_2).2; omega
            | succ n46_ ih46 =>
              intro H locs ls x46_2 Bx46_2 hn46_ hC46 hQ hl
              refine lv_iload_n hx hb dX12_whyNot_46 rfl (lv_at hl 0 rfl) ?_
              refine lv_aload_n hx hb dX12_whyNot_47 rfl (lv_at hl 1 rfl) ?_
              refine xget E hQ 0 (by decide) c46 rfl 2 (by decide) q1470 rfl dX12_whyNot_48 ?_
              refine lv_iload_n hx hb dX12_whyNot_51 rfl (lv_at hl 2 rfl) ?_
              refine xiald E hQ 2 (by decide) c63 (ib_in b16 (by decide) (by decide)) dX12_whyNot_52 ?_
              refine lv_topi (fun z75 e76 => ?_)
              have t77 : z75.toInt = z65.toInt := by rw [e76, e66]
              have b78 : Bd z75 (0) (60) := (by rw [Bd, t77]; exact b67)
              refine lv_icmp_ge (tgt := 143) hx hb dX12_whyNot_53 (by decide) (fun k79 => ?_) (fun k79 => ?_)
              · have h80 := ib_le k79
                refine lv_iconst (v := 0) hx hb dX12_whyNot_143 (by decide) ?_
                have q81 : (0 : Int32).toInt = 0 := by decide
                exact xri E hr hlk hQ (⟨rfl, (ib_wk (by decide : Bd 0 (0) (0)) (by decide) (by decide)), Or.inr ⟨by omega, by omega, by omega⟩⟩) dX12_whyNot_144
              · have h82 := ib_nle k79
                have b83 : Bd x46_2 (0) (59) := ⟨(Bx46_2).1, ((rf_lt Bx46_2 b78 h82).1).2⟩
                have b84 : Bd z75 (1) (60) := ⟨((rf_lt Bx46_2 b78 h82).2).1, (b78).2⟩
                have b85 : Bd z65 (1) (60) := ⟨by omega, by omega⟩
                have b86 : Bd x46_2 (0) (56) := ⟨(b83).1, by omega⟩
                refine lv_bipush (v := 60) hx hb dX12_whyNot_56 (by decide) ?_
                refine lv_iload_n hx hb dX12_whyNot_58 rfl (lv_at hl 2 rfl) ?_
                refine lv_imul hx hb dX12_whyNot_59 ?_
                refine lv_topi (fun z87 e88 => ?_)
                have t89 := ib_cmul (q := 60) e88 (by decide) (by decide) b16 (by decide) (by decide)
                have b90 : Bd z87 (0) (180) := ib_mulb t89 (by decide) b16
                refine lv_iload_n hx hb dX12_whyNot_60 rfl (lv_at hl 0 rfl) ?_
                refine lv_iadd hx hb dX12_whyNot_61 ?_
                refine lv_topi (fun z91 e92 => ?_)
                have t93 := ib_add e92 b90 b86 (by decide) (by decide)
                have b94 : Bd z91 (0) (236) := ib_addb t93 b90 b86
                refine lv_istore_n (lv' := [(3, .int z91), (2, .int x46_2), (0, .ref (ad 0)), (1, .int a1)]) hx hb dX12_whyNot_62 rfl hl (by decide) rfl (fun ls hl => ?_)
                refine lv_aload_n hx hb dX12_whyNot_63 rfl (lv_at hl 2 rfl) ?_
                refine lv_aload_n hx hb dX12_whyNot_64 rfl (lv_at hl 2 rfl) ?_
                refine xget E hQ 0 (by decide) c46 rfl 3 (by decide) q1471 rfl dX12_whyNot_65 ?_
                refine lv_iload_n hx hb dX12_whyNot_68 rfl (lv_at hl 0 rfl) ?_
                obtain ⟨f95, c96⟩ := invM_3 hI
                refine xlald E hQ 3 (by decide) c96 (ib_in b94 (by decide) (by decide)) dX12_whyNot_69 ?_
                refine lv_topl (fun w98 e99 => ?_)
                obtain ⟨f100, c101, b102⟩ := invM_7 hI
                obtain ⟨v103, ee104⟩ : ∃ z : Int32, f100 0 = z := ⟨_, rfl⟩
                have b105 : Bd v103 (0) (12) := (by rw [← ee104]; exact b102.1 0 (by decide))
                refine xcVi E hs hQ hml hl.1 0 (gX12_isCell_0 l g ad hD S hI w98) mX12_isCell q1750 (by decide) c46 rfl rfl ⟨(Nat.le_of_ble_eq_true rfl), (Nat.le_of_ble_eq_true rfl)⟩ ⟨(Nat.le_of_ble_eq_true rfl), (Nat.le_of_ble_eq_true rfl)⟩ (Nat.le_of_ble_eq_true rfl) rfl dX12_whyNot_70 (fun r106 S106 H locs hp106 hQ _ => ?_)
                obtain ⟨rfl, b106, g106_0⟩ := hp106
                have q107 : elm (S 7) 0 = v103.toInt := (elm_of c101 0).trans (congrArg Int32.toInt (ee104))
                refine lv_if_eq (tgt := 134) hx hb dX12_whyNot_73 (by decide) (fun k108 => ?_) (fun k108 => ?_)
                · have h109 := ib_eq k108
                  have b110 : Bd r106 (0) (0) := ⟨(b106).1, ((rf_eq b106 (by decide : Bd 0 (0) (0)) h109).1).2⟩
                  clear g106_0
                  refine lv_bipush (v := (-2)) hx hb dX12_whyNot_134 (by decide) ?_
                  have q111 : ((-2) : Int32).toInt = (-2) := by decide
                  exact xri E hr hlk hQ (⟨rfl, (ib_wk (by decide : Bd (-2) (-2) (-2)) (by decide) (by decide)), Or.inl (by omega)⟩) dX12_whyNot_136
                · have h112 := ib_ne k108
                  have b113 : Bd r106 (1) (1) := rf_nlo b106 (by decide : Bd 0 (0) (0)) h112
                  have g114 := g106_0.resolve_left (by omega)
                  clear g106_0
                  have b115 : BdL w98 (0) (11) := ⟨by omega, by omega⟩
                  have b116 : Bd v103 (1) (12) := ⟨by omega, (b105).2⟩
                  refine lv_aload_n hx hb dX12_whyNot_76 rfl (lv_at hl 2 rfl) ?_
                  refine xget E hQ 0 (by decide) c46 rfl 3 (by decide) q1471 rfl dX12_whyNot_77 ?_
                  refine lv_iload_n hx hb dX12_whyNot_80 rfl (lv_at hl 0 rfl) ?_
                  refine lv_iconst (v := 1) hx hb dX12_whyNot_81 (by decide) ?_
                  refine lv_iadd hx hb dX12_whyNot_82 ?_
                  refine lv_topi (fun z117 e118 => ?_)
                  have t119 := ib_add e118 b94 (by decide : Bd 1 (1) (1)) (by decide) (by decide)
                  have b120 : Bd z117 (1) (237) := ib_addb t119 b94 (by decide : Bd 1 (1) (1))
                  have t119 : z117.toInt = z91.toInt + 1 := fold_add t119 rfl (by decide)
                  refine xlald E hQ 3 (by decide) c96 (ib_in b120 (by decide) (by decide)) dX12_whyNot_83 ?_
                  refine lv_topl (fun w121 e122 => ?_)
                  refine lv_lconst (v := 0) hx hb dX12_whyNot_84 (by decide) ?_
                  refine lv_ldc2 (v := 400) hx hb E.2.2.1 (E.2.2.2.1 _ q1828) dX12_whyNot_85 ?_
                  have q123 : (0 : Int64).toInt = 0 := by decide
                  have q124 : (400 : Int64).toInt = 400 := by decide
                  refine xcSi E hs hQ hml hl.1 (gX12_in l g ad hD S hI w121 0 400) mX12_in q1591 rfl ⟨(Nat.le_of_ble_eq_true rfl), (Nat.le_of_ble_eq_true rfl)⟩ ⟨(Nat.le_of_ble_eq_true rfl), (Nat.le_of_ble_eq_true rfl)⟩ (Nat.le_of_ble_eq_true rfl) rfl dX12_whyNot_88 (fun r125 S125 H locs hp125 hQ => ?_)
                  obtain ⟨rfl, b125, g125_0, u125_0⟩ := hp125
                  refine lv_if_eq (tgt := 134) hx hb dX12_whyNot_91 (by decide) (fun k126 => ?_) (fun k126 => ?_)
                  · have h127 := ib_eq k126
                    have b128 : Bd r125 (0) (0) := ⟨(b125).1, ((rf_eq b125 (by decide : Bd 0 (0) (0)) h127).1).2⟩
                    clear g125_0
                    refine lv_bipush (v := (-2)) hx hb dX12_whyNot_134 (by decide) ?_
                    have q129 : ((-2) : Int32).toInt = (-2) := by decide
                    exact xri E hr hlk hQ (⟨rfl, (ib_wk (by decide : Bd (-2) (-2) (-2)) (by decide) (by decide)), Or.inl (by omega)⟩) dX12_whyNot_136
                  · have h130 := ib_ne k126
                    have b131 : Bd r125 (1) (1) := rf_nlo b125 (by decide : Bd 0 (0) (0)) h130
                    have g132 := g125_0.resolve_left (by omega)
                    clear g125_0
                    have b133 : BdL w121 (0) (400) := ⟨by omega, by omega⟩
                    refine lv_aload_n hx hb dX12_whyNot_94 rfl (lv_at hl 2 rfl) ?_
                    refine xget E hQ 0 (by decide) c46 rfl 3 (by decide) q1471 rfl dX12_whyNot_95 ?_
                    refine lv_iload_n hx hb dX12_whyNot_98 rfl (lv_at hl 0 rfl) ?_
                    refine lv_iconst (v := 2) hx hb dX12_whyNot_99 (by decide) ?_
                    refine lv_iadd hx hb dX12_whyNot_100 ?_
                    refine lv_topi (fun z134 e135 => ?_)
                    have t136 := ib_add e135 b94 (by decide : Bd 2 (2) (2)) (by decide) (by decide)
                    have b137 : Bd z134 (2) (238) := ib_addb t136 b94 (by decide : Bd 2 (2) (2))
                    have t136 : z134.toInt = z91.toInt + 2 := fold_add t136 rfl (by decide)
                    refine xlald E hQ 3 (by decide) c96 (ib_in b137 (by decide) (by decide)) dX12_whyNot_101 ?_
                    refine lv_topl (fun w138 e139 => ?_)
                    refine lv_aload_n hx hb dX12_whyNot_102 rfl (lv_at hl 2 rfl) ?_
                    refine xget E hQ 0 (by decide) c46 rfl 3 (by decide) q1471 rfl dX12_whyNot_103 ?_
                    refine lv_iload_n hx hb dX12_whyNot_106 rfl (lv_at hl 0 rfl) ?_
                    refine lv_iconst (v := 1) hx hb dX12_whyNot_107 (by decide) ?_
                    refine lv_iadd hx hb dX12_whyNot_108 ?_
                    refine lv_topi (fun z140 e141 => ?_)
                    have t142 := ib_add e141 b94 (by decide : Bd 1 (1) (1)) (by decide) (by decide)
                    have b143 : Bd z140 (1) (237) := ib_addb t142 b94 (by decide : Bd 1 (1) (1))
                    have t142 : z140.toInt = z91.toInt + 1 := fold_add t142 rfl (by decide)
                    refine xlald E hQ 3 (by decide) c96 (ib_in b143 (by decide) (by decide)) dX12_whyNot_109 ?_
                    refine lv_topl (fun w144 e145 => ?_)
                    refine lv_ldc2 (v := 400) hx hb E.2.2.1 (E.2.2.2.1 _ q1828) dX12_whyNot_110 ?_
                    refine xcSi E hs hQ hml hl.1 (gX12_in l g ad hD S hI w138 w144 400) mX12_in q1591 rfl ⟨(Nat.le_of_ble_eq_true rfl), (Nat.le_of_ble_eq_true rfl)⟩ ⟨(Nat.le_of_ble_eq_true rfl), (Nat.le_of_ble_eq_true rfl)⟩ (Nat.le_of_ble_eq_true rfl) rfl dX12_whyNot_113 (fun r146 S146 H locs hp146 hQ => ?_)
                    obtain ⟨rfl, b146, g146_0, u146_0⟩ := hp146
                    refine lv_if_eq (tgt := 134) hx hb dX12_whyNot_116 (by decide) (fun k147 => ?_) (fun k147 => ?_)
                    · have h148 := ib_eq k147
                      have b149 : Bd r146 (0) (0) := ⟨(b146).1, ((rf_eq b146 (by decide : Bd 0 (0) (0)) h148).1).2⟩
                      clear g146_0
                      refine lv_bipush (v := (-2)) hx hb dX12_whyNot_134 (by decide) ?_
                      have q150 : ((-2) : Int32).toInt = (-2) := by decide
                      exact xri E hr hlk hQ (⟨rfl, (ib_wk (by decide : Bd (-2) (-2) (-2)) (by decide) (by decide)), Or.inl (by omega)⟩) dX12_whyNot_136
                    · have h151 := ib_ne k147
                      have b152 : Bd r146 (1) (1) := rf_nlo b146 (by decide : Bd 0 (0) (0)) h151
                      have g153 := g146_0.resolve_left (by omega)
                      clear g146_0
                      have b154 : BdL w138 (-9223372036854775808) (400) := ⟨((ib_fullL w138)).1, by omega⟩
                      have b155 : BdL w144 (-9223372036854775808) (400) := ⟨((ib_fullL w144)).1, by omega⟩
                      refine lv_aload_n hx hb dX12_whyNot_119 rfl (lv_at hl 2 rfl) ?_
                      refine lv_aload_n hx hb dX12_whyNot_120 rfl (lv_at hl 2 rfl) ?_
                      refine xget E hQ 0 (by decide) c46 rfl 3 (by decide) q1471 rfl dX12_whyNot_121 ?_
                      refine lv_iload_n hx hb dX12_whyNot_124 rfl (lv_at hl 0 rfl) ?_
                      refine lv_iconst (v := 3) hx hb dX12_whyNot_125 (by decide) ?_
                      refine lv_iadd hx hb dX12_whyNot_126 ?_
                      refine lv_topi (fun z156 e157 => ?_)
                      have t158 := ib_add e157 b94 (by decide : Bd 3 (3) (3)) (by decide) (by decide)
                      have b159 : Bd z156 (3) (239) := ib_addb t158 b94 (by decide : Bd 3 (3) (3))
                      have t158 : z156.toInt = z91.toInt + 3 := fold_add t158 rfl (by decide)
                      refine xlald E hQ 3 (by decide) c96 (ib_in b159 (by decide) (by decide)) dX12_whyNot_127 ?_
                      refine lv_topl (fun w160 e161 => ?_)
                      refine xcVi E hs hQ hml hl.1 0 (gX12_isCell_0 l g ad hD S hI w160) mX12_isCell q1750 (by decide) c46 rfl rfl ⟨(Nat.le_of_ble_eq_true rfl), (Nat.le_of_ble_eq_true rfl)⟩ ⟨(Nat.le_of_ble_eq_true rfl), (Nat.le_of_ble_eq_true rfl)⟩ (Nat.le_of_ble_eq_true rfl) rfl dX12_whyNot_128 (fun r162 S162 H locs hp162 hQ _ => ?_)
                      obtain ⟨rfl, b162, g162_0⟩ := hp162
                      refine lv_if_ne (tgt := 137) hx hb dX12_whyNot_131 (by decide) (fun k163 => ?_) (fun k163 => ?_)
                      · have h164 := ib_ne k163
                        have b165 : Bd r162 (1) (1) := rf_nlo b162 (by decide : Bd 0 (0) (0)) h164
                        have g166 := g162_0.resolve_left (by omega)
                        clear g162_0
                        have b167 : BdL w160 (0) (11) := ⟨by omega, by omega⟩
                        obtain ⟨z168, e169⟩ : ∃ z : Int32, z = x46_2 + 4 := ⟨_, rfl⟩
                        have t170 := ib_add e169 b86 (by decide : Bd 4 (4) (4)) (by decide) (by decide)
                        have b171 : Bd z168 (4) (60) := ib_addb t170 b86 (by decide : Bd 4 (4) (4))
                        have t170 : z168.toInt = x46_2.toInt + 4 := fold_add t170 rfl (by decide)
                        refine lv_iinc (v := z168) (lv' := [(2, .int z168), (3, .int z91), (0, .ref (ad 0)), (1, .int a1)]) hx hb dX12_whyNot_137 hl (k := 1) rfl (by rw [e169]; rfl) (by decide) rfl (fun ls hl => ?_)
                        refine lv_goto (tgt := 46) hx hb dX12_whyNot_140 (by decide) ?_
                        exact ih46 _ _ _ z168 (ib_wk b171 (by decide) (by decide)) (by omega) (by omega) hQ (lv_sub hl [0, 2, 3] rfl)
                      · have h172 := ib_eq k163
                        have b173 : Bd r162 (0) (0) := ⟨(b162).1, ((rf_eq b162 (by decide : Bd 0 (0) (0)) h172).1).2⟩
                        clear g162_0
                        refine lv_bipush (v := (-2)) hx hb dX12_whyNot_134 (by decide) ?_
                        have q174 : ((-2) : Int32).toInt = (-2) := by decide
                        exact xri E hr hlk hQ (⟨rfl, (ib_wk (by decide : Bd (-2) (-2) (-2)) (by decide) (by decide)), Or.inl (by omega)⟩) dX12_whyNot_136
          obtain ⟨n46, hn46⟩ := fu_n (60)
          exact loop46 n46 _ _ _ 0 (ib_wk (by decide : Bd 0 (0) (0)) (by decide) (by decide)) (by have : (0 : Int32).toInt = 0 := (by decide); omega) (by decide) hQ (lv_sub hl [0, 1, 2] rfl)
        · have h175 := ib_ne k72
          have b176 : Bd z68 (1) (3) := rf_nlo b71 (by decide : Bd 0 (0) (0)) h175
          refine lv_bipush (v := (-2)) hx hb dX12_whyNot_41 (by decide) ?_
          have q177 : ((-2) : Int32).toInt = (-2) := by decide
          exact xri E hr hlk hQ (⟨rfl, (ib_wk (by decide : Bd (-2) (-2) (-2)) (by decide) (by decide)), Or.inl (by omega)⟩) dX12_whyNot_43
      · have h178 := ib_eq k59
        have b179 : Bd z56 (-1) (-1) := ⟨(b58).1, ((rf_eq b58 (by decide : Bd (-1) (-1) (-1)) h178).1).2⟩
        refine lv_bipush (v := (-6)) hx hb dX12_whyNot_27 (by decide) ?_
        have q180 : ((-6) : Int32).toInt = (-6) := by decide
        exact xri E hr hlk hQ (⟨rfl, (ib_wk (by decide : Bd (-6) (-6) (-6)) (by decide) (by decide)), Or.inl (by omega)⟩) dX12_whyNot_29
    · have h181 := ib_eq k48
      have b182 : Bd r17 (0) (0) := ⟨(b17).1, ((rf_eq b17 (by decide : Bd 0 (0) (0)) h181).1).2⟩
      clear g17_0
      refine lv_bipush (v := (-2)) hx hb dX12_whyNot_14 (by decide) ?_
      have q183 : ((-2) : Int32).toInt = (-2) := by decide
      exact xri E hr hlk hQ (⟨rfl, (ib_wk (by decide : Bd (-2) (-2) (-2)) (by decide) (by decide)), Or.inl (by omega)⟩) dX12_whyNot_16
set_option maxHeartbeats 4000000 in
set_option maxRecDepth 100000 in
theorem gX12_laysAsk_0 (l : Launch) (g : GG) (ad : Nat → Nat) (hD : Dj ad 20) (S : SS) (hI : InvM g ad S) (a1 : Int32) (ba1 : Bd a1 (0) (3)) (hq1 : 0 ≤ elm (S 7) 0 + (-1)) (hq2 : 0 ≤ elm (S 7) 1 + (-1)) : Met l yX12_laysAsk (wG (.code yX12_laysAsk cX12_laysAsk 8 none)) (Rm 5) (XPre g ad 20 S [.ref (ad 0), .int a1]) (va_Qv (fun S' => InvM g ad S' ∧ (∀ j, j ∉ ([0] : List Nat) → S' j = S j)) (QB g ad 20) (FA ad 20)) 0 0 (FA ad 20) := by
  refine xmet cX12_laysAsk "EbbWreckModel" (by decide) rfl (Nat.le_of_ble_eq_true rfl) (fun p e s m below meth c E hr hlk hml hQ ls hl => ?_)
  have hx := E.1
  have hb := E.2.1
  have hs : Sp ad 20 (FA ad 20) := Sp.fa hD
  have hl : lv_has ls 8 [(0, .ref (ad 0)), (1, .int a1)] := hl
  obtain ⟨f1, c2, b3⟩ := invM_7 hI
  obtain ⟨v4, ee5⟩ : ∃ z : Int32, f1 0 = z := ⟨_, rfl⟩
  have b6 : Bd v4 (0) (12) := (by rw [← ee5]; exact b3.1 0 (by decide))
  obtain ⟨v7, ee8⟩ : ∃ z : Int32, f1 1 = z := ⟨_, rfl⟩
  have b9 : Bd v7 (0) (12) := (by rw [← ee8]; exact b3.2.1 1 (by decide))
  have q10 : elm (S 7) 0 = v4.toInt := (elm_of c2 0).trans (congrArg Int32.toInt (ee5))
  have b11 : Bd v4 (1) (12) := ⟨by omega, (b6).2⟩
  have q12 : elm (S 7) 1 = v7.toInt := (elm_of c2 1).trans (congrArg Int32.toInt (ee8))
  have b13 : Bd v7 (1) (12) := ⟨by omega, (b9).2⟩
  refine lv_aload_n hx hb dX12_laysAsk_0 rfl (lv_at hl 0 rfl) ?_
  refine lv_aload_n hx hb dX12_laysAsk_1 rfl (lv_at hl 0 rfl) ?_
  refine lv_iload_n hx hb dX12_laysAsk_2 rfl (lv_at hl 1 rfl) ?_
  obtain ⟨v15, v16, v18, v20, v22, v23, w24, v25, v27, v28, v29, v30, v32, v34, v36, v38, v40, v41, v42, c43, b17, b19, b21, b26, b31, b33, b35, b37, b39⟩ := invM_0 hI
  have c43 : S 0 = .inr (12, [.int v15, .ref (ad 1), .ref (ad 2), .ref (ad 3), .ref (ad 4), .ref (ad 5), .int v16, .int v18, .int v20, .int v22, .int v23, .long w24, .int v25, .int v27, .int v28, .int v29, .ref (ad 6), .ref (ad 7), .ref (ad 8), .ref (ad 9), .ref (ad 10), .ref (ad 11), .ref (ad 12), .ref (ad 13), .ref (ad 14), .ref (ad 15), .int v30, .int v32, .ref (ad 16), .int v34, .int v36, .int v38, .int v40, .int v41, .ref (ad 17), .ref (ad 18), .int v42, .ref (ad 19)]) := c43
  refine xcVi E hs hQ hml hl.1 0 (gX12_fitsOf_0 l g ad hD S hI a1 ba1 (by omega) (by omega)) mX12_fitsOf q2023 (by decide) c43 rfl rfl ⟨(Nat.le_of_ble_eq_true rfl), (Nat.le_of_ble_eq_true rfl)⟩ ⟨(Nat.le_of_ble_eq_true rfl), (Nat.le_of_ble_eq_true rfl)⟩ (Nat.le_of_ble_eq_true rfl) rfl dX12_laysAsk_3 (fun r14 S14 H locs hp14 hQ _ => ?_)
  subst hp14
  refine xputi E hs hQ 0 (by decide) c43 rfl 33 (by decide) q1501 rfl rfl (Nat.le_of_ble_eq_true rfl) dX12_laysAsk_6 (fun H locs S44 eS44 hQ => ?_)
  have hI := invM_up_0 hI eS44 ⟨v15, v16, v18, v20, v22, v23, w24, v25, v27, v28, v29, v30, v32, v34, v36, v38, v40, r14, v42, rfl, b17, b19, b21, b26, b31, b33, b35, b37, b39⟩
  have c45 : S44 0 = .inr (12, [.int v15, .ref (ad 1), .ref (ad 2), .ref (ad 3), .ref (ad 4), .ref (ad 5), .int v16, .int v18, .int v20, .int v22, .int v23, .long w24, .int v25, .int v27, .int v28, .int v29, .ref (ad 6), .ref (ad 7), .ref (ad 8), .ref (ad 9), .ref (ad 10), .ref (ad 11), .ref (ad 12), .ref (ad 13), .ref (ad 14), .ref (ad 15), .int v30, .int v32, .ref (ad 16), .int v34, .int v36, .int v38, .int v40, .int r14, .ref (ad 17), .ref (ad 18), .int v42, .ref (ad 19)]) := up_at eS44 rfl
  refine lv_aload_n hx hb dX12_laysAsk_9 rfl (lv_at hl 0 rfl) ?_
  refine lv_iconst (v := (-1)) hx hb dX12_laysAsk_10 (by decide) ?_
  refine xputi E hs hQ 0 (by decide) c45 rfl 32 (by decide) q1500 rfl rfl (Nat.le_of_ble_eq_true rfl) dX12_laysAsk_11 (fun H locs S46 eS46 hQ => ?_)
  have hI := invM_up_0 hI eS46 ⟨v15, v16, v18, v20, v22, v23, w24, v25, v27, v28, v29, v30, v32, v34, v36, v38, (-1), r14, v42, rfl, b17, b19, b21, b26, b31, b33, b35, b37, b39⟩
  have c47 : S46 0 = .inr (12, [.int v15, .ref (ad 1), .ref (ad 2), .ref (ad 3), .ref (ad 4), .ref (ad 5), .int v16, .int v18, .int v20, .int v22, .int v23, .long w24, .int v25, .int v27, .int v28, .int v29, .ref (ad 6), .ref (ad 7), .ref (ad 8), .ref (ad 9), .ref (ad 10), .ref (ad 11), .ref (ad 12), .ref (ad 13), .ref (ad 14), .ref (ad 15), .int v30, .int v32, .ref (ad 16), .int v34, .int v36, .int v38, .int (-1), .int r14, .ref (ad 17), .ref (ad 18), .int v42, .ref (ad 19)]) := up_at eS46 rfl
  refine lv_iconst (v := 0) hx hb dX12_laysAsk_14 (by decide) ?_
  refine lv_istore_n (lv' := [(2, .int 0), (0, .ref (ad 0)), (1, .int a1)]) hx hb dX12_laysAsk_15 rfl hl (by decide) rfl (fun ls hl => ?_)
  have loop16 : ∀ (n : Nat) (S_16 : SS) (H : Heap) (locs : List Loc) (ls : Array Slot) (x16_2 : Int32) (y16_0_0 : Int32) (y16_0_6 : Int32) (y16_0_7 : Int32) (y16_0_8 : Int32) (y16_0_9 : Int32) (y16_0_10 : Int32) (wy16_0_11 : Int64) (y16_0_12 : Int32) (y16_0_13 : Int32) (y16_0_14 : Int32) (y16_0_15 : Int32) (y16_0_26 : Int32) (y16_0_27 : Int32) (y16_0_29 : Int32) (y16_0_30 : Int32) (y16_0_31 : Int32) (y16_0_32 : Int32) (y16_0_33 : Int32) (y16_0_36 : Int32), Bd x16_2 (0) (12) → Bd y16_0_6 (0) (1200) → Bd y16_0_7 (0) (1200) → Bd y16_0_8 (0) (4) → Bd y16_0_12 (0) (3) → Bd y16_0_26 (0) (11) → Bd y16_0_27 (-1) (400) → Bd y16_0_29 (0) (2) → Bd y16_0_30 (0) (11) → Bd y16_0_31 (-1) (468) → Bd y16_0_32 (-1) (11) → (-1) * x16_2.toInt + 12 < ((n : Nat) : Int) → InvM g ad S_16 → (∀ j, j ∉ ([0] : List Nat) → S_16 j = S46 j) → S_16 0 = .inr (12, [.int y16_0_0, .ref (ad 1), .ref (ad 2), .ref (ad 3), .ref (ad 4), .ref (ad 5), .int y16_0_6, .int y16_0_7, .int y16_0_8, .int y16_0_9, .int y16_0_10, .long wy16_0_11, .int y16_0_12, .int y16_0_13, .int y16_0_14, .int y16_0_15, .ref (ad 6), .ref (ad 7), .ref (ad 8), .ref (ad 9), .ref (ad 10), .ref (ad 11), .ref (ad 12), .ref (ad 13), .ref (ad 14), .ref (ad 15), .int y16_0_26, .int y16_0_27, .ref (ad 16), .int y16_0_29, .int y16_0_30, .int y16_0_31, .int y16_0_32, .int y16_0_33, .ref (ad 17), .ref (ad 18), .int y16_0_36, .ref (ad 19)]) → Hp g ad 20 S_16 (FA ad 20) s.heap H locs → lv_has ls 8 [(2, .int x16_2), (0, .ref (ad 0)), (1, .int a1)] → W p l e (Rm 5) s m [.ref (ad 0), .int a1].toArray below meth c H locs 0 0 (MQ below (va_Qv (fun S' => InvM g ad S' ∧ (∀ j, j ∉ ([0] : List Nat) → S' j = S j)) (QB g ad 20) (FA ad 20)) [.ref (ad 0), .int a1].toArray s 0 0 (FA ad 20)) (F0 m 16 ls []) := by
    intro n
    induction n with
    | zero => intro S_16 H locs ls x16_2 y16_0_0 y16_0_6 y16_0_7 y16_0_8 y16_0_9 y16_0_10 wy16_0_11 y16_0_12 y16_0_13 y16_0_14 y16_0_15 y16_0_26 y16_0_27 y16_0_29 y16_0_30 y16_0_31 y16_0_32 y16_0_33 y16_0_36 Bx16_2 By16_0_6 By16_0_7 By16_0_8 By16_0_12 By16_0_26 By16_0_27 By16_0_29 By16_0_30 By16_0_31 By16_0_32 hn16_ hI hf16 cl16_0 hQ hl; exfalso; have := (Bx16_2).2; omega
    | succ n16_ ih16 =>
      intro S_16 H locs ls x16_2 y16_0_0 y16_0_6 y16_0_7 y16_0_8 y16_0_9 y16_0_10 wy16_0_11 y16_0_12 y16_0_13 y16_0_14 y16_0_15 y16_0_26 y16_0_27 y16_0_29 y16_0_30 y16_0_31 y16_0_32 y16_0_33 y16_0_36 Bx16_2 By16_0_6 By16_0_7 By16_0_8 By16_0_12 By16_0_26 By16_0_27 By16_0_29 By16_0_30 By16_0_31 By16_0_32 hn16_ hI hf16 cl16_0 hQ hl
      refine lv_iload_n hx hb dX12_laysAsk_16 rfl (lv_at hl 0 rfl) ?_
      refine lv_aload_n hx hb dX12_laysAsk_17 rfl (lv_at hl 1 rfl) ?_
      refine xget E hQ 0 (by decide) cl16_0 rfl 17 (by decide) q1485 rfl dX12_laysAsk_18 ?_
      refine lv_iconst (v := 0) hx hb dX12_laysAsk_21 (by decide) ?_
      have c48 : S_16 7 = .inl (g.2 0, 50, .inl f1) := ((hf16 7 (by decide)).trans (up_ne eS46 (by decide) (up_ne eS44 (by decide) c2)))
      refine xiald E hQ 7 (by decide) c48 (vp_in_lit 0 50 (by decide)) dX12_laysAsk_22 ?_
      refine sb_at (P := fun z => W _ _ _ _ _ _ _ _ _ _ _ _ _ _ _ (F0 _ _ _ (.int z :: _))) (show f1 (0 : Int32).toNatClampNeg = v4 from ee5) ?_
      refine lv_icmp_ge (tgt := 162) hx hb dX12_laysAsk_23 (by decide) (fun k49 => ?_) (fun k49 => ?_)
      · have h50 := ib_le k49
        have b51 : Bd x16_2 (1) (12) := ⟨((rf_le b11 Bx16_2 h50).2).1, (Bx16_2).2⟩
        exact xrv E hr hlk hQ (⟨hI, (o_trans (up_o (up_o o_refl eS44 (by decide)) eS46 (by decide)) hf16 (by decide))⟩) dX12_laysAsk_162
      · have h52 := ib_nle k49
        have b53 : Bd x16_2 (0) (11) := ⟨(Bx16_2).1, ((rf_lt Bx16_2 b11 h52).1).2⟩
        refine lv_iconst (v := 0) hx hb dX12_laysAsk_26 (by decide) ?_
        refine lv_istore_n (lv' := [(3, .int 0), (2, .int x16_2), (0, .ref (ad 0)), (1, .int a1)]) hx hb dX12_laysAsk_27 rfl hl (by decide) rfl (fun ls hl => ?_)
        refine lv_iconst (v := 0) hx hb dX12_laysAsk_28 (by decide) ?_
        refine lv_istore (lv' := [(4, .int 0), (3, .int 0), (2, .int x16_2), (0, .ref (ad 0)), (1, .int a1)]) hx hb dX12_laysAsk_29 hl (by decide) rfl (fun ls hl => ?_)
        have loop31 : ∀ (n : Nat) (H : Heap) (locs : List Loc) (ls : Array Slot) (x31_3 : Int32) (x31_4 : Int32), Bd x31_3 (0) (2147483647) → Bd x31_4 (0) (12) → (-1) * x31_4.toInt + 12 < ((n : Nat) : Int) → Hp g ad 20 S_16 (FA ad 20) s.heap H locs → lv_has ls 8 [(4, .int x31_4), (3, .int x31_3), (2, .int x16_2), (0, .ref (ad 0)), (1, .int a1)] → W p l e (Rm 5) s m [.ref (ad 0), .int a1].toArray below meth c H locs 0 0 (MQ below (va_Qv (fun S' => InvM g ad S' ∧ (∀ j, j ∉ ([0] : List Nat) → S' j = S j)) (QB g ad 20) (FA ad 20)) [.ref (ad 0), .int a1].toArray s 0 0 (FA ad 20)) (F0 m 31 ls []) := by
          intro n
          induction n with
          | zero => intro H locs ls x31_3 x31_4 Bx31_3 Bx31_4 hn31_ hQ hl; exfalso; have := (Bx31_4).2; omega
          | succ n31_ ih31 =>
            intro H locs ls x31_3 x31_4 Bx31_3 Bx31_4 hn31_ hQ hl
            refine lv_iload hx hb dX12_laysAsk_31 (lv_at hl 0 rfl) ?_
            refine lv_aload_n hx hb dX12_laysAsk_33 rfl (lv_at hl 3 rfl) ?_
            refine xget E hQ 0 (by decide) cl16_0 rfl 17 (by decide) q1485 rfl dX12_laysAsk_34 ?_
            refine lv_iconst (v := 0) hx hb dX12_laysAsk_37 (by decide) ?_
            refine xiald E hQ 7 (by decide) c48 (vp_in_lit 0 50 (by decide)) dX12_laysAsk_38 ?_
            refine sb_at (P := fun z => W _ _ _ _ _ _ _ _ _ _ _ _ _ _ _ (F0 _ _ _ (.int z :: _))) (show f1 (0 : Int32).toNatClampNeg = v4 from ee5) ?_
            refine lv_icmp_ge (tgt := 135) hx hb dX12_laysAsk_39 (by decide) (fun k54 => ?_) (fun k54 => ?_)
            · have h55 := ib_le k54
              have b56 : Bd x31_4 (1) (12) := ⟨((rf_le b11 Bx31_4 h55).2).1, (Bx31_4).2⟩
              refine lv_iload_n hx hb dX12_laysAsk_135 rfl (lv_at hl 1 rfl) ?_
              refine lv_aload_n hx hb dX12_laysAsk_136 rfl (lv_at hl 3 rfl) ?_
              refine xget E hQ 0 (by decide) cl16_0 rfl 33 (by decide) q1501 rfl dX12_laysAsk_137 ?_
              refine lv_icmp_lt (tgt := 146) hx hb dX12_laysAsk_140 (by decide) (fun k57 => ?_) (fun k57 => ?_)
              · have h58 := ib_lt k57
                have b59 : Bd x31_3 (0) (2147483646) := ⟨(Bx31_3).1, ((rf_lt Bx31_3 (ib_full y16_0_33) h58).1).2⟩
                have b60 : Bd y16_0_33 (1) (2147483647) := ⟨((rf_lt Bx31_3 (ib_full y16_0_33) h58).2).1, ((ib_full y16_0_33)).2⟩
                refine lv_aload_n hx hb dX12_laysAsk_146 rfl (lv_at hl 3 rfl) ?_
                refine lv_iload_n hx hb dX12_laysAsk_147 rfl (lv_at hl 2 rfl) ?_
                refine xputi E hs hQ 0 (by decide) cl16_0 rfl 32 (by decide) q1500 rfl rfl (Nat.le_of_ble_eq_true rfl) dX12_laysAsk_148 (fun H locs S61 eS61 hQ => ?_)
                have hI := invM_up_0 hI eS61 ⟨y16_0_0, y16_0_6, y16_0_7, y16_0_8, y16_0_9, y16_0_10, wy16_0_11, y16_0_12, y16_0_13, y16_0_14, y16_0_15, y16_0_26, y16_0_27, y16_0_29, y16_0_30, y16_0_31, x16_2, y16_0_33, y16_0_36, rfl, By16_0_6, By16_0_7, By16_0_8, By16_0_12, By16_0_26, By16_0_27, By16_0_29, By16_0_30, By16_0_31⟩
                have c62 : S61 0 = .inr (12, [.int y16_0_0, .ref (ad 1), .ref (ad 2), .ref (ad 3), .ref (ad 4), .ref (ad 5), .int y16_0_6, .int y16_0_7, .int y16_0_8, .int y16_0_9, .int y16_0_10, .long wy16_0_11, .int y16_0_12, .int y16_0_13, .int y16_0_14, .int y16_0_15, .ref (ad 6), .ref (ad 7), .ref (ad 8), .ref (ad 9), .ref (ad 10), .ref (ad 11), .ref (ad 12), .ref (ad 13), .ref (ad 14), .ref (ad 15), .int y16_0_26, .int y16_0_27, .ref (ad 16), .int y16_0_29, .int y16_0_30, .int y16_0_31, .int x16_2, .int y16_0_33, .ref (ad 17), .ref (ad 18), .int y16_0_36, .ref (ad 19)]) := up_at eS61 rfl
                refine lv_aload_n hx hb dX12_laysAsk_151 rfl (lv_at hl 3 rfl) ?_
                refine lv_iload_n hx hb dX12_laysAsk_152 rfl (lv_at hl 1 rfl) ?_
                refine xputi E hs hQ 0 (by decide) c62 rfl 33 (by decide) q1501 rfl rfl (Nat.le_of_ble_eq_true rfl) dX12_laysAsk_153 (fun H locs S63 eS63 hQ => ?_)
                have hI := invM_up_0 hI eS63 ⟨y16_0_0, y16_0_6, y16_0_7, y16_0_8, y16_0_9, y16_0_10, wy16_0_11, y16_0_12, y16_0_13, y16_0_14, y16_0_15, y16_0_26, y16_0_27, y16_0_29, y16_0_30, y16_0_31, x16_2, x31_3, y16_0_36, rfl, By16_0_6, By16_0_7, By16_0_8, By16_0_12, By16_0_26, By16_0_27, By16_0_29, By16_0_30, By16_0_31⟩
                have c64 : S63 0 = .inr (12, [.int y16_0_0, .ref (ad 1), .ref (ad 2), .ref (ad 3), .ref (ad 4), .ref (ad 5), .int y16_0_6, .int y16_0_7, .int y16_0_8, .int y16_0_9, .int y16_0_10, .long wy16_0_11, .int y16_0_12, .int y16_0_13, .int y16_0_14, .int y16_0_15, .ref (ad 6), .ref (ad 7), .ref (ad 8), .ref (ad 9), .ref (ad 10), .ref (ad 11), .ref (ad 12), .ref (ad 13), .ref (ad 14), .ref (ad 15), .int y16_0_26, .int y16_0_27, .ref (ad 16), .int y16_0_29, .int y16_0_30, .int y16_0_31, .int x16_2, .int x31_3, .ref (ad 17), .ref (ad 18), .int y16_0_36, .ref (ad 19)]) := up_at eS63 rfl
                obtain ⟨z65, e66⟩ : ∃ z : Int32, z = x16_2 + 1 := ⟨_, rfl⟩
                have t67 := ib_add e66 b53 (by decide : Bd 1 (1) (1)) (by decide) (by decide)
                have b68 : Bd z65 (1) (12) := ib_addb t67 b53 (by decide : Bd 1 (1) (1))
                have t67 : z65.toInt = x16_2.toInt + 1 := fold_add t67 rfl (by decide)
                refine lv_iinc (v := z65) (lv' := [(2, .int z65), (4, .int x31_4), (3, .int x31_3), (0, .ref (ad 0)), (1, .int a1)]) hx hb dX12_laysAsk_156 hl (k := 2) rfl (by rw [e66]; rfl) (by decide) rfl (fun ls hl => ?_)
                refine lv_goto (tgt := 16) hx hb dX12_laysAsk_159 (by decide) ?_
                exact ih16 _ _ _ _ z65 y16_0_0 y16_0_6 y16_0_7 y16_0_8 y16_0_9 y16_0_10 wy16_0_11 y16_0_12 y16_0_13 y16_0_14 y16_0_15 y16_0_26 y16_0_27 y16_0_29 y16_0_30 y16_0_31 x16_2 x31_3 y16_0_36 (ib_wk b68 (by decide) (by decide)) By16_0_6 By16_0_7 By16_0_8 By16_0_12 By16_0_26 By16_0_27 By16_0_29 By16_0_30 By16_0_31 (ib_wk b53 (by decide) (by decide)) (by omega) hI (up_o (up_o hf16 eS61 (by decide)) eS63 (by decide)) c64 hQ (lv_sub hl [0, 3, 4] rfl)
              · have h69 := ib_nlt k57
                refine lv_goto (tgt := 156) hx hb dX12_laysAsk_143 (by decide) ?_
                obtain ⟨z70, e71⟩ : ∃ z : Int32, z = x16_2 + 1 := ⟨_, rfl⟩
                have t72 := ib_add e71 b53 (by decide : Bd 1 (1) (1)) (by decide) (by decide)
                have b73 : Bd z70 (1) (12) := ib_addb t72 b53 (by decide : Bd 1 (1) (1))
                have t72 : z70.toInt = x16_2.toInt + 1 := fold_add t72 rfl (by decide)
                refine lv_iinc (v := z70) (lv' := [(2, .int z70), (4, .int x31_4), (3, .int x31_3), (0, .ref (ad 0)), (1, .int a1)]) hx hb dX12_laysAsk_156 hl (k := 2) rfl (by rw [e71]; rfl) (by decide) rfl (fun ls hl => ?_)
                refine lv_goto (tgt := 16) hx hb dX12_laysAsk_159 (by decide) ?_
                exact ih16 _ _ _ _ z70 y16_0_0 y16_0_6 y16_0_7 y16_0_8 y16_0_9 y16_0_10 wy16_0_11 y16_0_12 y16_0_13 y16_0_14 y16_0_15 y16_0_26 y16_0_27 y16_0_29 y16_0_30 y16_0_31 y16_0_32 y16_0_33 y16_0_36 (ib_wk b73 (by decide) (by decide)) By16_0_6 By16_0_7 By16_0_8 By16_0_12 By16_0_26 By16_0_27 By16_0_29 By16_0_30 By16_0_31 By16_0_32 (by omega) hI hf16 cl16_0 hQ (lv_sub hl [0, 3, 4] rfl)
            · have h74 := ib_nle k54
              have b75 : Bd x31_4 (0) (11) := ⟨(Bx31_4).1, ((rf_lt Bx31_4 b11 h74).1).2⟩
              refine lv_iconst (v := 0) hx hb dX12_laysAsk_42 (by decide) ?_
              refine lv_istore (lv' := [(5, .int 0), (4, .int x31_4), (3, .int x31_3), (2, .int x16_2), (0, .ref (ad 0)), (1, .int a1)]) hx hb dX12_laysAsk_43 hl (by decide) rfl (fun ls hl => ?_)
              refine lv_bipush (v := (-3)) hx hb dX12_laysAsk_45 (by decide) ?_
              refine lv_istore (lv' := [(6, .int (-3)), (5, .int 0), (4, .int x31_4), (3, .int x31_3), (2, .int x16_2), (0, .ref (ad 0)), (1, .int a1)]) hx hb dX12_laysAsk_47 hl (by decide) rfl (fun ls hl => ?_)
              have loop49 : ∀ (n : Nat) (H : Heap) (locs : List Loc) (ls : Array Slot) (x49_5 : Int32) (x49_6 : Int32), Bd x49_6 (-3) (4) → (-1) * x49_6.toInt + 4 < ((n : Nat) : Int) → Hp g ad 20 S_16 (FA ad 20) s.heap H locs → lv_has ls 8 [(6, .int x49_6), (5, .int x49_5), (4, .int x31_4), (3, .int x31_3), (2, .int x16_2), (0, .ref (ad 0)), (1, .int a1)] → W p l e (Rm 5) s m [.ref (ad 0), .int a1].toArray below meth c H locs 0 0 (MQ below (va_Qv (fun S' => InvM g ad S' ∧ (∀ j, j ∉ ([0] : List Nat) → S' j = S j)) (QB g ad 20) (FA ad 20)) [.ref (ad 0), .int a1].toArray s 0 0 (FA ad 20)) (F0 m 49 ls []) := by
                intro n
                induction n with
                | zero => intro H locs ls x49_5 x49_6 Bx49_6 hn49_ hQ hl; exfalso; have := (Bx49_6).2; omega
                | succ n49_ ih49 =>
                  intro H locs ls x49_5 x49_6 Bx49_6 hn49_ hQ hl
                  refine lv_iload hx hb dX12_laysAsk_49 (lv_at hl 0 rfl) ?_
                  refine lv_iconst (v := 3) hx hb dX12_laysAsk_51 (by decide) ?_
                  refine lv_icmp_gt (tgt := 116) hx hb dX12_laysAsk_52 (by decide) (fun k76 => ?_) (fun k76 => ?_)
                  · have h77 := ib_lt k76
                    have b78 : Bd x49_6 (4) (4) := ⟨((rf_lt (by decide : Bd 3 (3) (3)) Bx49_6 h77).2).1, (Bx49_6).2⟩
                    refine lv_iload hx hb dX12_laysAsk_116 (lv_at hl 1 rfl) ?_
                    refine lv_iload_n hx hb dX12_laysAsk_118 rfl (lv_at hl 3 rfl) ?_
                    refine lv_icmp_le (tgt := 127) hx hb dX12_laysAsk_119 (by decide) (fun k79 => ?_) (fun k79 => ?_)
                    · have h80 := ib_le k79
                      refine lv_iload_n hx hb dX12_laysAsk_127 rfl (lv_at hl 3 rfl) ?_
                      refine lv_istore_n (lv' := [(3, .int x31_3), (6, .int x49_6), (5, .int x49_5), (4, .int x31_4), (2, .int x16_2), (0, .ref (ad 0)), (1, .int a1)]) hx hb dX12_laysAsk_128 rfl hl (by decide) rfl (fun ls hl => ?_)
                      obtain ⟨z81, e82⟩ : ∃ z : Int32, z = x31_4 + 1 := ⟨_, rfl⟩
                      have t83 := ib_add e82 b75 (by decide : Bd 1 (1) (1)) (by decide) (by decide)
                      have b84 : Bd z81 (1) (12) := ib_addb t83 b75 (by decide : Bd 1 (1) (1))
                      have t83 : z81.toInt = x31_4.toInt + 1 := fold_add t83 rfl (by decide)
                      refine lv_iinc (v := z81) (lv' := [(4, .int z81), (3, .int x31_3), (6, .int x49_6), (5, .int x49_5), (2, .int x16_2), (0, .ref (ad 0)), (1, .int a1)]) hx hb dX12_laysAsk_129 hl (k := 3) rfl (by rw [e82]; rfl) (by decide) rfl (fun ls hl => ?_)
                      refine lv_goto (tgt := 31) hx hb dX12_laysAsk_132 (by decide) ?_
                      exact ih31 _ _ _ x31_3 z81 Bx31_3 (ib_wk b84 (by decide) (by decide)) (by omega) hQ (lv_sub hl [0, 1, 4, 5, 6] rfl)
                    · have h85 := ib_nle k79
                      have b86 : Bd x31_3 (0) (2147483646) := ⟨(Bx31_3).1, ((rf_lt Bx31_3 (ib_full x49_5) h85).1).2⟩
                      have b87 : Bd x49_5 (1) (2147483647) := ⟨((rf_lt Bx31_3 (ib_full x49_5) h85).2).1, ((ib_full x49_5)).2⟩
                      refine lv_iload hx hb dX12_laysAsk_122 (lv_at hl 1 rfl) ?_
                      refine lv_goto (tgt := 128) hx hb dX12_laysAsk_124 (by decide) ?_
                      refine lv_istore_n (lv' := [(3, .int x49_5), (6, .int x49_6), (5, .int x49_5), (4, .int x31_4), (2, .int x16_2), (0, .ref (ad 0)), (1, .int a1)]) hx hb dX12_laysAsk_128 rfl hl (by decide) rfl (fun ls hl => ?_)
                      obtain ⟨z88, e89⟩ : ∃ z : Int32, z = x31_4 + 1 := ⟨_, rfl⟩
                      have t90 := ib_add e89 b75 (by decide : Bd 1 (1) (1)) (by decide) (by decide)
                      have b91 : Bd z88 (1) (12) := ib_addb t90 b75 (by decide : Bd 1 (1) (1))
                      have t90 : z88.toInt = x31_4.toInt + 1 := fold_add t90 rfl (by decide)
                      refine lv_iinc (v := z88) (lv' := [(4, .int z88), (3, .int x49_5), (6, .int x49_6), (5, .int x49_5), (2, .int x16_2), (0, .ref (ad 0)), (1, .int a1)]) hx hb dX12_laysAsk_129 hl (k := 3) rfl (by rw [e89]; rfl) (by decide) rfl (fun ls hl => ?_)
                      refine lv_goto (tgt := 31) hx hb dX12_laysAsk_132 (by decide) ?_
                      exact ih31 _ _ _ x49_5 z88 (ib_wk b87 (by decide) (by decide)) (ib_wk b91 (by decide) (by decide)) (by omega) hQ (lv_sub hl [0, 1, 4, 5, 6] rfl)
                  · have h92 := ib_nlt k76
                    have b93 : Bd x49_6 (-3) (3) := ⟨(Bx49_6).1, ((rf_le Bx49_6 (by decide : Bd 3 (3) (3)) h92).1).2⟩
                    refine lv_bipush (v := (-3)) hx hb dX12_laysAsk_55 (by decide) ?_
                    refine lv_istore (lv' := [(7, .int (-3)), (6, .int x49_6), (5, .int x49_5), (4, .int x31_4), (3, .int x31_3), (2, .int x16_2), (0, .ref (ad 0)), (1, .int a1)]) hx hb dX12_laysAsk_57 hl (by decide) rfl (fun ls hl => ?_)
                    have loop59 : ∀ (n : Nat) (H : Heap) (locs : List Loc) (ls : Array Slot) (x59_5 : Int32) (x59_7 : Int32), Bd x59_7 (-3) (4) → (-1) * x59_7.toInt + 4 < ((n : Nat) : Int) → Hp g ad 20 S_16 (FA ad 20) s.heap H locs → lv_has ls 8 [(7, .int x59_7), (6, .int x49_6), (5, .int x59_5), (4, .int x31_4), (3, .int x31_3), (2, .int x16_2), (0, .ref (ad 0)), (1, .int a1)] → W p l e (Rm 5) s m [.ref (ad 0), .int a1].toArray below meth c H locs 0 0 (MQ below (va_Qv (fun S' => InvM g ad S' ∧ (∀ j, j ∉ ([0] : List Nat) → S' j = S j)) (QB g ad 20) (FA ad 20)) [.ref (ad 0), .int a1].toArray s 0 0 (FA ad 20)) (F0 m 59 ls []) := by
                      intro n
                      induction n with
                      | zero => intro H locs ls x59_5 x59_7 Bx59_7 hn59_ hQ hl; exfalso; have := (Bx59_7).2; omega
                      | succ n59_ ih59 =>
                        intro H locs ls x59_5 x59_7 Bx59_7 hn59_ hQ hl
                        refine lv_iload hx hb dX12_laysAsk_59 (lv_at hl 0 rfl) ?_
                        refine lv_iconst (v := 3) hx hb dX12_laysAsk_61 (by decide) ?_
                        refine lv_icmp_gt (tgt := 110) hx hb dX12_laysAsk_62 (by decide) (fun k94 => ?_) (fun k94 => ?_)
                        · have h95 := ib_lt k94
                          have b96 : Bd x59_7 (4) (4) := ⟨((rf_lt (by decide : Bd 3 (3) (3)) Bx59_7 h95).2).1, (Bx59_7).2⟩
                          obtain ⟨z97, e98⟩ : ∃ z : Int32, z = x49_6 + 1 := ⟨_, rfl⟩
                          have t99 := ib_add e98 b93 (by decide : Bd 1 (1) (1)) (by decide) (by decide)
                          have b100 : Bd z97 (-2) (4) := ib_addb t99 b93 (by decide : Bd 1 (1) (1))
                          have t99 : z97.toInt = x49_6.toInt + 1 := fold_add t99 rfl (by decide)
                          refine lv_iinc (v := z97) (lv' := [(6, .int z97), (7, .int x59_7), (5, .int x59_5), (4, .int x31_4), (3, .int x31_3), (2, .int x16_2), (0, .ref (ad 0)), (1, .int a1)]) hx hb dX12_laysAsk_110 hl (k := 1) rfl (by rw [e98]; rfl) (by decide) rfl (fun ls hl => ?_)
                          refine lv_goto (tgt := 49) hx hb dX12_laysAsk_113 (by decide) ?_
                          exact ih49 _ _ _ x59_5 z97 (ib_wk b100 (by decide) (by decide)) (by omega) hQ (lv_sub hl [0, 2, 3, 4, 5, 6, 7] rfl)
                        · have h101 := ib_nlt k94
                          have b102 : Bd x59_7 (-3) (3) := ⟨(Bx59_7).1, ((rf_le Bx59_7 (by decide : Bd 3 (3) (3)) h101).1).2⟩
                          refine lv_iload hx hb dX12_laysAsk_65 (lv_at hl 2 rfl) ?_
                          refine lv_aload_n hx hb dX12_laysAsk_67 rfl (lv_at hl 6 rfl) ?_
                          refine lv_iload_n hx hb dX12_laysAsk_68 rfl (lv_at hl 7 rfl) ?_
                          refine lv_iload hx hb dX12_laysAsk_69 (lv_at hl 1 rfl) ?_
                          refine lv_iload hx hb dX12_laysAsk_71 (lv_at hl 0 rfl) ?_
                          have q103 : elm (S_16 7) 0 = v4.toInt := (elm_of c48 0).trans (congrArg Int32.toInt (ee5))
                          have q104 : elm (S_16 7) 1 = v7.toInt := (elm_of c48 1).trans (congrArg Int32.toInt (ee8))
                          refine xcVi E hs hQ hml hl.1 0 (gX12_areFit_0 l g ad hD S_16 hI a1 x49_6 x59_7 ba1 (by omega) (by omega)) mX12_areFit q2027 (by decide) cl16_0 rfl rfl ⟨(Nat.le_of_ble_eq_true rfl), (Nat.le_of_ble_eq_true rfl)⟩ ⟨(Nat.le_of_ble_eq_true rfl), (Nat.le_of_ble_eq_true rfl)⟩ (Nat.le_of_ble_eq_true rfl) rfl dX12_laysAsk_73 (fun r105 S105 H locs hp105 hQ _ => ?_)
                          obtain ⟨rfl, b105⟩ := hp105
                          refine lv_if_eq (tgt := 100) hx hb dX12_laysAsk_76 (by decide) (fun k106 => ?_) (fun k106 => ?_)
                          · have h107 := ib_eq k106
                            have b108 : Bd r105 (0) (0) := ⟨(b105).1, ((rf_eq b105 (by decide : Bd 0 (0) (0)) h107).1).2⟩
                            refine lv_iconst (v := 0) hx hb dX12_laysAsk_100 (by decide) ?_
                            refine lv_iadd hx hb dX12_laysAsk_101 ?_
                            refine lv_topi (fun z109 e110 => ?_)
                            have t111 := ib_add e110 (ib_full x59_5) (by decide : Bd 0 (0) (0)) (by decide) (by decide)
                            have b112 : Bd z109 (-2147483648) (2147483647) := ib_addb t111 (ib_full x59_5) (by decide : Bd 0 (0) (0))
                            have t111 : z109.toInt = x59_5.toInt + 0 := fold_add t111 rfl (by decide)
                            refine lv_istore (lv' := [(5, .int z109), (7, .int x59_7), (6, .int x49_6), (4, .int x31_4), (3, .int x31_3), (2, .int x16_2), (0, .ref (ad 0)), (1, .int a1)]) hx hb dX12_laysAsk_102 hl (by decide) rfl (fun ls hl => ?_)
                            obtain ⟨z113, e114⟩ : ∃ z : Int32, z = x59_7 + 1 := ⟨_, rfl⟩
                            have t115 := ib_add e114 b102 (by decide : Bd 1 (1) (1)) (by decide) (by decide)
                            have b116 : Bd z113 (-2) (4) := ib_addb t115 b102 (by decide : Bd 1 (1) (1))
                            have t115 : z113.toInt = x59_7.toInt + 1 := fold_add t115 rfl (by decide)
                            refine lv_iinc (v := z113) (lv' := [(7, .int z113), (5, .int z109), (6, .int x49_6), (4, .int x31_4), (3, .int x31_3), (2, .int x16_2), (0, .ref (ad 0)), (1, .int a1)]) hx hb dX12_laysAsk_104 hl (k := 1) rfl (by rw [e114]; rfl) (by decide) rfl (fun ls hl => ?_)
                            refine lv_goto (tgt := 59) hx hb dX12_laysAsk_107 (by decide) ?_
                            exact ih59 _ _ _ z109 z113 (ib_wk b116 (by decide) (by decide)) (by omega) hQ (lv_sub hl [0, 2, 1, 3, 4, 5, 6, 7] rfl)
                          · have h117 := ib_ne k106
                            have b118 : Bd r105 (1) (1) := rf_nlo b105 (by decide : Bd 0 (0) (0)) h117
                            refine lv_aload_n hx hb dX12_laysAsk_79 rfl (lv_at hl 6 rfl) ?_
                            refine lv_iload_n hx hb dX12_laysAsk_80 rfl (lv_at hl 5 rfl) ?_
                            refine lv_iconst (v := 0) hx hb dX12_laysAsk_81 (by decide) ?_
                            refine lv_bipush (v := 12) hx hb dX12_laysAsk_82 (by decide) ?_
                            refine lv_iload hx hb dX12_laysAsk_84 (lv_at hl 1 rfl) ?_
                            refine lv_iload hx hb dX12_laysAsk_86 (lv_at hl 0 rfl) ?_
                            refine xcVi E hs hQ hml hl.1 0 (gX12_carried_0 l g ad hD S_16 hI x16_2 0 12 x49_6 x59_7 b53 (by omega) (by omega)) mX12_carried q2031 (by decide) cl16_0 rfl rfl ⟨(Nat.le_of_ble_eq_true rfl), (Nat.le_of_ble_eq_true rfl)⟩ ⟨(Nat.le_of_ble_eq_true rfl), (Nat.le_of_ble_eq_true rfl)⟩ (Nat.le_of_ble_eq_true rfl) rfl dX12_laysAsk_88 (fun r119 S119 H locs hp119 hQ _ => ?_)
                            obtain ⟨rfl, b119⟩ := hp119
                            refine lv_iload hx hb dX12_laysAsk_91 (lv_at hl 3 rfl) ?_
                            refine lv_icmp_ne (tgt := 100) hx hb dX12_laysAsk_93 (by decide) (fun k120 => ?_) (fun k120 => ?_)
                            · have h121 := ib_ne k120
                              refine lv_iconst (v := 0) hx hb dX12_laysAsk_100 (by decide) ?_
                              refine lv_iadd hx hb dX12_laysAsk_101 ?_
                              refine lv_topi (fun z122 e123 => ?_)
                              have t124 := ib_add e123 (ib_full x59_5) (by decide : Bd 0 (0) (0)) (by decide) (by decide)
                              have b125 : Bd z122 (-2147483648) (2147483647) := ib_addb t124 (ib_full x59_5) (by decide : Bd 0 (0) (0))
                              have t124 : z122.toInt = x59_5.toInt + 0 := fold_add t124 rfl (by decide)
                              refine lv_istore (lv' := [(5, .int z122), (7, .int x59_7), (6, .int x49_6), (4, .int x31_4), (3, .int x31_3), (2, .int x16_2), (0, .ref (ad 0)), (1, .int a1)]) hx hb dX12_laysAsk_102 hl (by decide) rfl (fun ls hl => ?_)
                              obtain ⟨z126, e127⟩ : ∃ z : Int32, z = x59_7 + 1 := ⟨_, rfl⟩
                              have t128 := ib_add e127 b102 (by decide : Bd 1 (1) (1)) (by decide) (by decide)
                              have b129 : Bd z126 (-2) (4) := ib_addb t128 b102 (by decide : Bd 1 (1) (1))
                              have t128 : z126.toInt = x59_7.toInt + 1 := fold_add t128 rfl (by decide)
                              refine lv_iinc (v := z126) (lv' := [(7, .int z126), (5, .int z122), (6, .int x49_6), (4, .int x31_4), (3, .int x31_3), (2, .int x16_2), (0, .ref (ad 0)), (1, .int a1)]) hx hb dX12_laysAsk_104 hl (k := 1) rfl (by rw [e127]; rfl) (by decide) rfl (fun ls hl => ?_)
                              refine lv_goto (tgt := 59) hx hb dX12_laysAsk_107 (by decide) ?_
                              exact ih59 _ _ _ z122 z126 (ib_wk b129 (by decide) (by decide)) (by omega) hQ (lv_sub hl [0, 2, 1, 3, 4, 5, 6, 7] rfl)
                            · have h130 := ib_eq k120
                              refine lv_iconst (v := 1) hx hb dX12_laysAsk_96 (by decide) ?_
                              refine lv_goto (tgt := 101) hx hb dX12_laysAsk_97 (by decide) ?_
                              refine lv_iadd hx hb dX12_laysAsk_101 ?_
                              refine lv_topi (fun z131 e132 => ?_)
                              refine lv_istore (lv' := [(5, .int z131), (7, .int x59_7), (6, .int x49_6), (4, .int x31_4), (3, .int x31_3), (2, .int x16_2), (0, .ref (ad 0)), (1, .int a1)]) hx hb dX12_laysAsk_102 hl (by decide) rfl (fun ls hl => ?_)
                              obtain ⟨z133, e134⟩ : ∃ z : Int32, z = x59_7 + 1 := ⟨_, rfl⟩
                              have t135 := ib_add e134 b102 (by decide : Bd 1 (1) (1)) (by decide) (by decide)
                              have b136 : Bd z133 (-2) (4) := ib_addb t135 b102 (by decide : Bd 1 (1) (1))
                              have t135 : z133.toInt = x59_7.toInt + 1 := fold_add t135 rfl (by decide)
                              refine lv_iinc (v := z133) (lv' := [(7, .int z133), (5, .int z131), (6, .int x49_6), (4, .int x31_4), (3, .int x31_3), (2, .int x16_2), (0, .ref (ad 0)), (1, .int a1)]) hx hb dX12_laysAsk_104 hl (k := 1) rfl (by rw [e134]; rfl) (by decide) rfl (fun ls hl => ?_)
                              refine lv_goto (tgt := 59) hx hb dX12_laysAsk_107 (by decide) ?_
                              exact ih59 _ _ _ z131 z133 (ib_wk b136 (by decide) (by decide)) (by omega) hQ (lv_sub hl [0, 2, 1, 3, 4, 5, 6, 7] rfl)
                    obtain ⟨n59, hn59⟩ := fu_n (7)
                    exact loop59 n59 _ _ _ x49_5 (-3) (ib_wk (by decide : Bd (-3) (-3) (-3)) (by decide) (by decide)) (by have : ((-3) : Int32).toInt = (-3) := (by decide); omega) hQ (lv_sub hl [0, 1, 2, 3, 4, 5, 6, 7] rfl)
              obtain ⟨n49, hn49⟩ := fu_n (7)
              exact loop49 n49 _ _ _ 0 (-3) (ib_wk (by decide : Bd (-3) (-3) (-3)) (by decide) (by decide)) (by have : (0 : Int32).toInt = 0 := (by decide); have : ((-3) : Int32).toInt = (-3) := (by decide); omega) hQ (lv_sub hl [0, 1, 2, 3, 4, 5, 6] rfl)
        obtain ⟨n31, hn31⟩ := fu_n (12)
        exact loop31 n31 _ _ _ 0 0 (ib_wk (by decide : Bd 0 (0) (0)) (by decide) (by decide)) (ib_wk (by decide : Bd 0 (0) (0)) (by decide) (by decide)) (by have : (0 : Int32).toInt = 0 := (by decide); omega) hQ (lv_sub hl [0, 1, 2, 3, 4] rfl)
  obtain ⟨n16, hn16⟩ := fu_n (12)
  exact loop16 n16 _ _ _ _ 0 v15 v16 v18 v20 v22 v23 w24 v25 v27 v28 v29 v30 v32 v34 v36 v38 (-1) r14 v42 (ib_wk (by decide : Bd 0 (0) (0)) (by decide) (by decide)) b17 b19 b21 b26 b31 b33 b35 b37 b39 (ib_wk (by decide : Bd (-1) (-1) (-1)) (by decide) (by decide)) (by have : (0 : Int32).toInt = 0 := (by decide); have : ((-1) : Int32).toInt = (-1) := (by decide); omega) hI o_refl c47 hQ (lv_sub hl [0, 1, 2] rfl)
set_option maxHeartbeats 4000000 in
set_option maxRecDepth 100000 in
theorem gX12_isFull_0 (l : Launch) (g : GG) (ad : Nat → Nat) (hD : Dj ad 20) (S : SS) (hI : InvM g ad S) : Met l yX12_isFull (wG (.code yX12_isFull cX12_isFull 1 (some .boolean))) (Rm 0) (XPre g ad 20 S [.ref (ad 0)]) (va_Qi (fun r S' => S = S' ∧ Bd r (0) (1) ∧ (((-1) * r.toInt < 0 ∨ (0 ≤ (-1) * elm (S 7) 9 + 39)))) (QB g ad 20) (FA ad 20)) 0 0 (FA ad 20) := by
  refine xmet cX12_isFull "EbbWreckModel" (by decide) rfl (Nat.le_of_ble_eq_true rfl) (fun p e s m below meth c E hr hlk hml hQ ls hl => ?_)
  have hx := E.1
  have hb := E.2.1
  have hs : Sp ad 20 (FA ad 20) := Sp.fa hD
  have hl : lv_has ls 1 [(0, .ref (ad 0))] := hl
  obtain ⟨f1, c2, b3⟩ := invM_7 hI
  obtain ⟨v4, ee5⟩ : ∃ z : Int32, f1 9 = z := ⟨_, rfl⟩
  have b6 : Bd v4 (0) (40) := (by rw [← ee5]; exact b3.2.2.2.2.2.2.2 9 (by decide))
  refine lv_aload_n hx hb dX12_isFull_0 rfl (lv_at hl 0 rfl) ?_
  obtain ⟨v7, v8, v10, v12, v14, v15, w16, v17, v19, v20, v21, v22, v24, v26, v28, v30, v32, v33, v34, c35, b9, b11, b13, b18, b23, b25, b27, b29, b31⟩ := invM_0 hI
  have c35 : S 0 = .inr (12, [.int v7, .ref (ad 1), .ref (ad 2), .ref (ad 3), .ref (ad 4), .ref (ad 5), .int v8, .int v10, .int v12, .int v14, .int v15, .long w16, .int v17, .int v19, .int v20, .int v21, .ref (ad 6), .ref (ad 7), .ref (ad 8), .ref (ad 9), .ref (ad 10), .ref (ad 11), .ref (ad 12), .ref (ad 13), .ref (ad 14), .ref (ad 15), .int v22, .int v24, .ref (ad 16), .int v26, .int v28, .int v30, .int v32, .int v33, .ref (ad 17), .ref (ad 18), .int v34, .ref (ad 19)]) := c35
  refine xget E hQ 0 (by decide) c35 rfl 17 (by decide) q1485 rfl dX12_isFull_1 ?_
  refine lv_bipush (v := 9) hx hb dX12_isFull_4 (by decide) ?_
  refine xiald E hQ 7 (by decide) c2 (vp_in_lit 9 50 (by decide)) dX12_isFull_6 ?_
  refine sb_at (P := fun z => W _ _ _ _ _ _ _ _ _ _ _ _ _ _ _ (F0 _ _ _ (.int z :: _))) (show f1 (9 : Int32).toNatClampNeg = v4 from ee5) ?_
  refine lv_bipush (v := 40) hx hb dX12_isFull_7 (by decide) ?_
  refine lv_icmp_ne (tgt := 16) hx hb dX12_isFull_9 (by decide) (fun k36 => ?_) (fun k36 => ?_)
  · have h37 := ib_ne k36
    have b38 : Bd v4 (0) (39) := rf_nhi b6 (by decide : Bd 40 (40) (40)) h37
    refine lv_iconst (v := 0) hx hb dX12_isFull_16 (by decide) ?_
    have q39 : elm (S 7) 9 = v4.toInt := (elm_of c2 9).trans (congrArg Int32.toInt (ee5))
    have q40 : (0 : Int32).toInt = 0 := by decide
    exact xrz E hr hlk hQ rfl (⟨rfl, (ib_wk (by decide : Bd 0 (0) (0)) (by decide) (by decide)), Or.inr (by omega)⟩) dX12_isFull_17
  · have h41 := ib_eq k36
    have b42 : Bd v4 (40) (40) := ⟨((rf_eq b6 (by decide : Bd 40 (40) (40)) h41).1).1, (b6).2⟩
    refine lv_iconst (v := 1) hx hb dX12_isFull_12 (by decide) ?_
    refine lv_goto (tgt := 17) hx hb dX12_isFull_13 (by decide) ?_
    have q43 : elm (S 7) 9 = v4.toInt := (elm_of c2 9).trans (congrArg Int32.toInt (ee5))
    have q44 : (1 : Int32).toInt = 1 := by decide
    exact xrz E hr hlk hQ rfl (⟨rfl, (ib_wk (by decide : Bd 1 (1) (1)) (by decide) (by decide)), Or.inl (by omega)⟩) dX12_isFull_17
set_option maxHeartbeats 4000000 in
set_option maxRecDepth 100000 in
theorem gX12_isDraw_0 (l : Launch) (g : GG) (ad : Nat → Nat) (hD : Dj ad 20) (S : SS) (hI : InvM g ad S) (a1 : Int32) (a2 : Int32) : Met l yX12_isDraw (wG (.code yX12_isDraw cX12_isDraw 3 (some .boolean))) (Rm 2) (XPre g ad 20 S [.ref (ad 0), .int a1, .int a2]) (va_Qi (fun r S' => S = S' ∧ Bd r (0) (1) ∧ ((r.toInt + (-1) < 0 ∨ (0 ≤ a1.toInt ∧ 0 ≤ (-1) * a1.toInt + 2000000000 ∧ 0 ≤ a2.toInt ∧ 0 ≤ elm (S 7) 6 + (-1) * a2.toInt + (-1))))) (QB g ad 20) (FA ad 20)) 0 0 (FA ad 20) := by
  refine xmet cX12_isDraw "EbbWreckModel" (by decide) rfl (Nat.le_of_ble_eq_true rfl) (fun p e s m below meth c E hr hlk hml hQ ls hl => ?_)
  have hx := E.1
  have hb := E.2.1
  have hs : Sp ad 20 (FA ad 20) := Sp.fa hD
  have hl : lv_has ls 3 [(0, .ref (ad 0)), (1, .int a1), (2, .int a2)] := hl
  obtain ⟨f1, c2, b3⟩ := invM_7 hI
  obtain ⟨v4, ee5⟩ : ∃ z : Int32, f1 6 = z := ⟨_, rfl⟩
  have b6 : Bd v4 (0) (8) := (by rw [← ee5]; exact b3.2.2.2.2.1 6 (by decide))
  refine lv_iload_n hx hb dX12_isDraw_0 rfl (lv_at hl 1 rfl) ?_
  refine lv_i2l hx hb dX12_isDraw_1 rfl ?_
  refine lv_topl (fun w7 e8 => ?_)
  have t9 : w7.toInt = a1.toInt := by rw [e8]; exact i2l_i _
  have b10 : BdL w7 (-2147483648) (2147483647) := (by have h1 := ((ib_full a1)).1; have h2 := ((ib_full a1)).2; exact ⟨by omega, by omega⟩)
  refine lv_lconst (v := 0) hx hb dX12_isDraw_2 (by decide) ?_
  refine lv_ldc2 (v := 2000000000) hx hb E.2.2.1 (E.2.2.2.1 _ q1786) dX12_isDraw_3 ?_
  have q11 : (0 : Int64).toInt = 0 := by decide
  have q12 : (2000000000 : Int64).toInt = 2000000000 := by decide
  refine xcSi E hs hQ hml hl.1 (gX12_in l g ad hD S hI w7 0 2000000000) mX12_in q1591 rfl ⟨(Nat.le_of_ble_eq_true rfl), (Nat.le_of_ble_eq_true rfl)⟩ ⟨(Nat.le_of_ble_eq_true rfl), (Nat.le_of_ble_eq_true rfl)⟩ (Nat.le_of_ble_eq_true rfl) rfl dX12_isDraw_6 (fun r13 S13 H locs hp13 hQ => ?_)
  obtain ⟨rfl, b13, g13_0, u13_0⟩ := hp13
  refine lv_if_eq (tgt := 24) hx hb dX12_isDraw_9 (by decide) (fun k14 => ?_) (fun k14 => ?_)
  · have h15 := ib_eq k14
    have b16 : Bd r13 (0) (0) := ⟨(b13).1, ((rf_eq b13 (by decide : Bd 0 (0) (0)) h15).1).2⟩
    clear g13_0
    refine lv_iconst (v := 0) hx hb dX12_isDraw_24 (by decide) ?_
    have q17 : elm (S 7) 6 = v4.toInt := (elm_of c2 6).trans (congrArg Int32.toInt (ee5))
    have q18 : (0 : Int32).toInt = 0 := by decide
    exact xrz E hr hlk hQ rfl (⟨rfl, (ib_wk (by decide : Bd 0 (0) (0)) (by decide) (by decide)), Or.inl (by omega)⟩) dX12_isDraw_25
  · have h19 := ib_ne k14
    have b20 : Bd r13 (1) (1) := rf_nlo b13 (by decide : Bd 0 (0) (0)) h19
    have g21 := g13_0.resolve_left (by omega)
    clear g13_0
    have b22 : BdL w7 (0) (2000000000) := ⟨by omega, by omega⟩
    have b23 : Bd a1 (0) (2000000000) := ⟨by omega, by omega⟩
    refine lv_aload_n hx hb dX12_isDraw_12 rfl (lv_at hl 0 rfl) ?_
    refine lv_iload_n hx hb dX12_isDraw_13 rfl (lv_at hl 2 rfl) ?_
    obtain ⟨v25, v26, v28, v30, v32, v33, w34, v35, v37, v38, v39, v40, v42, v44, v46, v48, v50, v51, v52, c53, b27, b29, b31, b36, b41, b43, b45, b47, b49⟩ := invM_0 hI
    have c53 : S 0 = .inr (12, [.int v25, .ref (ad 1), .ref (ad 2), .ref (ad 3), .ref (ad 4), .ref (ad 5), .int v26, .int v28, .int v30, .int v32, .int v33, .long w34, .int v35, .int v37, .int v38, .int v39, .ref (ad 6), .ref (ad 7), .ref (ad 8), .ref (ad 9), .ref (ad 10), .ref (ad 11), .ref (ad 12), .ref (ad 13), .ref (ad 14), .ref (ad 15), .int v40, .int v42, .ref (ad 16), .int v44, .int v46, .int v48, .int v50, .int v51, .ref (ad 17), .ref (ad 18), .int v52, .ref (ad 19)]) := c53
    refine xcVi E hs hQ hml hl.1 0 (gX12_isThing_0 l g ad hD S hI a2) mX12_isThing q1766 (by decide) c53 rfl rfl ⟨(Nat.le_of_ble_eq_true rfl), (Nat.le_of_ble_eq_true rfl)⟩ ⟨(Nat.le_of_ble_eq_true rfl), (Nat.le_of_ble_eq_true rfl)⟩ (Nat.le_of_ble_eq_true rfl) rfl dX12_isDraw_14 (fun r24 S24 H locs hp24 hQ _ => ?_)
    obtain ⟨rfl, b24, g24_0⟩ := hp24
    have q54 : elm (S 7) 6 = v4.toInt := (elm_of c2 6).trans (congrArg Int32.toInt (ee5))
    refine lv_if_eq (tgt := 24) hx hb dX12_isDraw_17 (by decide) (fun k55 => ?_) (fun k55 => ?_)
    · have h56 := ib_eq k55
      have b57 : Bd r24 (0) (0) := ⟨(b24).1, ((rf_eq b24 (by decide : Bd 0 (0) (0)) h56).1).2⟩
      clear g24_0
      refine lv_iconst (v := 0) hx hb dX12_isDraw_24 (by decide) ?_
      have q58 : (0 : Int32).toInt = 0 := by decide
      exact xrz E hr hlk hQ rfl (⟨rfl, (ib_wk (by decide : Bd 0 (0) (0)) (by decide) (by decide)), Or.inl (by omega)⟩) dX12_isDraw_25
    · have h59 := ib_ne k55
      have b60 : Bd r24 (1) (1) := rf_nlo b24 (by decide : Bd 0 (0) (0)) h59
      have g61 := g24_0.resolve_left (by omega)
      clear g24_0
      have b62 : Bd a2 (0) (7) := ⟨by omega, by omega⟩
      have b63 : Bd v4 (1) (8) := ⟨by omega, (b6).2⟩
      refine lv_iconst (v := 1) hx hb dX12_isDraw_20 (by decide) ?_
      refine lv_goto (tgt := 25) hx hb dX12_isDraw_21 (by decide) ?_
      have q64 : (1 : Int32).toInt = 1 := by decide
      exact xrz E hr hlk hQ rfl (⟨rfl, (ib_wk (by decide : Bd 1 (1) (1)) (by decide) (by decide)), Or.inr ⟨by omega, by omega, by omega, by omega⟩⟩) dX12_isDraw_25
set_option maxHeartbeats 4000000 in
set_option maxRecDepth 100000 in
theorem gX12_sizeOf (l : Launch) (g : GG) (ad : Nat → Nat) (hD : Dj ad 20) (S : SS) (hI : InvM g ad S) (a1 : Int32) : Met l yX12_sizeOf (wG (.code yX12_sizeOf cX12_sizeOf 3 (some .int))) (Rm 0) (XPre g ad 20 S [.int a1]) (va_Qi (fun _ S' => S = S') (QB g ad 20) (FA ad 20)) 0 0 (FA ad 20) := by
  refine xmet cX12_sizeOf "EbbWreckModel" (by decide) rfl (Nat.le_of_ble_eq_true rfl) (fun p e s m below meth c E hr hlk hml hQ ls hl => ?_)
  have hx := E.1
  have hb := E.2.1
  have hs : Sp ad 20 (FA ad 20) := Sp.fa hD
  have hl : lv_has ls 3 [(0, .int a1)] := hl
  refine lv_iconst (v := 0) hx hb dX12_sizeOf_0 (by decide) ?_
  refine lv_istore_n (lv' := [(1, .int 0), (0, .int a1)]) hx hb dX12_sizeOf_1 rfl hl (by decide) rfl (fun ls hl => ?_)
  refine lv_iload_n hx hb dX12_sizeOf_2 rfl (lv_at hl 1 rfl) ?_
  refine lv_istore_n (lv' := [(2, .int a1), (1, .int 0), (0, .int a1)]) hx hb dX12_sizeOf_3 rfl hl (by decide) rfl (fun ls hl => ?_)
  have loop4 : ∀ (n : Nat) (H : Heap) (locs : List Loc) (ls : Array Slot) (x4_1 : Int32) (x4_2 : Int32), ((x4_2.toBitVec.toNat : Nat) : Int) < ((n : Nat) : Int) → Hp g ad 20 S (FA ad 20) s.heap H locs → lv_has ls 3 [(2, .int x4_2), (1, .int x4_1), (0, .int a1)] → W p l e (Rm 0) s m [.int a1].toArray below meth c H locs 0 0 (MQ below (va_Qi (fun _ S' => S = S') (QB g ad 20) (FA ad 20)) [.int a1].toArray s 0 0 (FA ad 20)) (F0 m 4 ls []) := by
    intro n
    induction n with
    | zero => intro H locs ls x4_1 x4_2 hn4_ hQ hl; exfalso; omega
    | succ n4_ ih4 =>
      intro H locs ls x4_1 x4_2 hn4_ hQ hl
      refine lv_iload_n hx hb dX12_sizeOf_4 rfl (lv_at hl 0 rfl) ?_
      refine lv_if_eq (tgt := 20) hx hb dX12_sizeOf_5 (by decide) (fun k1 => ?_) (fun k1 => ?_)
      · have h2 := ib_eq k1
        have b3 : Bd x4_2 (0) (0) := ⟨((rf_eq (ib_full x4_2) (by decide : Bd 0 (0) (0)) h2).1).1, ((rf_eq (ib_full x4_2) (by decide : Bd 0 (0) (0)) h2).1).2⟩
        refine lv_iload_n hx hb dX12_sizeOf_20 rfl (lv_at hl 1 rfl) ?_
        exact xri E hr hlk hQ (rfl) dX12_sizeOf_21
      · have h4 := ib_ne k1
        obtain ⟨z5, e6⟩ : ∃ z : Int32, z = x4_1 + 1 := ⟨_, rfl⟩
        refine lv_iinc (v := z5) (lv' := [(1, .int z5), (2, .int x4_2), (0, .int a1)]) hx hb dX12_sizeOf_8 hl (k := 1) rfl (by rw [e6]; rfl) (by decide) rfl (fun ls hl => ?_)
        refine lv_iload_n hx hb dX12_sizeOf_11 rfl (lv_at hl 1 rfl) ?_
        refine lv_iload_n hx hb dX12_sizeOf_12 rfl (lv_at hl 1 rfl) ?_
        refine lv_iconst (v := 1) hx hb dX12_sizeOf_13 (by decide) ?_
        refine lv_isub hx hb dX12_sizeOf_14 ?_
        refine lv_topi (fun z7 e8 => ?_)
        refine lv_iand hx hb dX12_sizeOf_15 ?_
        refine lv_topi (fun z9 e10 => ?_)
        refine lv_istore_n (lv' := [(2, .int z9), (1, .int z5), (0, .int a1)]) hx hb dX12_sizeOf_16 rfl hl (by decide) rfl (fun ls hl => ?_)
        refine lv_goto (tgt := 4) hx hb dX12_sizeOf_17 (by decide) ?_
        exact ih4 _ _ _ z5 z9 (by have := and_dec e10 e8 k1; omega) hQ (lv_sub hl [0, 1, 2] rfl)
  obtain ⟨n4, hn4⟩ := fu_n (((a1.toBitVec.toNat : Nat) : Int))
  exact loop4 n4 _ _ _ 0 a1 hn4 hQ (lv_sub hl [0, 1, 2] rfl)
set_option maxHeartbeats 4000000 in
set_option maxRecDepth 100000 in
theorem gX12_lays_0 (l : Launch) (g : GG) (ad : Nat → Nat) (hD : Dj ad 20) (S : SS) (hI : InvM g ad S) (hAT : ATp (S 7) (S 12) 0) : Met l yX12_lays (wG (.code yX12_lays cX12_lays 2 none)) (Rm 0) (XPre g ad 20 S [.ref (ad 0)]) (va_Qv (fun S' => InvM g ad S' ∧ (∀ j, j ∉ ([14, 15] : List Nat) → S' j = S j)) (QB g ad 20) (FA ad 20)) 0 0 (FA ad 20) := by
  refine xmet cX12_lays "EbbWreckModel" (by decide) rfl (Nat.le_of_ble_eq_true rfl) (fun p e s m below meth c E hr hlk hml hQ ls hl => ?_)
  have hx := E.1
  have hb := E.2.1
  have hs : Sp ad 20 (FA ad 20) := Sp.fa hD
  have hl : lv_has ls 2 [(0, .ref (ad 0))] := hl
  refine lv_iconst (v := 0) hx hb dX12_lays_0 (by decide) ?_
  refine lv_istore_n (lv' := [(1, .int 0), (0, .ref (ad 0))]) hx hb dX12_lays_1 rfl hl (by decide) rfl (fun ls hl => ?_)
  have loop2 : ∀ (n : Nat) (S_2 : SS) (H : Heap) (locs : List Loc) (ls : Array Slot) (x2_1 : Int32), Bd x2_1 (0) (3) → (-1) * x2_1.toInt + 3 < ((n : Nat) : Int) → InvM g ad S_2 → (∀ j, j ∉ ([14] : List Nat) → S_2 j = S j) → Hp g ad 20 S_2 (FA ad 20) s.heap H locs → lv_has ls 2 [(1, .int x2_1), (0, .ref (ad 0))] → W p l e (Rm 0) s m [.ref (ad 0)].toArray below meth c H locs 0 0 (MQ below (va_Qv (fun S' => InvM g ad S' ∧ (∀ j, j ∉ ([14, 15] : List Nat) → S' j = S j)) (QB g ad 20) (FA ad 20)) [.ref (ad 0)].toArray s 0 0 (FA ad 20)) (F0 m 2 ls []) := by
    intro n
    induction n with
    | zero => intro S_2 H locs ls x2_1 Bx2_1 hn2_ hI hf2 hQ hl; exfalso; have := (Bx2_1).2; omega
    | succ n2_ ih2 =>
      intro S_2 H locs ls x2_1 Bx2_1 hn2_ hI hf2 hQ hl
      refine lv_iload_n hx hb dX12_lays_2 rfl (lv_at hl 0 rfl) ?_
      refine lv_aload_n hx hb dX12_lays_3 rfl (lv_at hl 1 rfl) ?_
      obtain ⟨v1, v2, v4, v6, v8, v9, w10, v11, v13, v14, v15, v16, v18, v20, v22, v24, v26, v27, v28, c29, b3, b5, b7, b12, b17, b19, b21, b23, b25⟩ := invM_0 hI
      have c29 : S_2 0 = .inr (12, [.int v1, .ref (ad 1), .ref (ad 2), .ref (ad 3), .ref (ad 4), .ref (ad 5), .int v2, .int v4, .int v6, .int v8, .int v9, .long w10, .int v11, .int v13, .int v14, .int v15, .ref (ad 6), .ref (ad 7), .ref (ad 8), .ref (ad 9), .ref (ad 10), .ref (ad 11), .ref (ad 12), .ref (ad 13), .ref (ad 14), .ref (ad 15), .int v16, .int v18, .ref (ad 16), .int v20, .int v22, .int v24, .int v26, .int v27, .ref (ad 17), .ref (ad 18), .int v28, .ref (ad 19)]) := c29
      refine xget E hQ 0 (by decide) c29 rfl 17 (by decide) q1485 rfl dX12_lays_4 ?_
      refine lv_bipush (v := 8) hx hb dX12_lays_7 (by decide) ?_
      obtain ⟨f30, c31, b32⟩ := invM_7 hI
      refine xiald E hQ 7 (by decide) c31 (vp_in_lit 8 50 (by decide)) dX12_lays_9 ?_
      obtain ⟨v33, ee34⟩ : ∃ z : Int32, f30 8 = z := ⟨_, rfl⟩
      have b35 : Bd v33 (0) (3) := (by rw [← ee34]; exact b32.2.2.2.2.2.2.1 8 (by decide))
      refine sb_at (P := fun z => W _ _ _ _ _ _ _ _ _ _ _ _ _ _ _ (F0 _ _ _ (.int z :: _))) (show f30 (8 : Int32).toNatClampNeg = v33 from ee34) ?_
      refine lv_icmp_ge (tgt := 31) hx hb dX12_lays_10 (by decide) (fun k36 => ?_) (fun k36 => ?_)
      · have h37 := ib_le k36
        refine lv_iconst (v := 0) hx hb dX12_lays_31 (by decide) ?_
        refine lv_istore_n (lv' := [(1, .int 0), (0, .ref (ad 0))]) hx hb dX12_lays_32 rfl hl (by decide) rfl (fun ls hl => ?_)
        have loop33 : ∀ (n : Nat) (S_33 : SS) (H : Heap) (locs : List Loc) (ls : Array Slot) (x33_1 : Int32), Bd x33_1 (0) (3208) → (-1) * x33_1.toInt + 3208 < ((n : Nat) : Int) → InvM g ad S_33 → (∀ j, j ∉ ([15] : List Nat) → S_33 j = S_2 j) → Hp g ad 20 S_33 (FA ad 20) s.heap H locs → lv_has ls 2 [(1, .int x33_1), (0, .ref (ad 0))] → W p l e (Rm 0) s m [.ref (ad 0)].toArray below meth c H locs 0 0 (MQ below (va_Qv (fun S' => InvM g ad S' ∧ (∀ j, j ∉ ([14, 15] : List Nat) → S' j = S j)) (QB g ad 20) (FA ad 20)) [.ref (ad 0)].toArray s 0 0 (FA ad 20)) (F0 m 33 ls []) := by
          intro n
          induction n with
          | zero => intro S_33 H locs ls x33_1 Bx33_1 hn33_ hI hf33 hQ hl; exfalso; have := (Bx33_1).2; omega
          | succ n33_ ih33 =>
            intro S_33 H locs ls x33_1 Bx33_1 hn33_ hI hf33 hQ hl
            refine lv_iload_n hx hb dX12_lays_33 rfl (lv_at hl 0 rfl) ?_
            refine lv_sipush (v := 3208) hx hb dX12_lays_34 (by decide) ?_
            refine lv_icmp_ge (tgt := 53) hx hb dX12_lays_37 (by decide) (fun k38 => ?_) (fun k38 => ?_)
            · have h39 := ib_le k38
              have b40 : Bd x33_1 (3208) (3208) := ⟨((rf_le (by decide : Bd 3208 (3208) (3208)) Bx33_1 h39).2).1, (Bx33_1).2⟩
              refine lv_iconst (v := 0) hx hb dX12_lays_53 (by decide) ?_
              refine lv_istore_n (lv' := [(1, .int 0), (0, .ref (ad 0))]) hx hb dX12_lays_54 rfl hl (by decide) rfl (fun ls hl => ?_)
              have loop55 : ∀ (n : Nat) (S_55 : SS) (H : Heap) (locs : List Loc) (ls : Array Slot) (x55_1 : Int32), Bd x55_1 (0) (40) → (-1) * x55_1.toInt + 40 < ((n : Nat) : Int) → InvM g ad S_55 → (∀ j, j ∉ ([14, 15] : List Nat) → S_55 j = S_33 j) → Hp g ad 20 S_55 (FA ad 20) s.heap H locs → lv_has ls 2 [(1, .int x55_1), (0, .ref (ad 0))] → W p l e (Rm 0) s m [.ref (ad 0)].toArray below meth c H locs 0 0 (MQ below (va_Qv (fun S' => InvM g ad S' ∧ (∀ j, j ∉ ([14, 15] : List Nat) → S' j = S j)) (QB g ad 20) (FA ad 20)) [.ref (ad 0)].toArray s 0 0 (FA ad 20)) (F0 m 55 ls []) := by
                intro n
                induction n with
                | zero => intro S_55 H locs ls x55_1 Bx55_1 hn55_ hI hf55 hQ hl; exfalso; have := (Bx55_1).2; omega
                | succ n55_ ih55 =>
                  intro S_55 H locs ls x55_1 Bx55_1 hn55_ hI hf55 hQ hl
                  refine lv_iload_n hx hb dX12_lays_55 rfl (lv_at hl 0 rfl) ?_
                  refine lv_aload_n hx hb dX12_lays_56 rfl (lv_at hl 1 rfl) ?_
                  have c41 : S_55 0 = .inr (12, [.int v1, .ref (ad 1), .ref (ad 2), .ref (ad 3), .ref (ad 4), .ref (ad 5), .int v2, .int v4, .int v6, .int v8, .int v9, .long w10, .int v11, .int v13, .int v14, .int v15, .ref (ad 6), .ref (ad 7), .ref (ad 8), .ref (ad 9), .ref (ad 10), .ref (ad 11), .ref (ad 12), .ref (ad 13), .ref (ad 14), .ref (ad 15), .int v16, .int v18, .ref (ad 16), .int v20, .int v22, .int v24, .int v26, .int v27, .ref (ad 17), .ref (ad 18), .int v28, .ref (ad 19)]) := ((hf55 0 (by decide)).trans ((hf33 0 (by decide)).trans c29))
                  refine xget E hQ 0 (by decide) c41 rfl 17 (by decide) q1485 rfl dX12_lays_57 ?_
                  refine lv_bipush (v := 9) hx hb dX12_lays_60 (by decide) ?_
                  have c42 : S_55 7 = .inl (g.2 0, 50, .inl f30) := ((hf55 7 (by decide)).trans ((hf33 7 (by decide)).trans c31))
                  refine xiald E hQ 7 (by decide) c42 (vp_in_lit 9 50 (by decide)) dX12_lays_62 ?_
                  obtain ⟨v43, ee44⟩ : ∃ z : Int32, f30 9 = z := ⟨_, rfl⟩
                  have b45 : Bd v43 (0) (40) := (by rw [← ee44]; exact b32.2.2.2.2.2.2.2 9 (by decide))
                  refine sb_at (P := fun z => W _ _ _ _ _ _ _ _ _ _ _ _ _ _ _ (F0 _ _ _ (.int z :: _))) (show f30 (9 : Int32).toNatClampNeg = v43 from ee44) ?_
                  refine lv_icmp_ge (tgt := 153) hx hb dX12_lays_63 (by decide) (fun k46 => ?_) (fun k46 => ?_)
                  · have h47 := ib_le k46
                    exact xrv E hr hlk hQ (⟨hI, (o_trans (o_trans (o_trans o_refl hf2 (by decide)) hf33 (by decide)) hf55 (by decide))⟩) dX12_lays_153
                  · have h48 := ib_nle k46
                    have b49 : Bd x55_1 (0) (39) := ⟨(Bx55_1).1, ((rf_lt Bx55_1 b45 h48).1).2⟩
                    have b50 : Bd v43 (1) (40) := ⟨((rf_lt Bx55_1 b45 h48).2).1, (b45).2⟩
                    refine lv_aload_n hx hb dX12_lays_66 rfl (lv_at hl 1 rfl) ?_
                    refine xget E hQ 0 (by decide) c41 rfl 22 (by decide) q1490 rfl dX12_lays_67 ?_
                    refine lv_iconst (v := 4) hx hb dX12_lays_70 (by decide) ?_
                    refine lv_iload_n hx hb dX12_lays_71 rfl (lv_at hl 0 rfl) ?_
                    refine lv_imul hx hb dX12_lays_72 ?_
                    refine lv_topi (fun z51 e52 => ?_)
                    have t53 := ib_cmul (q := 4) e52 (by decide) (by decide) b49 (by decide) (by decide)
                    have b54 : Bd z51 (0) (156) := ib_mulb t53 (by decide) b49
                    obtain ⟨f55, c56, b57⟩ := invM_12 hI
                    refine xiald E hQ 12 (by decide) c56 (ib_in b54 (by decide) (by decide)) dX12_lays_73 ?_
                    refine lv_topi (fun z58 e59 => ?_)
                    refine lv_if_ne (tgt := 105) hx hb dX12_lays_74 (by decide) (fun k60 => ?_) (fun k60 => ?_)
                    · have h61 := ib_ne k60
                      refine lv_aload_n hx hb dX12_lays_105 rfl (lv_at hl 1 rfl) ?_
                      refine xget E hQ 0 (by decide) c41 rfl 25 (by decide) q1493 rfl dX12_lays_106 ?_
                      refine lv_sipush (v := 401) hx hb dX12_lays_109 (by decide) ?_
                      refine lv_aload_n hx hb dX12_lays_112 rfl (lv_at hl 1 rfl) ?_
                      refine xget E hQ 0 (by decide) c41 rfl 22 (by decide) q1490 rfl dX12_lays_113 ?_
                      refine lv_iconst (v := 4) hx hb dX12_lays_116 (by decide) ?_
                      refine lv_iload_n hx hb dX12_lays_117 rfl (lv_at hl 0 rfl) ?_
                      refine lv_imul hx hb dX12_lays_118 ?_
                      refine lv_topi (fun z62 e63 => ?_)
                      have t64 := ib_cmul (q := 4) e63 (by decide) (by decide) b49 (by decide) (by decide)
                      have b65 : Bd z62 (0) (156) := ib_mulb t64 (by decide) b49
                      refine lv_iconst (v := 1) hx hb dX12_lays_119 (by decide) ?_
                      refine lv_iadd hx hb dX12_lays_120 ?_
                      refine lv_topi (fun z66 e67 => ?_)
                      have t68 := ib_add e67 b65 (by decide : Bd 1 (1) (1)) (by decide) (by decide)
                      have b69 : Bd z66 (1) (157) := ib_addb t68 b65 (by decide : Bd 1 (1) (1))
                      have t68 : z66.toInt = z62.toInt + 1 := fold_add t68 rfl (by decide)
                      refine xiald E hQ 12 (by decide) c56 (ib_in b69 (by decide) (by decide)) dX12_lays_121 ?_
                      refine lv_topi (fun z70 e71 => ?_)
                      have b72 : Bd z70 (0) (7) := (by rw [e71]; exact b57.1 _ (by rw [clampN b69]; omega))
                      refine lv_imul hx hb dX12_lays_122 ?_
                      refine lv_topi (fun z73 e74 => ?_)
                      have t75 := ib_cmul (q := 401) e74 (by decide) (by decide) b72 (by decide) (by decide)
                      have b76 : Bd z73 (0) (2807) := ib_mulb t75 (by decide) b72
                      refine lv_aload_n hx hb dX12_lays_123 rfl (lv_at hl 1 rfl) ?_
                      refine xget E hQ 0 (by decide) c41 rfl 22 (by decide) q1490 rfl dX12_lays_124 ?_
                      refine lv_iconst (v := 4) hx hb dX12_lays_127 (by decide) ?_
                      refine lv_iload_n hx hb dX12_lays_128 rfl (lv_at hl 0 rfl) ?_
                      refine lv_imul hx hb dX12_lays_129 ?_
                      refine lv_topi (fun z77 e78 => ?_)
                      have t79 := ib_cmul (q := 4) e78 (by decide) (by decide) b49 (by decide) (by decide)
                      have b80 : Bd z77 (0) (156) := ib_mulb t79 (by decide) b49
                      refine lv_iconst (v := 2) hx hb dX12_lays_130 (by decide) ?_
                      refine lv_iadd hx hb dX12_lays_131 ?_
                      refine lv_topi (fun z81 e82 => ?_)
                      have t83 := ib_add e82 b80 (by decide : Bd 2 (2) (2)) (by decide) (by decide)
                      have b84 : Bd z81 (2) (158) := ib_addb t83 b80 (by decide : Bd 2 (2) (2))
                      have t83 : z81.toInt = z77.toInt + 2 := fold_add t83 rfl (by decide)
                      refine xiald E hQ 12 (by decide) c56 (ib_in b84 (by decide) (by decide)) dX12_lays_132 ?_
                      refine lv_topi (fun z85 e86 => ?_)
                      have b87 : Bd z85 (0) (400) := (by rw [e86]; exact b57.2 _ (by rw [clampN b84]; omega))
                      refine lv_iadd hx hb dX12_lays_133 ?_
                      refine lv_topi (fun z88 e89 => ?_)
                      have t90 := ib_add e89 b76 b87 (by decide) (by decide)
                      have b91 : Bd z88 (0) (3207) := ib_addb t90 b76 b87
                      refine lv_iconst (v := 1) hx hb dX12_lays_134 (by decide) ?_
                      refine lv_aload_n hx hb dX12_lays_135 rfl (lv_at hl 1 rfl) ?_
                      refine xget E hQ 0 (by decide) c41 rfl 22 (by decide) q1490 rfl dX12_lays_136 ?_
                      refine lv_iconst (v := 4) hx hb dX12_lays_139 (by decide) ?_
                      refine lv_iload_n hx hb dX12_lays_140 rfl (lv_at hl 0 rfl) ?_
                      refine lv_imul hx hb dX12_lays_141 ?_
                      refine lv_topi (fun z92 e93 => ?_)
                      have t94 := ib_cmul (q := 4) e93 (by decide) (by decide) b49 (by decide) (by decide)
                      have b95 : Bd z92 (0) (156) := ib_mulb t94 (by decide) b49
                      refine lv_iconst (v := 3) hx hb dX12_lays_142 (by decide) ?_
                      refine lv_iadd hx hb dX12_lays_143 ?_
                      refine lv_topi (fun z96 e97 => ?_)
                      have t98 := ib_add e97 b95 (by decide : Bd 3 (3) (3)) (by decide) (by decide)
                      have b99 : Bd z96 (3) (159) := ib_addb t98 b95 (by decide : Bd 3 (3) (3))
                      have t98 : z96.toInt = z92.toInt + 3 := fold_add t98 rfl (by decide)
                      refine xiald E hQ 12 (by decide) c56 (ib_in b99 (by decide) (by decide)) dX12_lays_144 ?_
                      refine lv_topi (fun z100 e101 => ?_)
                      refine lv_iadd hx hb dX12_lays_145 ?_
                      refine lv_topi (fun z102 e103 => ?_)
                      obtain ⟨f104, c105⟩ := invM_15 hI
                      refine xiast E hs hQ 15 (by decide) c105 (ib_in b91 (by decide) (by decide)) dX12_lays_146 (fun H locs S107 eS107 hQ => ?_)
                      have hI := invM_up_15 hI eS107 ⟨_, rfl⟩
                      have c108 : S107 15 = .inl (g.2 0, 3208, .inl (upd f104 (z88 : Int32).toNatClampNeg z102)) := up_at eS107 rfl
                      obtain ⟨z109, e110⟩ : ∃ z : Int32, z = x55_1 + 1 := ⟨_, rfl⟩
                      have t111 := ib_add e110 b49 (by decide : Bd 1 (1) (1)) (by decide) (by decide)
                      have b112 : Bd z109 (1) (40) := ib_addb t111 b49 (by decide : Bd 1 (1) (1))
                      have t111 : z109.toInt = x55_1.toInt + 1 := fold_add t111 rfl (by decide)
                      refine lv_iinc (v := z109) (lv' := [(1, .int z109), (0, .ref (ad 0))]) hx hb dX12_lays_147 hl (k := 0) rfl (by rw [e110]; rfl) (by decide) rfl (fun ls hl => ?_)
                      refine lv_goto (tgt := 55) hx hb dX12_lays_150 (by decide) ?_
                      exact ih55 _ _ _ _ z109 (ib_wk b112 (by decide) (by decide)) (by omega) hI (up_o hf55 eS107 (by decide)) hQ (lv_sub hl [0, 1] rfl)
                    · have h113 := ib_eq k60
                      have b114 : Bd z58 (0) (0) := ⟨((rf_eq (ib_full z58) (by decide : Bd 0 (0) (0)) h113).1).1, ((rf_eq (ib_full z58) (by decide : Bd 0 (0) (0)) h113).1).2⟩
                      refine lv_aload_n hx hb dX12_lays_77 rfl (lv_at hl 1 rfl) ?_
                      refine xget E hQ 0 (by decide) c41 rfl 24 (by decide) q1492 rfl dX12_lays_78 ?_
                      refine lv_aload_n hx hb dX12_lays_81 rfl (lv_at hl 1 rfl) ?_
                      refine xget E hQ 0 (by decide) c41 rfl 22 (by decide) q1490 rfl dX12_lays_82 ?_
                      refine lv_iconst (v := 4) hx hb dX12_lays_85 (by decide) ?_
                      refine lv_iload_n hx hb dX12_lays_86 rfl (lv_at hl 0 rfl) ?_
                      refine lv_imul hx hb dX12_lays_87 ?_
                      refine lv_topi (fun z115 e116 => ?_)
                      have t117 := ib_cmul (q := 4) e116 (by decide) (by decide) b49 (by decide) (by decide)
                      have b118 : Bd z115 (0) (156) := ib_mulb t117 (by decide) b49
                      refine lv_iconst (v := 1) hx hb dX12_lays_88 (by decide) ?_
                      refine lv_iadd hx hb dX12_lays_89 ?_
                      refine lv_topi (fun z119 e120 => ?_)
                      have t121 := ib_add e120 b118 (by decide : Bd 1 (1) (1)) (by decide) (by decide)
                      have b122 : Bd z119 (1) (157) := ib_addb t121 b118 (by decide : Bd 1 (1) (1))
                      have t121 : z119.toInt = z115.toInt + 1 := fold_add t121 rfl (by decide)
                      refine xiald E hQ 12 (by decide) c56 (ib_in b122 (by decide) (by decide)) dX12_lays_90 ?_
                      refine lv_topi (fun z123 e124 => ?_)
                      have b125 : Bd z123 (0) (7) := (by rw [e124]; exact b57.1 _ (by rw [clampN b122]; omega))
                      have q127 : elm (S_55 7) 9 = v43.toInt := (elm_of c42 9).trans (congrArg Int32.toInt (ee44))
                      have ar126 := at_1 (i1 := z119) (at_0 (at_tr hAT ((hf55 7 (by decide)).trans ((hf33 7 (by decide)).trans (hf2 7 (by decide)))) ((hf55 12 (by decide)).trans ((hf33 12 (by decide)).trans (hf2 12 (by decide))))) c56 (q := x55_1) (by omega) (by omega) (i := z51) (by omega) e59 (by omega)) (by omega) (by omega)
                      have b128 : Bd z123 (0) (2) := ⟨(b125).1, by rw [e124]; exact ar126⟩
                      refine lv_aload_n hx hb dX12_lays_91 rfl (lv_at hl 1 rfl) ?_
                      refine xget E hQ 0 (by decide) c41 rfl 22 (by decide) q1490 rfl dX12_lays_92 ?_
                      refine lv_iconst (v := 4) hx hb dX12_lays_95 (by decide) ?_
                      refine lv_iload_n hx hb dX12_lays_96 rfl (lv_at hl 0 rfl) ?_
                      refine lv_imul hx hb dX12_lays_97 ?_
                      refine lv_topi (fun z129 e130 => ?_)
                      have t131 := ib_cmul (q := 4) e130 (by decide) (by decide) b49 (by decide) (by decide)
                      have b132 : Bd z129 (0) (156) := ib_mulb t131 (by decide) b49
                      refine lv_iconst (v := 2) hx hb dX12_lays_98 (by decide) ?_
                      refine lv_iadd hx hb dX12_lays_99 ?_
                      refine lv_topi (fun z133 e134 => ?_)
                      have t135 := ib_add e134 b132 (by decide : Bd 2 (2) (2)) (by decide) (by decide)
                      have b136 : Bd z133 (2) (158) := ib_addb t135 b132 (by decide : Bd 2 (2) (2))
                      have t135 : z133.toInt = z129.toInt + 2 := fold_add t135 rfl (by decide)
                      refine xiald E hQ 12 (by decide) c56 (ib_in b136 (by decide) (by decide)) dX12_lays_100 ?_
                      refine lv_topi (fun z137 e138 => ?_)
                      have b139 : Bd z137 (0) (400) := (by rw [e138]; exact b57.2 _ (by rw [clampN b136]; omega))
                      have ar140 := at_2 (i2 := z133) (at_0 (at_tr hAT ((hf55 7 (by decide)).trans ((hf33 7 (by decide)).trans (hf2 7 (by decide)))) ((hf55 12 (by decide)).trans ((hf33 12 (by decide)).trans (hf2 12 (by decide))))) c56 (q := x55_1) (by omega) (by omega) (i := z51) (by omega) e59 (by omega)) (by omega) (by omega)
                      have b141 : Bd z137 (0) (11) := ⟨(b139).1, by rw [e138]; exact ar140⟩
                      obtain ⟨f142, c143, b144⟩ := invM_14 hI
                      refine xiast E hs hQ 14 (by decide) c143 (ib_in b128 (by decide) (by decide)) dX12_lays_101 (fun H locs S145 eS145 hQ => ?_)
                      have hI := invM_up_14 hI eS145 ⟨_, rfl, upd_b b144 b141⟩
                      have b147 : ∀ j, Bd ((upd f142 (z123 : Int32).toNatClampNeg z137) j) (0) (11) := upd_b b144 b141
                      have c146 : S145 14 = .inl (g.2 0, 3, .inl (upd f142 (z123 : Int32).toNatClampNeg z137)) := up_at eS145 rfl
                      refine lv_goto (tgt := 147) hx hb dX12_lays_102 (by decide) ?_
                      obtain ⟨z148, e149⟩ : ∃ z : Int32, z = x55_1 + 1 := ⟨_, rfl⟩
                      have t150 := ib_add e149 b49 (by decide : Bd 1 (1) (1)) (by decide) (by decide)
                      have b151 : Bd z148 (1) (40) := ib_addb t150 b49 (by decide : Bd 1 (1) (1))
                      have t150 : z148.toInt = x55_1.toInt + 1 := fold_add t150 rfl (by decide)
                      refine lv_iinc (v := z148) (lv' := [(1, .int z148), (0, .ref (ad 0))]) hx hb dX12_lays_147 hl (k := 0) rfl (by rw [e149]; rfl) (by decide) rfl (fun ls hl => ?_)
                      refine lv_goto (tgt := 55) hx hb dX12_lays_150 (by decide) ?_
                      exact ih55 _ _ _ _ z148 (ib_wk b151 (by decide) (by decide)) (by omega) hI (up_o hf55 eS145 (by decide)) hQ (lv_sub hl [0, 1] rfl)
              obtain ⟨n55, hn55⟩ := fu_n (40)
              exact loop55 n55 _ _ _ _ 0 (ib_wk (by decide : Bd 0 (0) (0)) (by decide) (by decide)) (by have : (0 : Int32).toInt = 0 := (by decide); omega) hI o_refl hQ (lv_sub hl [0, 1] rfl)
            · have h152 := ib_nle k38
              have b153 : Bd x33_1 (0) (3207) := ⟨(Bx33_1).1, ((rf_lt Bx33_1 (by decide : Bd 3208 (3208) (3208)) h152).1).2⟩
              refine lv_aload_n hx hb dX12_lays_40 rfl (lv_at hl 1 rfl) ?_
              have c154 : S_33 0 = .inr (12, [.int v1, .ref (ad 1), .ref (ad 2), .ref (ad 3), .ref (ad 4), .ref (ad 5), .int v2, .int v4, .int v6, .int v8, .int v9, .long w10, .int v11, .int v13, .int v14, .int v15, .ref (ad 6), .ref (ad 7), .ref (ad 8), .ref (ad 9), .ref (ad 10), .ref (ad 11), .ref (ad 12), .ref (ad 13), .ref (ad 14), .ref (ad 15), .int v16, .int v18, .ref (ad 16), .int v20, .int v22, .int v24, .int v26, .int v27, .ref (ad 17), .ref (ad 18), .int v28, .ref (ad 19)]) := ((hf33 0 (by decide)).trans c29)
              refine xget E hQ 0 (by decide) c154 rfl 25 (by decide) q1493 rfl dX12_lays_41 ?_
              refine lv_iload_n hx hb dX12_lays_44 rfl (lv_at hl 0 rfl) ?_
              refine lv_iconst (v := 0) hx hb dX12_lays_45 (by decide) ?_
              obtain ⟨f155, c156⟩ := invM_15 hI
              refine xiast E hs hQ 15 (by decide) c156 (ib_in b153 (by decide) (by decide)) dX12_lays_46 (fun H locs S158 eS158 hQ => ?_)
              have hI := invM_up_15 hI eS158 ⟨_, rfl⟩
              have c159 : S158 15 = .inl (g.2 0, 3208, .inl (upd f155 (x33_1 : Int32).toNatClampNeg 0)) := up_at eS158 rfl
              obtain ⟨z160, e161⟩ : ∃ z : Int32, z = x33_1 + 1 := ⟨_, rfl⟩
              have t162 := ib_add e161 b153 (by decide : Bd 1 (1) (1)) (by decide) (by decide)
              have b163 : Bd z160 (1) (3208) := ib_addb t162 b153 (by decide : Bd 1 (1) (1))
              have t162 : z160.toInt = x33_1.toInt + 1 := fold_add t162 rfl (by decide)
              refine lv_iinc (v := z160) (lv' := [(1, .int z160), (0, .ref (ad 0))]) hx hb dX12_lays_47 hl (k := 0) rfl (by rw [e161]; rfl) (by decide) rfl (fun ls hl => ?_)
              refine lv_goto (tgt := 33) hx hb dX12_lays_50 (by decide) ?_
              exact ih33 _ _ _ _ z160 (ib_wk b163 (by decide) (by decide)) (by omega) hI (up_o hf33 eS158 (by decide)) hQ (lv_sub hl [0, 1] rfl)
        obtain ⟨n33, hn33⟩ := fu_n (3208)
        exact loop33 n33 _ _ _ _ 0 (ib_wk (by decide : Bd 0 (0) (0)) (by decide) (by decide)) (by have : (0 : Int32).toInt = 0 := (by decide); omega) hI o_refl hQ (lv_sub hl [0, 1] rfl)
      · have h164 := ib_nle k36
        have b165 : Bd x2_1 (0) (2) := ⟨(Bx2_1).1, ((rf_lt Bx2_1 b35 h164).1).2⟩
        have b166 : Bd v33 (1) (3) := ⟨((rf_lt Bx2_1 b35 h164).2).1, (b35).2⟩
        refine lv_aload_n hx hb dX12_lays_13 rfl (lv_at hl 1 rfl) ?_
        refine xget E hQ 0 (by decide) c29 rfl 24 (by decide) q1492 rfl dX12_lays_14 ?_
        refine lv_iload_n hx hb dX12_lays_17 rfl (lv_at hl 0 rfl) ?_
        refine lv_aload_n hx hb dX12_lays_18 rfl (lv_at hl 1 rfl) ?_
        refine xget E hQ 0 (by decide) c29 rfl 21 (by decide) q1489 rfl dX12_lays_19 ?_
        refine lv_iload_n hx hb dX12_lays_22 rfl (lv_at hl 0 rfl) ?_
        obtain ⟨f167, c168, b169⟩ := invM_11 hI
        refine xiald E hQ 11 (by decide) c168 (ib_in b165 (by decide) (by decide)) dX12_lays_23 ?_
        refine lv_topi (fun z170 e171 => ?_)
        have b172 : Bd z170 (0) (11) := (by rw [e171]; exact b169 _)
        obtain ⟨f173, c174, b175⟩ := invM_14 hI
        refine xiast E hs hQ 14 (by decide) c174 (ib_in b165 (by decide) (by decide)) dX12_lays_24 (fun H locs S176 eS176 hQ => ?_)
        have hI := invM_up_14 hI eS176 ⟨_, rfl, upd_b b175 b172⟩
        have b178 : ∀ j, Bd ((upd f173 (x2_1 : Int32).toNatClampNeg z170) j) (0) (11) := upd_b b175 b172
        have c177 : S176 14 = .inl (g.2 0, 3, .inl (upd f173 (x2_1 : Int32).toNatClampNeg z170)) := up_at eS176 rfl
        obtain ⟨z179, e180⟩ : ∃ z : Int32, z = x2_1 + 1 := ⟨_, rfl⟩
        have t181 := ib_add e180 b165 (by decide : Bd 1 (1) (1)) (by decide) (by decide)
        have b182 : Bd z179 (1) (3) := ib_addb t181 b165 (by decide : Bd 1 (1) (1))
        have t181 : z179.toInt = x2_1.toInt + 1 := fold_add t181 rfl (by decide)
        refine lv_iinc (v := z179) (lv' := [(1, .int z179), (0, .ref (ad 0))]) hx hb dX12_lays_25 hl (k := 0) rfl (by rw [e180]; rfl) (by decide) rfl (fun ls hl => ?_)
        refine lv_goto (tgt := 2) hx hb dX12_lays_28 (by decide) ?_
        exact ih2 _ _ _ _ z179 (ib_wk b182 (by decide) (by decide)) (by omega) hI (up_o hf2 eS176 (by decide)) hQ (lv_sub hl [0, 1] rfl)
  obtain ⟨n2, hn2⟩ := fu_n (3)
  exact loop2 n2 _ _ _ _ 0 (ib_wk (by decide : Bd 0 (0) (0)) (by decide) (by decide)) (by have : (0 : Int32).toInt = 0 := (by decide); omega) hI o_refl hQ (lv_sub hl [0, 1] rfl)
set_option maxHeartbeats 4000000 in
set_option maxRecDepth 100000 in
theorem gX12_laysStrands_0 (l : Launch) (g : GG) (ad : Nat → Nat) (hD : Dj ad 20) (S : SS) (hI : InvM g ad S) (hq1 : 0 ≤ 12 * elm (S 7) 1 + (-1) * elm (S 7) 0) (hq2 : 0 ≤ 12 * elm (S 7) 3 + (-1) * elm (S 7) 0) (hq3 : 0 ≤ 8 * elm (S 7) 0 + (-1) * elm (S 7) 6) (hq4 : 0 ≤ 3 * elm (S 7) 0 + (-1) * elm (S 7) 8) (hq5 : 0 ≤ 40000 * elm (S 7) 0 + (-1) * elm (S 6) 0) (hAT : ATp (S 7) (S 12) 0) : Met l yX12_laysStrands (wG (.code yX12_laysStrands cX12_laysStrands 2 none)) (Rm 5) (XPre g ad 20 S [.ref (ad 0)]) (va_Qv (fun S' => InvM g ad S' ∧ (∀ j, j ∉ ([0, 14, 15, 17] : List Nat) → S' j = S j)) (QB g ad 20) (FA ad 20)) 0 0 (FA ad 20) := by
  refine xmet cX12_laysStrands "EbbWreckModel" (by decide) rfl (Nat.le_of_ble_eq_true rfl) (fun p e s m below meth c E hr hlk hml hQ ls hl => ?_)
  have hx := E.1
  have hb := E.2.1
  have hs : Sp ad 20 (FA ad 20) := Sp.fa hD
  have hl : lv_has ls 2 [(0, .ref (ad 0))] := hl
  obtain ⟨f1, c2, b3⟩ := invM_7 hI
  obtain ⟨v4, ee5⟩ : ∃ z : Int32, f1 1 = z := ⟨_, rfl⟩
  have b6 : Bd v4 (0) (12) := (by rw [← ee5]; exact b3.2.1 1 (by decide))
  obtain ⟨v7, ee8⟩ : ∃ z : Int32, f1 0 = z := ⟨_, rfl⟩
  have b9 : Bd v7 (0) (12) := (by rw [← ee8]; exact b3.1 0 (by decide))
  obtain ⟨v10, ee11⟩ : ∃ z : Int32, f1 3 = z := ⟨_, rfl⟩
  have b12 : Bd v10 (0) (12) := (by rw [← ee11]; exact b3.2.2.2.1 3 (by decide))
  obtain ⟨v13, ee14⟩ : ∃ z : Int32, f1 6 = z := ⟨_, rfl⟩
  have b15 : Bd v13 (0) (8) := (by rw [← ee14]; exact b3.2.2.2.2.1 6 (by decide))
  obtain ⟨v16, ee17⟩ : ∃ z : Int32, f1 8 = z := ⟨_, rfl⟩
  have b18 : Bd v16 (0) (3) := (by rw [← ee17]; exact b3.2.2.2.2.2.2.1 8 (by decide))
  obtain ⟨f19, c20, b21⟩ := invM_6 hI
  obtain ⟨v22, ee23⟩ : ∃ z : Int32, f19 0 = z := ⟨_, rfl⟩
  have b24 : Bd v22 (0) (40000) := (by rw [← ee23]; exact b21 0)
  have q25 : elm (S 7) 1 = v4.toInt := (elm_of c2 1).trans (congrArg Int32.toInt (ee5))
  have q26 : elm (S 7) 0 = v7.toInt := (elm_of c2 0).trans (congrArg Int32.toInt (ee8))
  have q27 : elm (S 7) 3 = v10.toInt := (elm_of c2 3).trans (congrArg Int32.toInt (ee11))
  have q28 : elm (S 7) 6 = v13.toInt := (elm_of c2 6).trans (congrArg Int32.toInt (ee14))
  have q29 : elm (S 7) 8 = v16.toInt := (elm_of c2 8).trans (congrArg Int32.toInt (ee17))
  have q30 : elm (S 6) 0 = v22.toInt := (elm_of c20 0).trans (congrArg Int32.toInt (ee23))
  refine lv_aload_n hx hb dX12_laysStrands_0 rfl (lv_at hl 0 rfl) ?_
  obtain ⟨v32, v33, v35, v37, v39, v40, w41, v42, v44, v45, v46, v47, v49, v51, v53, v55, v57, v58, v59, c60, b34, b36, b38, b43, b48, b50, b52, b54, b56⟩ := invM_0 hI
  have c60 : S 0 = .inr (12, [.int v32, .ref (ad 1), .ref (ad 2), .ref (ad 3), .ref (ad 4), .ref (ad 5), .int v33, .int v35, .int v37, .int v39, .int v40, .long w41, .int v42, .int v44, .int v45, .int v46, .ref (ad 6), .ref (ad 7), .ref (ad 8), .ref (ad 9), .ref (ad 10), .ref (ad 11), .ref (ad 12), .ref (ad 13), .ref (ad 14), .ref (ad 15), .int v47, .int v49, .ref (ad 16), .int v51, .int v53, .int v55, .int v57, .int v58, .ref (ad 17), .ref (ad 18), .int v59, .ref (ad 19)]) := c60
  refine xcVv E hs hQ hml hl.1 0 (gX12_lays_0 l g ad hD S hI hAT) mX12_lays q1820 (by decide) c60 rfl rfl ⟨(Nat.le_of_ble_eq_true rfl), (Nat.le_of_ble_eq_true rfl)⟩ ⟨(Nat.le_of_ble_eq_true rfl), (Nat.le_of_ble_eq_true rfl)⟩ (Nat.le_of_ble_eq_true rfl) rfl dX12_laysStrands_1 (fun S31 H locs hp31 hQ _ => ?_)
  obtain ⟨hI, o31⟩ := hp31
  refine lv_iconst (v := 0) hx hb dX12_laysStrands_4 (by decide) ?_
  refine lv_istore_n (lv' := [(1, .int 0), (0, .ref (ad 0))]) hx hb dX12_laysStrands_5 rfl hl (by decide) rfl (fun ls hl => ?_)
  have loop6 : ∀ (n : Nat) (S_6 : SS) (H : Heap) (locs : List Loc) (ls : Array Slot) (x6_1 : Int32), Bd x6_1 (0) (12) → (-1) * x6_1.toInt + 12 < ((n : Nat) : Int) → InvM g ad S_6 → (∀ j, j ∉ ([17] : List Nat) → S_6 j = S31 j) → Hp g ad 20 S_6 (FA ad 20) s.heap H locs → lv_has ls 2 [(1, .int x6_1), (0, .ref (ad 0))] → W p l e (Rm 5) s m [.ref (ad 0)].toArray below meth c H locs 0 0 (MQ below (va_Qv (fun S' => InvM g ad S' ∧ (∀ j, j ∉ ([0, 14, 15, 17] : List Nat) → S' j = S j)) (QB g ad 20) (FA ad 20)) [.ref (ad 0)].toArray s 0 0 (FA ad 20)) (F0 m 6 ls []) := by
    intro n
    induction n with
    | zero => intro S_6 H locs ls x6_1 Bx6_1 hn6_ hI hf6 hQ hl; exfalso; have := (Bx6_1).2; omega
    | succ n6_ ih6 =>
      intro S_6 H locs ls x6_1 Bx6_1 hn6_ hI hf6 hQ hl
      refine lv_iload_n hx hb dX12_laysStrands_6 rfl (lv_at hl 0 rfl) ?_
      refine lv_aload_n hx hb dX12_laysStrands_7 rfl (lv_at hl 1 rfl) ?_
      have c61 : S_6 0 = .inr (12, [.int v32, .ref (ad 1), .ref (ad 2), .ref (ad 3), .ref (ad 4), .ref (ad 5), .int v33, .int v35, .int v37, .int v39, .int v40, .long w41, .int v42, .int v44, .int v45, .int v46, .ref (ad 6), .ref (ad 7), .ref (ad 8), .ref (ad 9), .ref (ad 10), .ref (ad 11), .ref (ad 12), .ref (ad 13), .ref (ad 14), .ref (ad 15), .int v47, .int v49, .ref (ad 16), .int v51, .int v53, .int v55, .int v57, .int v58, .ref (ad 17), .ref (ad 18), .int v59, .ref (ad 19)]) := ((hf6 0 (by decide)).trans ((o31 0 (by decide)).trans c60))
      refine xget E hQ 0 (by decide) c61 rfl 17 (by decide) q1485 rfl dX12_laysStrands_8 ?_
      refine lv_iconst (v := 0) hx hb dX12_laysStrands_11 (by decide) ?_
      have c62 : S_6 7 = .inl (g.2 0, 50, .inl f1) := ((hf6 7 (by decide)).trans ((o31 7 (by decide)).trans c2))
      refine xiald E hQ 7 (by decide) c62 (vp_in_lit 0 50 (by decide)) dX12_laysStrands_12 ?_
      refine sb_at (P := fun z => W _ _ _ _ _ _ _ _ _ _ _ _ _ _ _ (F0 _ _ _ (.int z :: _))) (show f1 (0 : Int32).toNatClampNeg = v7 from ee8) ?_
      refine lv_icmp_ge (tgt := 29) hx hb dX12_laysStrands_13 (by decide) (fun k63 => ?_) (fun k63 => ?_)
      · have h64 := ib_le k63
        refine lv_iconst (v := 0) hx hb dX12_laysStrands_29 (by decide) ?_
        refine lv_istore_n (lv' := [(1, .int 0), (0, .ref (ad 0))]) hx hb dX12_laysStrands_30 rfl hl (by decide) rfl (fun ls hl => ?_)
        have loop31 : ∀ (n : Nat) (S_31 : SS) (H : Heap) (locs : List Loc) (ls : Array Slot) (x31_1 : Int32) (y31_0_0 : Int32) (y31_0_6 : Int32) (y31_0_7 : Int32) (y31_0_8 : Int32) (y31_0_9 : Int32) (y31_0_10 : Int32) (wy31_0_11 : Int64) (y31_0_12 : Int32) (y31_0_13 : Int32) (y31_0_14 : Int32) (y31_0_15 : Int32) (y31_0_26 : Int32) (y31_0_27 : Int32) (y31_0_29 : Int32) (y31_0_30 : Int32) (y31_0_31 : Int32) (y31_0_32 : Int32) (y31_0_33 : Int32) (y31_0_36 : Int32), Bd x31_1 (0) (8) → Bd y31_0_6 (0) (1200) → Bd y31_0_7 (0) (1200) → Bd y31_0_8 (0) (4) → Bd y31_0_12 (0) (3) → Bd y31_0_26 (0) (11) → Bd y31_0_27 (-1) (400) → Bd y31_0_29 (0) (2) → Bd y31_0_30 (0) (11) → Bd y31_0_31 (-1) (468) → (-1) * x31_1.toInt + 8 < ((n : Nat) : Int) → InvM g ad S_31 → (∀ j, j ∉ ([0, 17] : List Nat) → S_31 j = S_6 j) → S_31 0 = .inr (12, [.int y31_0_0, .ref (ad 1), .ref (ad 2), .ref (ad 3), .ref (ad 4), .ref (ad 5), .int y31_0_6, .int y31_0_7, .int y31_0_8, .int y31_0_9, .int y31_0_10, .long wy31_0_11, .int y31_0_12, .int y31_0_13, .int y31_0_14, .int y31_0_15, .ref (ad 6), .ref (ad 7), .ref (ad 8), .ref (ad 9), .ref (ad 10), .ref (ad 11), .ref (ad 12), .ref (ad 13), .ref (ad 14), .ref (ad 15), .int y31_0_26, .int y31_0_27, .ref (ad 16), .int y31_0_29, .int y31_0_30, .int y31_0_31, .int y31_0_32, .int y31_0_33, .ref (ad 17), .ref (ad 18), .int y31_0_36, .ref (ad 19)]) → Hp g ad 20 S_31 (FA ad 20) s.heap H locs → lv_has ls 2 [(1, .int x31_1), (0, .ref (ad 0))] → W p l e (Rm 5) s m [.ref (ad 0)].toArray below meth c H locs 0 0 (MQ below (va_Qv (fun S' => InvM g ad S' ∧ (∀ j, j ∉ ([0, 14, 15, 17] : List Nat) → S' j = S j)) (QB g ad 20) (FA ad 20)) [.ref (ad 0)].toArray s 0 0 (FA ad 20)) (F0 m 31 ls []) := by
          intro n
          induction n with
          | zero => intro S_31 H locs ls x31_1 y31_0_0 y31_0_6 y31_0_7 y31_0_8 y31_0_9 y31_0_10 wy31_0_11 y31_0_12 y31_0_13 y31_0_14 y31_0_15 y31_0_26 y31_0_27 y31_0_29 y31_0_30 y31_0_31 y31_0_32 y31_0_33 y31_0_36 Bx31_1 By31_0_6 By31_0_7 By31_0_8 By31_0_12 By31_0_26 By31_0_27 By31_0_29 By31_0_30 By31_0_31 hn31_ hI hf31 cl31_0 hQ hl; exfalso; have := (Bx31_1).2; omega
          | succ n31_ ih31 =>
            intro S_31 H locs ls x31_1 y31_0_0 y31_0_6 y31_0_7 y31_0_8 y31_0_9 y31_0_10 wy31_0_11 y31_0_12 y31_0_13 y31_0_14 y31_0_15 y31_0_26 y31_0_27 y31_0_29 y31_0_30 y31_0_31 y31_0_32 y31_0_33 y31_0_36 Bx31_1 By31_0_6 By31_0_7 By31_0_8 By31_0_12 By31_0_26 By31_0_27 By31_0_29 By31_0_30 By31_0_31 hn31_ hI hf31 cl31_0 hQ hl
            refine lv_iload_n hx hb dX12_laysStrands_31 rfl (lv_at hl 0 rfl) ?_
            refine lv_aload_n hx hb dX12_laysStrands_32 rfl (lv_at hl 1 rfl) ?_
            refine xget E hQ 0 (by decide) cl31_0 rfl 17 (by decide) q1485 rfl dX12_laysStrands_33 ?_
            refine lv_bipush (v := 6) hx hb dX12_laysStrands_36 (by decide) ?_
            have c65 : S_31 7 = .inl (g.2 0, 50, .inl f1) := ((hf31 7 (by decide)).trans c62)
            refine xiald E hQ 7 (by decide) c65 (vp_in_lit 6 50 (by decide)) dX12_laysStrands_38 ?_
            refine sb_at (P := fun z => W _ _ _ _ _ _ _ _ _ _ _ _ _ _ _ (F0 _ _ _ (.int z :: _))) (show f1 (6 : Int32).toNatClampNeg = v13 from ee14) ?_
            refine lv_icmp_ge (tgt := 98) hx hb dX12_laysStrands_39 (by decide) (fun k66 => ?_) (fun k66 => ?_)
            · have h67 := ib_le k66
              exact xrv E hr hlk hQ (⟨hI, (o_trans (o_trans (o_trans o_refl o31 (by decide)) hf6 (by decide)) hf31 (by decide))⟩) dX12_laysStrands_98
            · have h68 := ib_nle k66
              have b69 : Bd x31_1 (0) (7) := ⟨(Bx31_1).1, ((rf_lt Bx31_1 b15 h68).1).2⟩
              have b70 : Bd v13 (1) (8) := ⟨((rf_lt Bx31_1 b15 h68).2).1, (b15).2⟩
              refine lv_aload_n hx hb dX12_laysStrands_42 rfl (lv_at hl 1 rfl) ?_
              refine lv_iload_n hx hb dX12_laysStrands_43 rfl (lv_at hl 0 rfl) ?_
              have q71 : elm (S_31 7) 0 = v7.toInt := (elm_of c65 0).trans (congrArg Int32.toInt (ee8))
              have q72 : elm (S_31 7) 1 = v4.toInt := (elm_of c65 1).trans (congrArg Int32.toInt (ee5))
              refine xcVv E hs hQ hml hl.1 0 (gX12_comesUp_0 l g ad hD S_31 hI x31_1 b69 (by omega) (by omega)) mX12_comesUp q1846 (by decide) cl31_0 rfl rfl ⟨(Nat.le_of_ble_eq_true rfl), (Nat.le_of_ble_eq_true rfl)⟩ ⟨(Nat.le_of_ble_eq_true rfl), (Nat.le_of_ble_eq_true rfl)⟩ (Nat.le_of_ble_eq_true rfl) rfl dX12_laysStrands_44 (fun S73 H locs hp73 hQ _ => ?_)
              obtain ⟨hI, o73⟩ := hp73
              refine lv_aload_n hx hb dX12_laysStrands_47 rfl (lv_at hl 1 rfl) ?_
              obtain ⟨v74, v75, v77, v79, v81, v82, w83, v84, v86, v87, v88, v89, v91, v93, v95, v97, v99, v100, v101, c102, b76, b78, b80, b85, b90, b92, b94, b96, b98⟩ := invM_0 hI
              have c102 : S73 0 = .inr (12, [.int v74, .ref (ad 1), .ref (ad 2), .ref (ad 3), .ref (ad 4), .ref (ad 5), .int v75, .int v77, .int v79, .int v81, .int v82, .long w83, .int v84, .int v86, .int v87, .int v88, .ref (ad 6), .ref (ad 7), .ref (ad 8), .ref (ad 9), .ref (ad 10), .ref (ad 11), .ref (ad 12), .ref (ad 13), .ref (ad 14), .ref (ad 15), .int v89, .int v91, .ref (ad 16), .int v93, .int v95, .int v97, .int v99, .int v100, .ref (ad 17), .ref (ad 18), .int v101, .ref (ad 19)]) := c102
              refine xget E hQ 0 (by decide) c102 rfl 27 (by decide) q1495 rfl dX12_laysStrands_48 ?_
              refine lv_iconst (v := (-1)) hx hb dX12_laysStrands_51 (by decide) ?_
              refine lv_icmp_eq (tgt := 92) hx hb dX12_laysStrands_52 (by decide) (fun k103 => ?_) (fun k103 => ?_)
              · have h104 := ib_eq k103
                have b105 : Bd v91 (-1) (-1) := ⟨(b92).1, ((rf_eq b92 (by decide : Bd (-1) (-1) (-1)) h104).1).2⟩
                obtain ⟨z106, e107⟩ : ∃ z : Int32, z = x31_1 + 1 := ⟨_, rfl⟩
                have t108 := ib_add e107 b69 (by decide : Bd 1 (1) (1)) (by decide) (by decide)
                have b109 : Bd z106 (1) (8) := ib_addb t108 b69 (by decide : Bd 1 (1) (1))
                have t108 : z106.toInt = x31_1.toInt + 1 := fold_add t108 rfl (by decide)
                refine lv_iinc (v := z106) (lv' := [(1, .int z106), (0, .ref (ad 0))]) hx hb dX12_laysStrands_92 hl (k := 0) rfl (by rw [e107]; rfl) (by decide) rfl (fun ls hl => ?_)
                refine lv_goto (tgt := 31) hx hb dX12_laysStrands_95 (by decide) ?_
                exact ih31 _ _ _ _ z106 v74 v75 v77 v79 v81 v82 w83 v84 v86 v87 v88 v89 v91 v93 v95 v97 v99 v100 v101 (ib_wk b109 (by decide) (by decide)) b76 b78 b80 b85 b90 (ib_wk b105 (by decide) (by decide)) b94 b96 b98 (by omega) hI (o_trans hf31 o73 (by decide)) c102 hQ (lv_sub hl [0, 1] rfl)
              · have h110 := ib_ne k103
                have b111 : Bd v91 (0) (400) := rf_nlo b92 (by decide : Bd (-1) (-1) (-1)) h110
                refine lv_aload_n hx hb dX12_laysStrands_55 rfl (lv_at hl 1 rfl) ?_
                refine lv_aload_n hx hb dX12_laysStrands_56 rfl (lv_at hl 1 rfl) ?_
                refine xget E hQ 0 (by decide) c102 rfl 27 (by decide) q1495 rfl dX12_laysStrands_57 ?_
                have c112 : S73 7 = .inl (g.2 0, 50, .inl f1) := ((o73 7 (by decide)).trans c65)
                have q113 : elm (S73 7) 1 = v4.toInt := (elm_of c112 1).trans (congrArg Int32.toInt (ee5))
                refine xcVi E hs hQ hml hl.1 0 (gX12_phaseOf_0 l g ad hD S73 hI v91 (by omega)) mX12_phaseOf q1787 (by decide) c102 rfl rfl ⟨(Nat.le_of_ble_eq_true rfl), (Nat.le_of_ble_eq_true rfl)⟩ ⟨(Nat.le_of_ble_eq_true rfl), (Nat.le_of_ble_eq_true rfl)⟩ (Nat.le_of_ble_eq_true rfl) rfl dX12_laysStrands_60 (fun r114 S114 H locs hp114 hQ _ => ?_)
                obtain ⟨rfl, b114, fg114⟩ := hp114
                refine lv_iconst (v := 1) hx hb dX12_laysStrands_63 (by decide) ?_
                refine lv_icmp_ne (tgt := 92) hx hb dX12_laysStrands_64 (by decide) (fun k115 => ?_) (fun k115 => ?_)
                · have h116 := ib_ne k115
                  obtain ⟨z117, e118⟩ : ∃ z : Int32, z = x31_1 + 1 := ⟨_, rfl⟩
                  have t119 := ib_add e118 b69 (by decide : Bd 1 (1) (1)) (by decide) (by decide)
                  have b120 : Bd z117 (1) (8) := ib_addb t119 b69 (by decide : Bd 1 (1) (1))
                  have t119 : z117.toInt = x31_1.toInt + 1 := fold_add t119 rfl (by decide)
                  refine lv_iinc (v := z117) (lv' := [(1, .int z117), (0, .ref (ad 0))]) hx hb dX12_laysStrands_92 hl (k := 0) rfl (by rw [e118]; rfl) (by decide) rfl (fun ls hl => ?_)
                  refine lv_goto (tgt := 31) hx hb dX12_laysStrands_95 (by decide) ?_
                  exact ih31 _ _ _ _ z117 v74 v75 v77 v79 v81 v82 w83 v84 v86 v87 v88 v89 v91 v93 v95 v97 v99 v100 v101 (ib_wk b120 (by decide) (by decide)) b76 b78 b80 b85 b90 (ib_wk b111 (by decide) (by decide)) b94 b96 b98 (by omega) hI (o_trans hf31 o73 (by decide)) c102 hQ (lv_sub hl [0, 1] rfl)
                · have h121 := ib_eq k115
                  have b122 : Bd r114 (1) (1) := ⟨((rf_eq b114 (by decide : Bd 1 (1) (1)) h121).1).1, ((rf_eq b114 (by decide : Bd 1 (1) (1)) h121).1).2⟩
                  refine lv_aload_n hx hb dX12_laysStrands_67 rfl (lv_at hl 1 rfl) ?_
                  refine lv_iconst (v := (-1)) hx hb dX12_laysStrands_68 (by decide) ?_
                  refine lv_iconst (v := 0) hx hb dX12_laysStrands_69 (by decide) ?_
                  refine xcVi E hs hQ hml hl.1 0 (gX12_whoseNow_0 l g ad hD S73 hI (-1) 0 (by omega)) mX12_whoseNow q1858 (by decide) c102 rfl rfl ⟨(Nat.le_of_ble_eq_true rfl), (Nat.le_of_ble_eq_true rfl)⟩ ⟨(Nat.le_of_ble_eq_true rfl), (Nat.le_of_ble_eq_true rfl)⟩ (Nat.le_of_ble_eq_true rfl) rfl dX12_laysStrands_70 (fun r123 S123 H locs hp123 hQ _ => ?_)
                  subst hp123
                  refine lv_iconst (v := (-1)) hx hb dX12_laysStrands_73 (by decide) ?_
                  refine lv_icmp_ne (tgt := 92) hx hb dX12_laysStrands_74 (by decide) (fun k124 => ?_) (fun k124 => ?_)
                  · have h125 := ib_ne k124
                    obtain ⟨z126, e127⟩ : ∃ z : Int32, z = x31_1 + 1 := ⟨_, rfl⟩
                    have t128 := ib_add e127 b69 (by decide : Bd 1 (1) (1)) (by decide) (by decide)
                    have b129 : Bd z126 (1) (8) := ib_addb t128 b69 (by decide : Bd 1 (1) (1))
                    have t128 : z126.toInt = x31_1.toInt + 1 := fold_add t128 rfl (by decide)
                    refine lv_iinc (v := z126) (lv' := [(1, .int z126), (0, .ref (ad 0))]) hx hb dX12_laysStrands_92 hl (k := 0) rfl (by rw [e127]; rfl) (by decide) rfl (fun ls hl => ?_)
                    refine lv_goto (tgt := 31) hx hb dX12_laysStrands_95 (by decide) ?_
                    exact ih31 _ _ _ _ z126 v74 v75 v77 v79 v81 v82 w83 v84 v86 v87 v88 v89 v91 v93 v95 v97 v99 v100 v101 (ib_wk b129 (by decide) (by decide)) b76 b78 b80 b85 b90 (ib_wk b111 (by decide) (by decide)) b94 b96 b98 (by omega) hI (o_trans hf31 o73 (by decide)) c102 hQ (lv_sub hl [0, 1] rfl)
                  · have h130 := ib_eq k124
                    have b131 : Bd r123 (-1) (-1) := ⟨((rf_eq (ib_full r123) (by decide : Bd (-1) (-1) (-1)) h130).1).1, ((rf_eq (ib_full r123) (by decide : Bd (-1) (-1) (-1)) h130).1).2⟩
                    refine lv_aload_n hx hb dX12_laysStrands_77 rfl (lv_at hl 1 rfl) ?_
                    refine xget E hQ 0 (by decide) c102 rfl 34 (by decide) q1502 rfl dX12_laysStrands_78 ?_
                    refine lv_aload_n hx hb dX12_laysStrands_81 rfl (lv_at hl 1 rfl) ?_
                    refine xget E hQ 0 (by decide) c102 rfl 26 (by decide) q1494 rfl dX12_laysStrands_82 ?_
                    refine lv_dup2_11 hx hb dX12_laysStrands_85 rfl rfl ?_
                    obtain ⟨f132, c133⟩ := invM_17 hI
                    refine xiald E hQ 17 (by decide) c133 (ib_in b90 (by decide) (by decide)) dX12_laysStrands_86 ?_
                    refine lv_topi (fun z135 e136 => ?_)
                    refine lv_iconst (v := 1) hx hb dX12_laysStrands_87 (by decide) ?_
                    refine lv_iload_n hx hb dX12_laysStrands_88 rfl (lv_at hl 0 rfl) ?_
                    refine lv_ishl hx hb dX12_laysStrands_89 ?_
                    refine lv_topi (fun z137 e138 => ?_)
                    refine lv_ior hx hb dX12_laysStrands_90 ?_
                    refine lv_topi (fun z139 e140 => ?_)
                    refine xiast E hs hQ 17 (by decide) c133 (ib_in b90 (by decide) (by decide)) dX12_laysStrands_91 (fun H locs S141 eS141 hQ => ?_)
                    have hI := invM_up_17 hI eS141 ⟨_, rfl⟩
                    have c142 : S141 17 = .inl (g.2 0, 12, .inl (upd f132 (v89 : Int32).toNatClampNeg z139)) := up_at eS141 rfl
                    obtain ⟨z143, e144⟩ : ∃ z : Int32, z = x31_1 + 1 := ⟨_, rfl⟩
                    have t145 := ib_add e144 b69 (by decide : Bd 1 (1) (1)) (by decide) (by decide)
                    have b146 : Bd z143 (1) (8) := ib_addb t145 b69 (by decide : Bd 1 (1) (1))
                    have t145 : z143.toInt = x31_1.toInt + 1 := fold_add t145 rfl (by decide)
                    refine lv_iinc (v := z143) (lv' := [(1, .int z143), (0, .ref (ad 0))]) hx hb dX12_laysStrands_92 hl (k := 0) rfl (by rw [e144]; rfl) (by decide) rfl (fun ls hl => ?_)
                    refine lv_goto (tgt := 31) hx hb dX12_laysStrands_95 (by decide) ?_
                    have c147 : S141 0 = .inr (12, [.int v74, .ref (ad 1), .ref (ad 2), .ref (ad 3), .ref (ad 4), .ref (ad 5), .int v75, .int v77, .int v79, .int v81, .int v82, .long w83, .int v84, .int v86, .int v87, .int v88, .ref (ad 6), .ref (ad 7), .ref (ad 8), .ref (ad 9), .ref (ad 10), .ref (ad 11), .ref (ad 12), .ref (ad 13), .ref (ad 14), .ref (ad 15), .int v89, .int v91, .ref (ad 16), .int v93, .int v95, .int v97, .int v99, .int v100, .ref (ad 17), .ref (ad 18), .int v101, .ref (ad 19)]) := (up_ne eS141 (by decide) c102)
                    exact ih31 _ _ _ _ z143 v74 v75 v77 v79 v81 v82 w83 v84 v86 v87 v88 v89 v91 v93 v95 v97 v99 v100 v101 (ib_wk b146 (by decide) (by decide)) b76 b78 b80 b85 b90 (ib_wk b111 (by decide) (by decide)) b94 b96 b98 (by omega) hI (up_o (o_trans hf31 o73 (by decide)) eS141 (by decide)) c147 hQ (lv_sub hl [0, 1] rfl)
        obtain ⟨n31, hn31⟩ := fu_n (8)
        exact loop31 n31 _ _ _ _ 0 v32 v33 v35 v37 v39 v40 w41 v42 v44 v45 v46 v47 v49 v51 v53 v55 v57 v58 v59 (ib_wk (by decide : Bd 0 (0) (0)) (by decide) (by decide)) b34 b36 b38 b43 b48 b50 b52 b54 b56 (by have : (0 : Int32).toInt = 0 := (by decide); omega) hI o_refl c61 hQ (lv_sub hl [0, 1] rfl)
      · have h148 := ib_nle k63
        have b149 : Bd x6_1 (0) (11) := ⟨(Bx6_1).1, ((rf_lt Bx6_1 b9 h148).1).2⟩
        have b150 : Bd v7 (1) (12) := ⟨((rf_lt Bx6_1 b9 h148).2).1, (b9).2⟩
        refine lv_aload_n hx hb dX12_laysStrands_16 rfl (lv_at hl 1 rfl) ?_
        refine xget E hQ 0 (by decide) c61 rfl 34 (by decide) q1502 rfl dX12_laysStrands_17 ?_
        refine lv_iload_n hx hb dX12_laysStrands_20 rfl (lv_at hl 0 rfl) ?_
        refine lv_iconst (v := 0) hx hb dX12_laysStrands_21 (by decide) ?_
        obtain ⟨f151, c152⟩ := invM_17 hI
        refine xiast E hs hQ 17 (by decide) c152 (ib_in b149 (by decide) (by decide)) dX12_laysStrands_22 (fun H locs S154 eS154 hQ => ?_)
        have hI := invM_up_17 hI eS154 ⟨_, rfl⟩
        have c155 : S154 17 = .inl (g.2 0, 12, .inl (upd f151 (x6_1 : Int32).toNatClampNeg 0)) := up_at eS154 rfl
        obtain ⟨z156, e157⟩ : ∃ z : Int32, z = x6_1 + 1 := ⟨_, rfl⟩
        have t158 := ib_add e157 b149 (by decide : Bd 1 (1) (1)) (by decide) (by decide)
        have b159 : Bd z156 (1) (12) := ib_addb t158 b149 (by decide : Bd 1 (1) (1))
        have t158 : z156.toInt = x6_1.toInt + 1 := fold_add t158 rfl (by decide)
        refine lv_iinc (v := z156) (lv' := [(1, .int z156), (0, .ref (ad 0))]) hx hb dX12_laysStrands_23 hl (k := 0) rfl (by rw [e157]; rfl) (by decide) rfl (fun ls hl => ?_)
        refine lv_goto (tgt := 6) hx hb dX12_laysStrands_26 (by decide) ?_
        exact ih6 _ _ _ _ z156 (ib_wk b159 (by decide) (by decide)) (by omega) hI (up_o hf6 eS154 (by decide)) hQ (lv_sub hl [0, 1] rfl)
  obtain ⟨n6, hn6⟩ := fu_n (12)
  exact loop6 n6 _ _ _ _ 0 (ib_wk (by decide : Bd 0 (0) (0)) (by decide) (by decide)) (by have : (0 : Int32).toInt = 0 := (by decide); omega) hI o_refl hQ (lv_sub hl [0, 1] rfl)
set_option maxHeartbeats 4000000 in
set_option maxRecDepth 100000 in
theorem gX12_seatOf_0 (l : Launch) (g : GG) (ad : Nat → Nat) (hD : Dj ad 20) (S : SS) (hI : InvM g ad S) (a1 : Int32) (a2 : Int32) (ba1 : Bd a1 (0) (2)) (ba2 : Bd a2 (0) (11)) : Met l yX12_seatOf (wG (.code yX12_seatOf cX12_seatOf 6 (some .int))) (Rm 1) (XPre g ad 20 S [.ref (ad 0), .int a1, .int a2]) (va_Qi (fun _ S' => S = S') (QB g ad 20) (FA ad 20)) 0 0 (FA ad 20) := by
  refine xmet cX12_seatOf "EbbWreckModel" (by decide) rfl (Nat.le_of_ble_eq_true rfl) (fun p e s m below meth c E hr hlk hml hQ ls hl => ?_)
  have hx := E.1
  have hb := E.2.1
  have hs : Sp ad 20 (FA ad 20) := Sp.fa hD
  have hl : lv_has ls 6 [(0, .ref (ad 0)), (1, .int a1), (2, .int a2)] := hl
  refine lv_iconst (v := 1) hx hb dX12_seatOf_0 (by decide) ?_
  refine lv_istore_n (lv' := [(3, .int 1), (0, .ref (ad 0)), (1, .int a1), (2, .int a2)]) hx hb dX12_seatOf_1 rfl hl (by decide) rfl (fun ls hl => ?_)
  refine lv_iconst (v := 0) hx hb dX12_seatOf_2 (by decide) ?_
  refine lv_istore (lv' := [(4, .int 0), (3, .int 1), (0, .ref (ad 0)), (1, .int a1), (2, .int a2)]) hx hb dX12_seatOf_3 hl (by decide) rfl (fun ls hl => ?_)
  have loop5 : ∀ (n : Nat) (H : Heap) (locs : List Loc) (ls : Array Slot) (x5_3 : Int32) (x5_4 : Int32), Bd x5_3 (1) (100000) → Bd x5_4 (0) (3) → 0 ≤ x5_4.toInt + (-1) * x5_3.toInt + 1 → (-1) * x5_4.toInt + 3 < ((n : Nat) : Int) → Hp g ad 20 S (FA ad 20) s.heap H locs → lv_has ls 6 [(4, .int x5_4), (3, .int x5_3), (0, .ref (ad 0)), (1, .int a1), (2, .int a2)] → W p l e (Rm 1) s m [.ref (ad 0), .int a1, .int a2].toArray below meth c H locs 0 0 (MQ below (va_Qi (fun _ S' => S = S') (QB g ad 20) (FA ad 20)) [.ref (ad 0), .int a1, .int a2].toArray s 0 0 (FA ad 20)) (F0 m 5 ls []) := by
    intro n
    induction n with
    | zero => intro H locs ls x5_3 x5_4 Bx5_3 Bx5_4 C5_0 hn5_ hQ hl; exfalso; have := (Bx5_4).2; omega
    | succ n5_ ih5 =>
      intro H locs ls x5_3 x5_4 Bx5_3 Bx5_4 C5_0 hn5_ hQ hl
      have b1 : Bd x5_3 (1) (4) := ⟨(Bx5_3).1, by omega⟩
      refine lv_iload hx hb dX12_seatOf_5 (lv_at hl 0 rfl) ?_
      refine lv_aload_n hx hb dX12_seatOf_7 rfl (lv_at hl 2 rfl) ?_
      obtain ⟨v2, v3, v5, v7, v9, v10, w11, v12, v14, v15, v16, v17, v19, v21, v23, v25, v27, v28, v29, c30, b4, b6, b8, b13, b18, b20, b22, b24, b26⟩ := invM_0 hI
      have c30 : S 0 = .inr (12, [.int v2, .ref (ad 1), .ref (ad 2), .ref (ad 3), .ref (ad 4), .ref (ad 5), .int v3, .int v5, .int v7, .int v9, .int v10, .long w11, .int v12, .int v14, .int v15, .int v16, .ref (ad 6), .ref (ad 7), .ref (ad 8), .ref (ad 9), .ref (ad 10), .ref (ad 11), .ref (ad 12), .ref (ad 13), .ref (ad 14), .ref (ad 15), .int v17, .int v19, .ref (ad 16), .int v21, .int v23, .int v25, .int v27, .int v28, .ref (ad 17), .ref (ad 18), .int v29, .ref (ad 19)]) := c30
      refine xget E hQ 0 (by decide) c30 rfl 17 (by decide) q1485 rfl dX12_seatOf_8 ?_
      refine lv_bipush (v := 8) hx hb dX12_seatOf_11 (by decide) ?_
      obtain ⟨f31, c32, b33⟩ := invM_7 hI
      refine xiald E hQ 7 (by decide) c32 (vp_in_lit 8 50 (by decide)) dX12_seatOf_13 ?_
      obtain ⟨v34, ee35⟩ : ∃ z : Int32, f31 8 = z := ⟨_, rfl⟩
      have b36 : Bd v34 (0) (3) := (by rw [← ee35]; exact b33.2.2.2.2.2.2.1 8 (by decide))
      refine sb_at (P := fun z => W _ _ _ _ _ _ _ _ _ _ _ _ _ _ _ (F0 _ _ _ (.int z :: _))) (show f31 (8 : Int32).toNatClampNeg = v34 from ee35) ?_
      refine lv_icmp_ge (tgt := 48) hx hb dX12_seatOf_14 (by decide) (fun k37 => ?_) (fun k37 => ?_)
      · have h38 := ib_le k37
        refine lv_iconst (v := 0) hx hb dX12_seatOf_48 (by decide) ?_
        refine lv_istore (lv' := [(4, .int 0), (3, .int x5_3), (0, .ref (ad 0)), (1, .int a1), (2, .int a2)]) hx hb dX12_seatOf_49 hl (by decide) rfl (fun ls hl => ?_)
        refine lv_iconst (v := 0) hx hb dX12_seatOf_51 (by decide) ?_
        refine lv_istore (lv' := [(5, .int 0), (4, .int 0), (3, .int x5_3), (0, .ref (ad 0)), (1, .int a1), (2, .int a2)]) hx hb dX12_seatOf_52 hl (by decide) rfl (fun ls hl => ?_)
        have loop54 : ∀ (n : Nat) (H : Heap) (locs : List Loc) (ls : Array Slot) (x54_4 : Int32) (x54_5 : Int32), Bd x54_5 (0) (8) → (-1) * x54_5.toInt + 8 < ((n : Nat) : Int) → Hp g ad 20 S (FA ad 20) s.heap H locs → lv_has ls 6 [(5, .int x54_5), (4, .int x54_4), (3, .int x5_3), (0, .ref (ad 0)), (1, .int a1), (2, .int a2)] → W p l e (Rm 1) s m [.ref (ad 0), .int a1, .int a2].toArray below meth c H locs 0 0 (MQ below (va_Qi (fun _ S' => S = S') (QB g ad 20) (FA ad 20)) [.ref (ad 0), .int a1, .int a2].toArray s 0 0 (FA ad 20)) (F0 m 54 ls []) := by
          intro n
          induction n with
          | zero => intro H locs ls x54_4 x54_5 Bx54_5 hn54_ hQ hl; exfalso; have := (Bx54_5).2; omega
          | succ n54_ ih54 =>
            intro H locs ls x54_4 x54_5 Bx54_5 hn54_ hQ hl
            refine lv_iload hx hb dX12_seatOf_54 (lv_at hl 0 rfl) ?_
            refine lv_aload_n hx hb dX12_seatOf_56 rfl (lv_at hl 3 rfl) ?_
            refine xget E hQ 0 (by decide) c30 rfl 17 (by decide) q1485 rfl dX12_seatOf_57 ?_
            refine lv_bipush (v := 6) hx hb dX12_seatOf_60 (by decide) ?_
            refine xiald E hQ 7 (by decide) c32 (vp_in_lit 6 50 (by decide)) dX12_seatOf_62 ?_
            obtain ⟨v39, ee40⟩ : ∃ z : Int32, f31 6 = z := ⟨_, rfl⟩
            have b41 : Bd v39 (0) (8) := (by rw [← ee40]; exact b33.2.2.2.2.1 6 (by decide))
            refine sb_at (P := fun z => W _ _ _ _ _ _ _ _ _ _ _ _ _ _ _ (F0 _ _ _ (.int z :: _))) (show f31 (6 : Int32).toNatClampNeg = v39 from ee40) ?_
            refine lv_icmp_ge (tgt := 103) hx hb dX12_seatOf_63 (by decide) (fun k42 => ?_) (fun k42 => ?_)
            · have h43 := ib_le k42
              refine lv_iload hx hb dX12_seatOf_103 (lv_at hl 1 rfl) ?_
              exact xri E hr hlk hQ (rfl) dX12_seatOf_105
            · have h44 := ib_nle k42
              have b45 : Bd x54_5 (0) (7) := ⟨(Bx54_5).1, ((rf_lt Bx54_5 b41 h44).1).2⟩
              have b46 : Bd v39 (1) (8) := ⟨((rf_lt Bx54_5 b41 h44).2).1, (b41).2⟩
              refine lv_iload hx hb dX12_seatOf_66 (lv_at hl 1 rfl) ?_
              refine lv_aload_n hx hb dX12_seatOf_68 rfl (lv_at hl 3 rfl) ?_
              refine xget E hQ 0 (by decide) c30 rfl 34 (by decide) q1502 rfl dX12_seatOf_69 ?_
              refine lv_iload_n hx hb dX12_seatOf_72 rfl (lv_at hl 5 rfl) ?_
              obtain ⟨f47, c48⟩ := invM_17 hI
              refine xiald E hQ 17 (by decide) c48 (ib_in ba2 (by decide) (by decide)) dX12_seatOf_73 ?_
              refine lv_topi (fun z50 e51 => ?_)
              refine lv_iload hx hb dX12_seatOf_74 (lv_at hl 0 rfl) ?_
              refine xcSi E hs hQ hml hl.1 (gX12_isBit l g ad hD S hI z50 x54_5) mX12_isBit q1759 rfl ⟨(Nat.le_of_ble_eq_true rfl), (Nat.le_of_ble_eq_true rfl)⟩ ⟨(Nat.le_of_ble_eq_true rfl), (Nat.le_of_ble_eq_true rfl)⟩ (Nat.le_of_ble_eq_true rfl) rfl dX12_seatOf_76 (fun r52 S52 H locs hp52 hQ => ?_)
              obtain ⟨rfl, b52, fg52⟩ := hp52
              refine lv_if_eq (tgt := 93) hx hb dX12_seatOf_79 (by decide) (fun k53 => ?_) (fun k53 => ?_)
              · have h54 := ib_eq k53
                have b55 : Bd r52 (0) (0) := ⟨(b52).1, ((rf_eq b52 (by decide : Bd 0 (0) (0)) h54).1).2⟩
                refine lv_iconst (v := 0) hx hb dX12_seatOf_93 (by decide) ?_
                refine lv_iadd hx hb dX12_seatOf_94 ?_
                refine lv_topi (fun z56 e57 => ?_)
                have t58 := ib_add e57 (ib_full x54_4) (by decide : Bd 0 (0) (0)) (by decide) (by decide)
                have b59 : Bd z56 (-2147483648) (2147483647) := ib_addb t58 (ib_full x54_4) (by decide : Bd 0 (0) (0))
                have t58 : z56.toInt = x54_4.toInt + 0 := fold_add t58 rfl (by decide)
                refine lv_istore (lv' := [(4, .int z56), (5, .int x54_5), (3, .int x5_3), (0, .ref (ad 0)), (1, .int a1), (2, .int a2)]) hx hb dX12_seatOf_95 hl (by decide) rfl (fun ls hl => ?_)
                obtain ⟨z60, e61⟩ : ∃ z : Int32, z = x54_5 + 1 := ⟨_, rfl⟩
                have t62 := ib_add e61 b45 (by decide : Bd 1 (1) (1)) (by decide) (by decide)
                have b63 : Bd z60 (1) (8) := ib_addb t62 b45 (by decide : Bd 1 (1) (1))
                have t62 : z60.toInt = x54_5.toInt + 1 := fold_add t62 rfl (by decide)
                refine lv_iinc (v := z60) (lv' := [(5, .int z60), (4, .int z56), (3, .int x5_3), (0, .ref (ad 0)), (1, .int a1), (2, .int a2)]) hx hb dX12_seatOf_97 hl (k := 1) rfl (by rw [e61]; rfl) (by decide) rfl (fun ls hl => ?_)
                refine lv_goto (tgt := 54) hx hb dX12_seatOf_100 (by decide) ?_
                exact ih54 _ _ _ z56 z60 (ib_wk b63 (by decide) (by decide)) (by omega) hQ (lv_sub hl [0, 1, 2, 3, 4, 5] rfl)
              · have h64 := ib_ne k53
                have b65 : Bd r52 (1) (1) := rf_nlo b52 (by decide : Bd 0 (0) (0)) h64
                refine lv_aload_n hx hb dX12_seatOf_82 rfl (lv_at hl 3 rfl) ?_
                refine lv_iload hx hb dX12_seatOf_83 (lv_at hl 0 rfl) ?_
                refine xcVi E hs hQ hml hl.1 0 (gX12_worth_0 l g ad hD S hI x54_5 b45) mX12_worth q1883 (by decide) c30 rfl rfl ⟨(Nat.le_of_ble_eq_true rfl), (Nat.le_of_ble_eq_true rfl)⟩ ⟨(Nat.le_of_ble_eq_true rfl), (Nat.le_of_ble_eq_true rfl)⟩ (Nat.le_of_ble_eq_true rfl) rfl dX12_seatOf_85 (fun r66 S66 H locs hp66 hQ _ => ?_)
                subst hp66
                refine lv_iload_n hx hb dX12_seatOf_88 rfl (lv_at hl 2 rfl) ?_
                refine lv_idiv hx hb dX12_seatOf_89 (ib_ne0 b1 (by decide)) ?_
                refine lv_topi (fun z67 e68 => ?_)
                refine lv_goto (tgt := 94) hx hb dX12_seatOf_90 (by decide) ?_
                refine lv_iadd hx hb dX12_seatOf_94 ?_
                refine lv_topi (fun z69 e70 => ?_)
                refine lv_istore (lv' := [(4, .int z69), (5, .int x54_5), (3, .int x5_3), (0, .ref (ad 0)), (1, .int a1), (2, .int a2)]) hx hb dX12_seatOf_95 hl (by decide) rfl (fun ls hl => ?_)
                obtain ⟨z71, e72⟩ : ∃ z : Int32, z = x54_5 + 1 := ⟨_, rfl⟩
                have t73 := ib_add e72 b45 (by decide : Bd 1 (1) (1)) (by decide) (by decide)
                have b74 : Bd z71 (1) (8) := ib_addb t73 b45 (by decide : Bd 1 (1) (1))
                have t73 : z71.toInt = x54_5.toInt + 1 := fold_add t73 rfl (by decide)
                refine lv_iinc (v := z71) (lv' := [(5, .int z71), (4, .int z69), (3, .int x5_3), (0, .ref (ad 0)), (1, .int a1), (2, .int a2)]) hx hb dX12_seatOf_97 hl (k := 1) rfl (by rw [e72]; rfl) (by decide) rfl (fun ls hl => ?_)
                refine lv_goto (tgt := 54) hx hb dX12_seatOf_100 (by decide) ?_
                exact ih54 _ _ _ z69 z71 (ib_wk b74 (by decide) (by decide)) (by omega) hQ (lv_sub hl [0, 1, 2, 3, 4, 5] rfl)
        obtain ⟨n54, hn54⟩ := fu_n (8)
        exact loop54 n54 _ _ _ 0 0 (ib_wk (by decide : Bd 0 (0) (0)) (by decide) (by decide)) (by have : (0 : Int32).toInt = 0 := (by decide); omega) hQ (lv_sub hl [0, 1, 2, 3, 4, 5] rfl)
      · have h75 := ib_nle k37
        have b76 : Bd x5_4 (0) (2) := ⟨(Bx5_4).1, ((rf_lt Bx5_4 b36 h75).1).2⟩
        have b77 : Bd v34 (1) (3) := ⟨((rf_lt Bx5_4 b36 h75).2).1, (b36).2⟩
        refine lv_iload_n hx hb dX12_seatOf_17 rfl (lv_at hl 1 rfl) ?_
        refine lv_iload hx hb dX12_seatOf_18 (lv_at hl 0 rfl) ?_
        refine lv_iload_n hx hb dX12_seatOf_20 rfl (lv_at hl 3 rfl) ?_
        refine lv_icmp_eq (tgt := 39) hx hb dX12_seatOf_21 (by decide) (fun k78 => ?_) (fun k78 => ?_)
        · have h79 := ib_eq k78
          refine lv_iconst (v := 0) hx hb dX12_seatOf_39 (by decide) ?_
          refine lv_iadd hx hb dX12_seatOf_40 ?_
          refine lv_topi (fun z80 e81 => ?_)
          have t82 := ib_add e81 b1 (by decide : Bd 0 (0) (0)) (by decide) (by decide)
          have b83 : Bd z80 (1) (4) := ib_addb t82 b1 (by decide : Bd 0 (0) (0))
          have t82 : z80.toInt = x5_3.toInt + 0 := fold_add t82 rfl (by decide)
          refine lv_istore_n (lv' := [(3, .int z80), (4, .int x5_4), (0, .ref (ad 0)), (1, .int a1), (2, .int a2)]) hx hb dX12_seatOf_41 rfl hl (by decide) rfl (fun ls hl => ?_)
          obtain ⟨z84, e85⟩ : ∃ z : Int32, z = x5_4 + 1 := ⟨_, rfl⟩
          have t86 := ib_add e85 b76 (by decide : Bd 1 (1) (1)) (by decide) (by decide)
          have b87 : Bd z84 (1) (3) := ib_addb t86 b76 (by decide : Bd 1 (1) (1))
          have t86 : z84.toInt = x5_4.toInt + 1 := fold_add t86 rfl (by decide)
          refine lv_iinc (v := z84) (lv' := [(4, .int z84), (3, .int z80), (0, .ref (ad 0)), (1, .int a1), (2, .int a2)]) hx hb dX12_seatOf_42 hl (k := 1) rfl (by rw [e85]; rfl) (by decide) rfl (fun ls hl => ?_)
          refine lv_goto (tgt := 5) hx hb dX12_seatOf_45 (by decide) ?_
          exact ih5 _ _ _ z80 z84 (ib_wk b83 (by decide) (by decide)) (ib_wk b87 (by decide) (by decide)) (by omega) (by omega) hQ (lv_sub hl [0, 1, 2, 3, 4] rfl)
        · have h88 := ib_ne k78
          refine lv_aload_n hx hb dX12_seatOf_24 rfl (lv_at hl 2 rfl) ?_
          refine xget E hQ 0 (by decide) c30 rfl 24 (by decide) q1492 rfl dX12_seatOf_25 ?_
          refine lv_iload hx hb dX12_seatOf_28 (lv_at hl 0 rfl) ?_
          obtain ⟨f89, c90, b91⟩ := invM_14 hI
          refine xiald E hQ 14 (by decide) c90 (ib_in b76 (by decide) (by decide)) dX12_seatOf_30 ?_
          refine lv_topi (fun z92 e93 => ?_)
          have b94 : Bd z92 (0) (11) := (by rw [e93]; exact b91 _)
          refine lv_iload_n hx hb dX12_seatOf_31 rfl (lv_at hl 4 rfl) ?_
          refine lv_icmp_ne (tgt := 39) hx hb dX12_seatOf_32 (by decide) (fun k95 => ?_) (fun k95 => ?_)
          · have h96 := ib_ne k95
            refine lv_iconst (v := 0) hx hb dX12_seatOf_39 (by decide) ?_
            refine lv_iadd hx hb dX12_seatOf_40 ?_
            refine lv_topi (fun z97 e98 => ?_)
            have t99 := ib_add e98 b1 (by decide : Bd 0 (0) (0)) (by decide) (by decide)
            have b100 : Bd z97 (1) (4) := ib_addb t99 b1 (by decide : Bd 0 (0) (0))
            have t99 : z97.toInt = x5_3.toInt + 0 := fold_add t99 rfl (by decide)
            refine lv_istore_n (lv' := [(3, .int z97), (4, .int x5_4), (0, .ref (ad 0)), (1, .int a1), (2, .int a2)]) hx hb dX12_seatOf_41 rfl hl (by decide) rfl (fun ls hl => ?_)
            obtain ⟨z101, e102⟩ : ∃ z : Int32, z = x5_4 + 1 := ⟨_, rfl⟩
            have t103 := ib_add e102 b76 (by decide : Bd 1 (1) (1)) (by decide) (by decide)
            have b104 : Bd z101 (1) (3) := ib_addb t103 b76 (by decide : Bd 1 (1) (1))
            have t103 : z101.toInt = x5_4.toInt + 1 := fold_add t103 rfl (by decide)
            refine lv_iinc (v := z101) (lv' := [(4, .int z101), (3, .int z97), (0, .ref (ad 0)), (1, .int a1), (2, .int a2)]) hx hb dX12_seatOf_42 hl (k := 1) rfl (by rw [e102]; rfl) (by decide) rfl (fun ls hl => ?_)
            refine lv_goto (tgt := 5) hx hb dX12_seatOf_45 (by decide) ?_
            exact ih5 _ _ _ z97 z101 (ib_wk b100 (by decide) (by decide)) (ib_wk b104 (by decide) (by decide)) (by omega) (by omega) hQ (lv_sub hl [0, 1, 2, 3, 4] rfl)
          · have h105 := ib_eq k95
            refine lv_iconst (v := 1) hx hb dX12_seatOf_35 (by decide) ?_
            refine lv_goto (tgt := 40) hx hb dX12_seatOf_36 (by decide) ?_
            refine lv_iadd hx hb dX12_seatOf_40 ?_
            refine lv_topi (fun z106 e107 => ?_)
            have t108 := ib_add e107 b1 (by decide : Bd 1 (1) (1)) (by decide) (by decide)
            have b109 : Bd z106 (2) (5) := ib_addb t108 b1 (by decide : Bd 1 (1) (1))
            have t108 : z106.toInt = x5_3.toInt + 1 := fold_add t108 rfl (by decide)
            refine lv_istore_n (lv' := [(3, .int z106), (4, .int x5_4), (0, .ref (ad 0)), (1, .int a1), (2, .int a2)]) hx hb dX12_seatOf_41 rfl hl (by decide) rfl (fun ls hl => ?_)
            obtain ⟨z110, e111⟩ : ∃ z : Int32, z = x5_4 + 1 := ⟨_, rfl⟩
            have t112 := ib_add e111 b76 (by decide : Bd 1 (1) (1)) (by decide) (by decide)
            have b113 : Bd z110 (1) (3) := ib_addb t112 b76 (by decide : Bd 1 (1) (1))
            have t112 : z110.toInt = x5_4.toInt + 1 := fold_add t112 rfl (by decide)
            refine lv_iinc (v := z110) (lv' := [(4, .int z110), (3, .int z106), (0, .ref (ad 0)), (1, .int a1), (2, .int a2)]) hx hb dX12_seatOf_42 hl (k := 1) rfl (by rw [e111]; rfl) (by decide) rfl (fun ls hl => ?_)
            refine lv_goto (tgt := 5) hx hb dX12_seatOf_45 (by decide) ?_
            exact ih5 _ _ _ z106 z110 (ib_wk b109 (by decide) (by decide)) (ib_wk b113 (by decide) (by decide)) (by omega) (by omega) hQ (lv_sub hl [0, 1, 2, 3, 4] rfl)
  obtain ⟨n5, hn5⟩ := fu_n (3)
  exact loop5 n5 _ _ _ 1 0 (ib_wk (by decide : Bd 1 (1) (1)) (by decide) (by decide)) (ib_wk (by decide : Bd 0 (0) (0)) (by decide) (by decide)) (by have : (1 : Int32).toInt = 1 := (by decide); have : (0 : Int32).toInt = 0 := (by decide); omega) (by have : (1 : Int32).toInt = 1 := (by decide); have : (0 : Int32).toInt = 0 := (by decide); omega) hQ (lv_sub hl [0, 1, 2, 3, 4] rfl)
set_option maxHeartbeats 4000000 in
set_option maxRecDepth 100000 in
theorem gX12_rests_3 (l : Launch) (g : GG) (ad : Nat → Nat) (hD : Dj ad 20) (S : SS) (hI : InvM g ad S) (a1 : Int32) (ba1 : Bd a1 (3) (3)) : Met l yX12_rests (wG (.code yX12_rests cX12_rests 4 none)) (Rm 2) (XPre g ad 20 S [.ref (ad 0), .int a1]) (va_Qv (fun S' => InvM g ad S' ∧ (∀ j, j ∉ ([0, 18] : List Nat) → S' j = S j)) (QB g ad 20) (FA ad 20)) 0 0 (FA ad 20) := by
  refine xmet cX12_rests "EbbWreckModel" (by decide) rfl (Nat.le_of_ble_eq_true rfl) (fun p e s m below meth c E hr hlk hml hQ ls hl => ?_)
  have hx := E.1
  have hb := E.2.1
  have hs : Sp ad 20 (FA ad 20) := Sp.fa hD
  have hl : lv_has ls 4 [(0, .ref (ad 0)), (1, .int a1)] := hl
  refine lv_iload_n hx hb dX12_rests_0 rfl (lv_at hl 1 rfl) ?_
  refine lv_aload_n hx hb dX12_rests_1 rfl (lv_at hl 0 rfl) ?_
  obtain ⟨v1, v2, v4, v6, v8, v9, w10, v11, v13, v14, v15, v16, v18, v20, v22, v24, v26, v27, v28, c29, b3, b5, b7, b12, b17, b19, b21, b23, b25⟩ := invM_0 hI
  have c29 : S 0 = .inr (12, [.int v1, .ref (ad 1), .ref (ad 2), .ref (ad 3), .ref (ad 4), .ref (ad 5), .int v2, .int v4, .int v6, .int v8, .int v9, .long w10, .int v11, .int v13, .int v14, .int v15, .ref (ad 6), .ref (ad 7), .ref (ad 8), .ref (ad 9), .ref (ad 10), .ref (ad 11), .ref (ad 12), .ref (ad 13), .ref (ad 14), .ref (ad 15), .int v16, .int v18, .ref (ad 16), .int v20, .int v22, .int v24, .int v26, .int v27, .ref (ad 17), .ref (ad 18), .int v28, .ref (ad 19)]) := c29
  refine xget E hQ 0 (by decide) c29 rfl 17 (by decide) q1485 rfl dX12_rests_2 ?_
  refine lv_bipush (v := 8) hx hb dX12_rests_5 (by decide) ?_
  obtain ⟨f30, c31, b32⟩ := invM_7 hI
  refine xiald E hQ 7 (by decide) c31 (vp_in_lit 8 50 (by decide)) dX12_rests_7 ?_
  obtain ⟨v33, ee34⟩ : ∃ z : Int32, f30 8 = z := ⟨_, rfl⟩
  have b35 : Bd v33 (0) (3) := (by rw [← ee34]; exact b32.2.2.2.2.2.2.1 8 (by decide))
  refine sb_at (P := fun z => W _ _ _ _ _ _ _ _ _ _ _ _ _ _ _ (F0 _ _ _ (.int z :: _))) (show f30 (8 : Int32).toNatClampNeg = v33 from ee34) ?_
  refine lv_icmp_ge (tgt := 55) hx hb dX12_rests_8 (by decide) (fun k36 => ?_) (fun k36 => ?_)
  · have h37 := ib_le k36
    refine lv_iconst (v := 0) hx hb dX12_rests_55 (by decide) ?_
    refine lv_istore_n (lv' := [(2, .int 0), (0, .ref (ad 0)), (1, .int a1)]) hx hb dX12_rests_56 rfl hl (by decide) rfl (fun ls hl => ?_)
    have loop57 : ∀ (n : Nat) (H : Heap) (locs : List Loc) (ls : Array Slot) (x57_2 : Int32), Bd x57_2 (0) (3) → (-1) * x57_2.toInt + 3 < ((n : Nat) : Int) → Hp g ad 20 S (FA ad 20) s.heap H locs → lv_has ls 4 [(2, .int x57_2), (0, .ref (ad 0)), (1, .int a1)] → W p l e (Rm 2) s m [.ref (ad 0), .int a1].toArray below meth c H locs 0 0 (MQ below (va_Qv (fun S' => InvM g ad S' ∧ (∀ j, j ∉ ([0, 18] : List Nat) → S' j = S j)) (QB g ad 20) (FA ad 20)) [.ref (ad 0), .int a1].toArray s 0 0 (FA ad 20)) (F0 m 57 ls []) := by
      intro n
      induction n with
      | zero => intro H locs ls x57_2 Bx57_2 hn57_ hQ hl; exfalso; have := (Bx57_2).2; omega
      | succ n57_ ih57 =>
        intro H locs ls x57_2 Bx57_2 hn57_ hQ hl
        refine lv_iload_n hx hb dX12_rests_57 rfl (lv_at hl 0 rfl) ?_
        refine lv_aload_n hx hb dX12_rests_58 rfl (lv_at hl 1 rfl) ?_
        refine xget E hQ 0 (by decide) c29 rfl 17 (by decide) q1485 rfl dX12_rests_59 ?_
        refine lv_bipush (v := 8) hx hb dX12_rests_62 (by decide) ?_
        refine xiald E hQ 7 (by decide) c31 (vp_in_lit 8 50 (by decide)) dX12_rests_64 ?_
        refine sb_at (P := fun z => W _ _ _ _ _ _ _ _ _ _ _ _ _ _ _ (F0 _ _ _ (.int z :: _))) (show f30 (8 : Int32).toNatClampNeg = v33 from ee34) ?_
        refine lv_icmp_ge (tgt := 121) hx hb dX12_rests_65 (by decide) (fun k38 => ?_) (fun k38 => ?_)
        · have h39 := ib_le k38
          refine lv_aload_n hx hb dX12_rests_121 rfl (lv_at hl 1 rfl) ?_
          refine xget E hQ 0 (by decide) c29 rfl 36 (by decide) q1504 rfl dX12_rests_122 ?_
          refine lv_if_ne (tgt := 159) hx hb dX12_rests_125 (by decide) (fun k40 => ?_) (fun k40 => ?_)
          · have h41 := ib_ne k40
            refine lv_aload_n hx hb dX12_rests_159 rfl (lv_at hl 1 rfl) ?_
            refine lv_dup hx hb dX12_rests_160 rfl ?_
            refine xget E hQ 0 (by decide) c29 rfl 36 (by decide) q1504 rfl dX12_rests_161 ?_
            refine lv_iconst (v := 1) hx hb dX12_rests_164 (by decide) ?_
            refine lv_iadd hx hb dX12_rests_165 ?_
            refine lv_topi (fun z42 e43 => ?_)
            refine xputi E hs hQ 0 (by decide) c29 rfl 36 (by decide) q1504 rfl rfl (Nat.le_of_ble_eq_true rfl) dX12_rests_166 (fun H locs S44 eS44 hQ => ?_)
            have hI := invM_up_0 hI eS44 ⟨v1, v2, v4, v6, v8, v9, w10, v11, v13, v14, v15, v16, v18, v20, v22, v24, v26, v27, z42, rfl, b3, b5, b7, b12, b17, b19, b21, b23, b25⟩
            have c45 : S44 0 = .inr (12, [.int v1, .ref (ad 1), .ref (ad 2), .ref (ad 3), .ref (ad 4), .ref (ad 5), .int v2, .int v4, .int v6, .int v8, .int v9, .long w10, .int v11, .int v13, .int v14, .int v15, .ref (ad 6), .ref (ad 7), .ref (ad 8), .ref (ad 9), .ref (ad 10), .ref (ad 11), .ref (ad 12), .ref (ad 13), .ref (ad 14), .ref (ad 15), .int v16, .int v18, .ref (ad 16), .int v20, .int v22, .int v24, .int v26, .int v27, .ref (ad 17), .ref (ad 18), .int z42, .ref (ad 19)]) := up_at eS44 rfl
            exact xrv E hr hlk hQ (⟨hI, (up_o o_refl eS44 (by decide))⟩) dX12_rests_169
          · have h46 := ib_eq k40
            have b47 : Bd v28 (0) (0) := ⟨((rf_eq (ib_full v28) (by decide : Bd 0 (0) (0)) h46).1).1, ((rf_eq (ib_full v28) (by decide : Bd 0 (0) (0)) h46).1).2⟩
            refine lv_iconst (v := 0) hx hb dX12_rests_128 (by decide) ?_
            refine lv_istore_n (lv' := [(2, .int 0), (0, .ref (ad 0)), (1, .int a1)]) hx hb dX12_rests_129 rfl hl (by decide) rfl (fun ls hl => ?_)
            have loop130 : ∀ (n : Nat) (S_130 : SS) (H : Heap) (locs : List Loc) (ls : Array Slot) (x130_2 : Int32), Bd x130_2 (0) (3) → (-1) * x130_2.toInt + 3 < ((n : Nat) : Int) → InvM g ad S_130 → (∀ j, j ∉ ([18] : List Nat) → S_130 j = S j) → Hp g ad 20 S_130 (FA ad 20) s.heap H locs → lv_has ls 4 [(2, .int x130_2), (0, .ref (ad 0)), (1, .int a1)] → W p l e (Rm 2) s m [.ref (ad 0), .int a1].toArray below meth c H locs 0 0 (MQ below (va_Qv (fun S' => InvM g ad S' ∧ (∀ j, j ∉ ([0, 18] : List Nat) → S' j = S j)) (QB g ad 20) (FA ad 20)) [.ref (ad 0), .int a1].toArray s 0 0 (FA ad 20)) (F0 m 130 ls []) := by
              intro n
              induction n with
              | zero => intro S_130 H locs ls x130_2 Bx130_2 hn130_ hI hf130 hQ hl; exfalso; have := (Bx130_2).2; omega
              | succ n130_ ih130 =>
                intro S_130 H locs ls x130_2 Bx130_2 hn130_ hI hf130 hQ hl
                refine lv_iload_n hx hb dX12_rests_130 rfl (lv_at hl 0 rfl) ?_
                refine lv_aload_n hx hb dX12_rests_131 rfl (lv_at hl 1 rfl) ?_
                have c48 : S_130 0 = .inr (12, [.int v1, .ref (ad 1), .ref (ad 2), .ref (ad 3), .ref (ad 4), .ref (ad 5), .int v2, .int v4, .int v6, .int v8, .int v9, .long w10, .int v11, .int v13, .int v14, .int v15, .ref (ad 6), .ref (ad 7), .ref (ad 8), .ref (ad 9), .ref (ad 10), .ref (ad 11), .ref (ad 12), .ref (ad 13), .ref (ad 14), .ref (ad 15), .int v16, .int v18, .ref (ad 16), .int v20, .int v22, .int v24, .int v26, .int v27, .ref (ad 17), .ref (ad 18), .int v28, .ref (ad 19)]) := ((hf130 0 (by decide)).trans c29)
                refine xget E hQ 0 (by decide) c48 rfl 17 (by decide) q1485 rfl dX12_rests_132 ?_
                refine lv_bipush (v := 8) hx hb dX12_rests_135 (by decide) ?_
                have c49 : S_130 7 = .inl (g.2 0, 50, .inl f30) := ((hf130 7 (by decide)).trans c31)
                refine xiald E hQ 7 (by decide) c49 (vp_in_lit 8 50 (by decide)) dX12_rests_137 ?_
                refine sb_at (P := fun z => W _ _ _ _ _ _ _ _ _ _ _ _ _ _ _ (F0 _ _ _ (.int z :: _))) (show f30 (8 : Int32).toNatClampNeg = v33 from ee34) ?_
                refine lv_icmp_ge (tgt := 159) hx hb dX12_rests_138 (by decide) (fun k50 => ?_) (fun k50 => ?_)
                · have h51 := ib_le k50
                  refine lv_aload_n hx hb dX12_rests_159 rfl (lv_at hl 1 rfl) ?_
                  refine lv_dup hx hb dX12_rests_160 rfl ?_
                  refine xget E hQ 0 (by decide) c48 rfl 36 (by decide) q1504 rfl dX12_rests_161 ?_
                  refine lv_iconst (v := 1) hx hb dX12_rests_164 (by decide) ?_
                  refine lv_iadd hx hb dX12_rests_165 ?_
                  refine lv_topi (fun z52 e53 => ?_)
                  have t54 := ib_add e53 b47 (by decide : Bd 1 (1) (1)) (by decide) (by decide)
                  have b55 : Bd z52 (1) (1) := ib_addb t54 b47 (by decide : Bd 1 (1) (1))
                  have t54 : z52.toInt = v28.toInt + 1 := fold_add t54 rfl (by decide)
                  refine xputi E hs hQ 0 (by decide) c48 rfl 36 (by decide) q1504 rfl rfl (Nat.le_of_ble_eq_true rfl) dX12_rests_166 (fun H locs S56 eS56 hQ => ?_)
                  have hI := invM_up_0 hI eS56 ⟨v1, v2, v4, v6, v8, v9, w10, v11, v13, v14, v15, v16, v18, v20, v22, v24, v26, v27, z52, rfl, b3, b5, b7, b12, b17, b19, b21, b23, b25⟩
                  have c57 : S56 0 = .inr (12, [.int v1, .ref (ad 1), .ref (ad 2), .ref (ad 3), .ref (ad 4), .ref (ad 5), .int v2, .int v4, .int v6, .int v8, .int v9, .long w10, .int v11, .int v13, .int v14, .int v15, .ref (ad 6), .ref (ad 7), .ref (ad 8), .ref (ad 9), .ref (ad 10), .ref (ad 11), .ref (ad 12), .ref (ad 13), .ref (ad 14), .ref (ad 15), .int v16, .int v18, .ref (ad 16), .int v20, .int v22, .int v24, .int v26, .int v27, .ref (ad 17), .ref (ad 18), .int z52, .ref (ad 19)]) := up_at eS56 rfl
                  exact xrv E hr hlk hQ (⟨hI, (up_o (o_trans o_refl hf130 (by decide)) eS56 (by decide))⟩) dX12_rests_169
                · have h58 := ib_nle k50
                  have b59 : Bd x130_2 (0) (2) := ⟨(Bx130_2).1, ((rf_lt Bx130_2 b35 h58).1).2⟩
                  have b60 : Bd v33 (1) (3) := ⟨((rf_lt Bx130_2 b35 h58).2).1, (b35).2⟩
                  refine lv_aload_n hx hb dX12_rests_141 rfl (lv_at hl 1 rfl) ?_
                  refine xget E hQ 0 (by decide) c48 rfl 35 (by decide) q1503 rfl dX12_rests_142 ?_
                  refine lv_iload_n hx hb dX12_rests_145 rfl (lv_at hl 0 rfl) ?_
                  refine lv_aload_n hx hb dX12_rests_146 rfl (lv_at hl 1 rfl) ?_
                  refine xget E hQ 0 (by decide) c48 rfl 24 (by decide) q1492 rfl dX12_rests_147 ?_
                  refine lv_iload_n hx hb dX12_rests_150 rfl (lv_at hl 0 rfl) ?_
                  obtain ⟨f61, c62, b63⟩ := invM_14 hI
                  refine xiald E hQ 14 (by decide) c62 (ib_in b59 (by decide) (by decide)) dX12_rests_151 ?_
                  refine lv_topi (fun z64 e65 => ?_)
                  have b66 : Bd z64 (0) (11) := (by rw [e65]; exact b63 _)
                  obtain ⟨f67, c68⟩ := invM_18 hI
                  refine xiast E hs hQ 18 (by decide) c68 (ib_in b59 (by decide) (by decide)) dX12_rests_152 (fun H locs S70 eS70 hQ => ?_)
                  have hI := invM_up_18 hI eS70 ⟨_, rfl⟩
                  have c71 : S70 18 = .inl (g.2 0, 3, .inl (upd f67 (x130_2 : Int32).toNatClampNeg z64)) := up_at eS70 rfl
                  obtain ⟨z72, e73⟩ : ∃ z : Int32, z = x130_2 + 1 := ⟨_, rfl⟩
                  have t74 := ib_add e73 b59 (by decide : Bd 1 (1) (1)) (by decide) (by decide)
                  have b75 : Bd z72 (1) (3) := ib_addb t74 b59 (by decide : Bd 1 (1) (1))
                  have t74 : z72.toInt = x130_2.toInt + 1 := fold_add t74 rfl (by decide)
                  refine lv_iinc (v := z72) (lv' := [(2, .int z72), (0, .ref (ad 0)), (1, .int a1)]) hx hb dX12_rests_153 hl (k := 0) rfl (by rw [e73]; rfl) (by decide) rfl (fun ls hl => ?_)
                  refine lv_goto (tgt := 130) hx hb dX12_rests_156 (by decide) ?_
                  exact ih130 _ _ _ _ z72 (ib_wk b75 (by decide) (by decide)) (by omega) hI (up_o hf130 eS70 (by decide)) hQ (lv_sub hl [0, 1, 2] rfl)
            obtain ⟨n130, hn130⟩ := fu_n (3)
            exact loop130 n130 _ _ _ _ 0 (ib_wk (by decide : Bd 0 (0) (0)) (by decide) (by decide)) (by have : (0 : Int32).toInt = 0 := (by decide); omega) hI o_refl hQ (lv_sub hl [0, 1, 2] rfl)
        · have h76 := ib_nle k38
          have b77 : Bd x57_2 (0) (2) := ⟨(Bx57_2).1, ((rf_lt Bx57_2 b35 h76).1).2⟩
          have b78 : Bd v33 (1) (3) := ⟨((rf_lt Bx57_2 b35 h76).2).1, (b35).2⟩
          refine lv_iconst (v := 0) hx hb dX12_rests_68 (by decide) ?_
          refine lv_istore_n (lv' := [(3, .int 0), (2, .int x57_2), (0, .ref (ad 0)), (1, .int a1)]) hx hb dX12_rests_69 rfl hl (by decide) rfl (fun ls hl => ?_)
          have loop70 : ∀ (n : Nat) (H : Heap) (locs : List Loc) (ls : Array Slot) (x70_3 : Int32), Bd x70_3 (0) (12) → (-1) * x70_3.toInt + 12 < ((n : Nat) : Int) → Hp g ad 20 S (FA ad 20) s.heap H locs → lv_has ls 4 [(3, .int x70_3), (2, .int x57_2), (0, .ref (ad 0)), (1, .int a1)] → W p l e (Rm 2) s m [.ref (ad 0), .int a1].toArray below meth c H locs 0 0 (MQ below (va_Qv (fun S' => InvM g ad S' ∧ (∀ j, j ∉ ([0, 18] : List Nat) → S' j = S j)) (QB g ad 20) (FA ad 20)) [.ref (ad 0), .int a1].toArray s 0 0 (FA ad 20)) (F0 m 70 ls []) := by
            intro n
            induction n with
            | zero => intro H locs ls x70_3 Bx70_3 hn70_ hQ hl; exfalso; have := (Bx70_3).2; omega
            | succ n70_ ih70 =>
              intro H locs ls x70_3 Bx70_3 hn70_ hQ hl
              refine lv_iload_n hx hb dX12_rests_70 rfl (lv_at hl 0 rfl) ?_
              refine lv_aload_n hx hb dX12_rests_71 rfl (lv_at hl 2 rfl) ?_
              refine xget E hQ 0 (by decide) c29 rfl 17 (by decide) q1485 rfl dX12_rests_72 ?_
              refine lv_iconst (v := 0) hx hb dX12_rests_75 (by decide) ?_
              refine xiald E hQ 7 (by decide) c31 (vp_in_lit 0 50 (by decide)) dX12_rests_76 ?_
              obtain ⟨v79, ee80⟩ : ∃ z : Int32, f30 0 = z := ⟨_, rfl⟩
              have b81 : Bd v79 (0) (12) := (by rw [← ee80]; exact b32.1 0 (by decide))
              refine sb_at (P := fun z => W _ _ _ _ _ _ _ _ _ _ _ _ _ _ _ (F0 _ _ _ (.int z :: _))) (show f30 (0 : Int32).toNatClampNeg = v79 from ee80) ?_
              refine lv_icmp_ge (tgt := 115) hx hb dX12_rests_77 (by decide) (fun k82 => ?_) (fun k82 => ?_)
              · have h83 := ib_le k82
                obtain ⟨z84, e85⟩ : ∃ z : Int32, z = x57_2 + 1 := ⟨_, rfl⟩
                have t86 := ib_add e85 b77 (by decide : Bd 1 (1) (1)) (by decide) (by decide)
                have b87 : Bd z84 (1) (3) := ib_addb t86 b77 (by decide : Bd 1 (1) (1))
                have t86 : z84.toInt = x57_2.toInt + 1 := fold_add t86 rfl (by decide)
                refine lv_iinc (v := z84) (lv' := [(2, .int z84), (3, .int x70_3), (0, .ref (ad 0)), (1, .int a1)]) hx hb dX12_rests_115 hl (k := 1) rfl (by rw [e85]; rfl) (by decide) rfl (fun ls hl => ?_)
                refine lv_goto (tgt := 57) hx hb dX12_rests_118 (by decide) ?_
                exact ih57 _ _ _ z84 (ib_wk b87 (by decide) (by decide)) (by omega) hQ (lv_sub hl [0, 2, 3] rfl)
              · have h88 := ib_nle k82
                have b89 : Bd x70_3 (0) (11) := ⟨(Bx70_3).1, ((rf_lt Bx70_3 b81 h88).1).2⟩
                have b90 : Bd v79 (1) (12) := ⟨((rf_lt Bx70_3 b81 h88).2).1, (b81).2⟩
                refine lv_aload_n hx hb dX12_rests_80 rfl (lv_at hl 2 rfl) ?_
                refine lv_iload_n hx hb dX12_rests_81 rfl (lv_at hl 0 rfl) ?_
                refine xcVi E hs hQ hml hl.1 0 (gX12_isBeach_0 l g ad hD S hI x70_3) mX12_isBeach q1755 (by decide) c29 rfl rfl ⟨(Nat.le_of_ble_eq_true rfl), (Nat.le_of_ble_eq_true rfl)⟩ ⟨(Nat.le_of_ble_eq_true rfl), (Nat.le_of_ble_eq_true rfl)⟩ (Nat.le_of_ble_eq_true rfl) rfl dX12_rests_82 (fun r91 S91 H locs hp91 hQ _ => ?_)
                obtain ⟨rfl, b91, fg91⟩ := hp91
                refine lv_if_eq (tgt := 109) hx hb dX12_rests_85 (by decide) (fun k92 => ?_) (fun k92 => ?_)
                · have h93 := ib_eq k92
                  have b94 : Bd r91 (0) (0) := ⟨(b91).1, ((rf_eq b91 (by decide : Bd 0 (0) (0)) h93).1).2⟩
                  obtain ⟨z95, e96⟩ : ∃ z : Int32, z = x70_3 + 1 := ⟨_, rfl⟩
                  have t97 := ib_add e96 b89 (by decide : Bd 1 (1) (1)) (by decide) (by decide)
                  have b98 : Bd z95 (1) (12) := ib_addb t97 b89 (by decide : Bd 1 (1) (1))
                  have t97 : z95.toInt = x70_3.toInt + 1 := fold_add t97 rfl (by decide)
                  refine lv_iinc (v := z95) (lv' := [(3, .int z95), (2, .int x57_2), (0, .ref (ad 0)), (1, .int a1)]) hx hb dX12_rests_109 hl (k := 0) rfl (by rw [e96]; rfl) (by decide) rfl (fun ls hl => ?_)
                  refine lv_goto (tgt := 70) hx hb dX12_rests_112 (by decide) ?_
                  exact ih70 _ _ _ z95 (ib_wk b98 (by decide) (by decide)) (by omega) hQ (lv_sub hl [0, 1, 2, 3] rfl)
                · have h99 := ib_ne k92
                  have b100 : Bd r91 (1) (1) := rf_nlo b91 (by decide : Bd 0 (0) (0)) h99
                  refine lv_aload_n hx hb dX12_rests_88 rfl (lv_at hl 2 rfl) ?_
                  refine lv_iload_n hx hb dX12_rests_89 rfl (lv_at hl 1 rfl) ?_
                  refine lv_iload_n hx hb dX12_rests_90 rfl (lv_at hl 0 rfl) ?_
                  refine xcVi E hs hQ hml hl.1 0 (gX12_seatOf_0 l g ad hD S hI x57_2 x70_3 b77 b89) mX12_seatOf q2062 (by decide) c29 rfl rfl ⟨(Nat.le_of_ble_eq_true rfl), (Nat.le_of_ble_eq_true rfl)⟩ ⟨(Nat.le_of_ble_eq_true rfl), (Nat.le_of_ble_eq_true rfl)⟩ (Nat.le_of_ble_eq_true rfl) rfl dX12_rests_91 (fun r101 S101 H locs hp101 hQ _ => ?_)
                  subst hp101
                  refine lv_aload_n hx hb dX12_rests_94 rfl (lv_at hl 2 rfl) ?_
                  refine lv_iload_n hx hb dX12_rests_95 rfl (lv_at hl 1 rfl) ?_
                  refine lv_aload_n hx hb dX12_rests_96 rfl (lv_at hl 2 rfl) ?_
                  refine xget E hQ 0 (by decide) c29 rfl 24 (by decide) q1492 rfl dX12_rests_97 ?_
                  refine lv_iload_n hx hb dX12_rests_100 rfl (lv_at hl 1 rfl) ?_
                  obtain ⟨f102, c103, b104⟩ := invM_14 hI
                  refine xiald E hQ 14 (by decide) c103 (ib_in b77 (by decide) (by decide)) dX12_rests_101 ?_
                  refine lv_topi (fun z105 e106 => ?_)
                  have b107 : Bd z105 (0) (11) := (by rw [e106]; exact b104 _)
                  refine xcVi E hs hQ hml hl.1 0 (gX12_seatOf_0 l g ad hD S hI x57_2 z105 b77 b107) mX12_seatOf q2062 (by decide) c29 rfl rfl ⟨(Nat.le_of_ble_eq_true rfl), (Nat.le_of_ble_eq_true rfl)⟩ ⟨(Nat.le_of_ble_eq_true rfl), (Nat.le_of_ble_eq_true rfl)⟩ (Nat.le_of_ble_eq_true rfl) rfl dX12_rests_102 (fun r108 S108 H locs hp108 hQ _ => ?_)
                  subst hp108
                  refine lv_icmp_le (tgt := 109) hx hb dX12_rests_105 (by decide) (fun k109 => ?_) (fun k109 => ?_)
                  · have h110 := ib_le k109
                    obtain ⟨z111, e112⟩ : ∃ z : Int32, z = x70_3 + 1 := ⟨_, rfl⟩
                    have t113 := ib_add e112 b89 (by decide : Bd 1 (1) (1)) (by decide) (by decide)
                    have b114 : Bd z111 (1) (12) := ib_addb t113 b89 (by decide : Bd 1 (1) (1))
                    have t113 : z111.toInt = x70_3.toInt + 1 := fold_add t113 rfl (by decide)
                    refine lv_iinc (v := z111) (lv' := [(3, .int z111), (2, .int x57_2), (0, .ref (ad 0)), (1, .int a1)]) hx hb dX12_rests_109 hl (k := 0) rfl (by rw [e112]; rfl) (by decide) rfl (fun ls hl => ?_)
                    refine lv_goto (tgt := 70) hx hb dX12_rests_112 (by decide) ?_
                    exact ih70 _ _ _ z111 (ib_wk b114 (by decide) (by decide)) (by omega) hQ (lv_sub hl [0, 1, 2, 3] rfl)
                  · have h115 := ib_nle k109
                    have b116 : Bd r108 (-2147483648) (2147483646) := ⟨((ib_full r108)).1, ((rf_lt (ib_full r108) (ib_full r101) h115).1).2⟩
                    have b117 : Bd r101 (-2147483647) (2147483647) := ⟨((rf_lt (ib_full r108) (ib_full r101) h115).2).1, ((ib_full r101)).2⟩
                    exact xrv E hr hlk hQ (⟨hI, o_refl⟩) dX12_rests_108
          obtain ⟨n70, hn70⟩ := fu_n (12)
          exact loop70 n70 _ _ _ 0 (ib_wk (by decide : Bd 0 (0) (0)) (by decide) (by decide)) (by have : (0 : Int32).toInt = 0 := (by decide); omega) hQ (lv_sub hl [0, 1, 2, 3] rfl)
    obtain ⟨n57, hn57⟩ := fu_n (3)
    exact loop57 n57 _ _ _ 0 (ib_wk (by decide : Bd 0 (0) (0)) (by decide) (by decide)) (by have : (0 : Int32).toInt = 0 := (by decide); omega) hQ (lv_sub hl [0, 1, 2] rfl)
  · have h118 := ib_nle k36
    have b119 : Bd a1 (3) (2) := ⟨(ba1).1, ((rf_lt ba1 b35 h118).1).2⟩
    exact absurd (Int.le_trans b119.1 b119.2) (by decide)
set_option maxHeartbeats 4000000 in
set_option maxRecDepth 100000 in
theorem gX12_rests_2 (l : Launch) (g : GG) (ad : Nat → Nat) (hD : Dj ad 20) (S : SS) (hI : InvM g ad S) (a1 : Int32) (ba1 : Bd a1 (2) (2)) : Met l yX12_rests (wG (.code yX12_rests cX12_rests 4 none)) (Rm 3) (XPre g ad 20 S [.ref (ad 0), .int a1]) (va_Qv (fun S' => InvM g ad S' ∧ (∀ j, j ∉ ([0, 14, 18] : List Nat) → S' j = S j)) (QB g ad 20) (FA ad 20)) 0 0 (FA ad 20) := by
  refine xmet cX12_rests "EbbWreckModel" (by decide) rfl (Nat.le_of_ble_eq_true rfl) (fun p e s m below meth c E hr hlk hml hQ ls hl => ?_)
  have hx := E.1
  have hb := E.2.1
  have hs : Sp ad 20 (FA ad 20) := Sp.fa hD
  have hl : lv_has ls 4 [(0, .ref (ad 0)), (1, .int a1)] := hl
  refine lv_iload_n hx hb dX12_rests_0 rfl (lv_at hl 1 rfl) ?_
  refine lv_aload_n hx hb dX12_rests_1 rfl (lv_at hl 0 rfl) ?_
  obtain ⟨v1, v2, v4, v6, v8, v9, w10, v11, v13, v14, v15, v16, v18, v20, v22, v24, v26, v27, v28, c29, b3, b5, b7, b12, b17, b19, b21, b23, b25⟩ := invM_0 hI
  have c29 : S 0 = .inr (12, [.int v1, .ref (ad 1), .ref (ad 2), .ref (ad 3), .ref (ad 4), .ref (ad 5), .int v2, .int v4, .int v6, .int v8, .int v9, .long w10, .int v11, .int v13, .int v14, .int v15, .ref (ad 6), .ref (ad 7), .ref (ad 8), .ref (ad 9), .ref (ad 10), .ref (ad 11), .ref (ad 12), .ref (ad 13), .ref (ad 14), .ref (ad 15), .int v16, .int v18, .ref (ad 16), .int v20, .int v22, .int v24, .int v26, .int v27, .ref (ad 17), .ref (ad 18), .int v28, .ref (ad 19)]) := c29
  refine xget E hQ 0 (by decide) c29 rfl 17 (by decide) q1485 rfl dX12_rests_2 ?_
  refine lv_bipush (v := 8) hx hb dX12_rests_5 (by decide) ?_
  obtain ⟨f30, c31, b32⟩ := invM_7 hI
  refine xiald E hQ 7 (by decide) c31 (vp_in_lit 8 50 (by decide)) dX12_rests_7 ?_
  obtain ⟨v33, ee34⟩ : ∃ z : Int32, f30 8 = z := ⟨_, rfl⟩
  have b35 : Bd v33 (0) (3) := (by rw [← ee34]; exact b32.2.2.2.2.2.2.1 8 (by decide))
  refine sb_at (P := fun z => W _ _ _ _ _ _ _ _ _ _ _ _ _ _ _ (F0 _ _ _ (.int z :: _))) (show f30 (8 : Int32).toNatClampNeg = v33 from ee34) ?_
  refine lv_icmp_ge (tgt := 55) hx hb dX12_rests_8 (by decide) (fun k36 => ?_) (fun k36 => ?_)
  · have h37 := ib_le k36
    have b38 : Bd v33 (0) (2) := ⟨(b35).1, ((rf_le b35 ba1 h37).1).2⟩
    refine lv_iconst (v := 0) hx hb dX12_rests_55 (by decide) ?_
    refine lv_istore_n (lv' := [(2, .int 0), (0, .ref (ad 0)), (1, .int a1)]) hx hb dX12_rests_56 rfl hl (by decide) rfl (fun ls hl => ?_)
    have loop57 : ∀ (n : Nat) (H : Heap) (locs : List Loc) (ls : Array Slot) (x57_2 : Int32), Bd x57_2 (0) (2) → (-1) * x57_2.toInt + 2 < ((n : Nat) : Int) → Hp g ad 20 S (FA ad 20) s.heap H locs → lv_has ls 4 [(2, .int x57_2), (0, .ref (ad 0)), (1, .int a1)] → W p l e (Rm 3) s m [.ref (ad 0), .int a1].toArray below meth c H locs 0 0 (MQ below (va_Qv (fun S' => InvM g ad S' ∧ (∀ j, j ∉ ([0, 14, 18] : List Nat) → S' j = S j)) (QB g ad 20) (FA ad 20)) [.ref (ad 0), .int a1].toArray s 0 0 (FA ad 20)) (F0 m 57 ls []) := by
      intro n
      induction n with
      | zero => intro H locs ls x57_2 Bx57_2 hn57_ hQ hl; exfalso; have := (Bx57_2).2; omega
      | succ n57_ ih57 =>
        intro H locs ls x57_2 Bx57_2 hn57_ hQ hl
        refine lv_iload_n hx hb dX12_rests_57 rfl (lv_at hl 0 rfl) ?_
        refine lv_aload_n hx hb dX12_rests_58 rfl (lv_at hl 1 rfl) ?_
        refine xget E hQ 0 (by decide) c29 rfl 17 (by decide) q1485 rfl dX12_rests_59 ?_
        refine lv_bipush (v := 8) hx hb dX12_rests_62 (by decide) ?_
        refine xiald E hQ 7 (by decide) c31 (vp_in_lit 8 50 (by decide)) dX12_rests_64 ?_
        refine sb_at (P := fun z => W _ _ _ _ _ _ _ _ _ _ _ _ _ _ _ (F0 _ _ _ (.int z :: _))) (show f30 (8 : Int32).toNatClampNeg = v33 from ee34) ?_
        refine lv_icmp_ge (tgt := 121) hx hb dX12_rests_65 (by decide) (fun k39 => ?_) (fun k39 => ?_)
        · have h40 := ib_le k39
          refine lv_aload_n hx hb dX12_rests_121 rfl (lv_at hl 1 rfl) ?_
          refine xget E hQ 0 (by decide) c29 rfl 36 (by decide) q1504 rfl dX12_rests_122 ?_
          refine lv_if_ne (tgt := 159) hx hb dX12_rests_125 (by decide) (fun k41 => ?_) (fun k41 => ?_)
          · have h42 := ib_ne k41
            refine lv_aload_n hx hb dX12_rests_159 rfl (lv_at hl 1 rfl) ?_
            refine lv_dup hx hb dX12_rests_160 rfl ?_
            refine xget E hQ 0 (by decide) c29 rfl 36 (by decide) q1504 rfl dX12_rests_161 ?_
            refine lv_iconst (v := 1) hx hb dX12_rests_164 (by decide) ?_
            refine lv_iadd hx hb dX12_rests_165 ?_
            refine lv_topi (fun z43 e44 => ?_)
            refine xputi E hs hQ 0 (by decide) c29 rfl 36 (by decide) q1504 rfl rfl (Nat.le_of_ble_eq_true rfl) dX12_rests_166 (fun H locs S45 eS45 hQ => ?_)
            have hI := invM_up_0 hI eS45 ⟨v1, v2, v4, v6, v8, v9, w10, v11, v13, v14, v15, v16, v18, v20, v22, v24, v26, v27, z43, rfl, b3, b5, b7, b12, b17, b19, b21, b23, b25⟩
            have c46 : S45 0 = .inr (12, [.int v1, .ref (ad 1), .ref (ad 2), .ref (ad 3), .ref (ad 4), .ref (ad 5), .int v2, .int v4, .int v6, .int v8, .int v9, .long w10, .int v11, .int v13, .int v14, .int v15, .ref (ad 6), .ref (ad 7), .ref (ad 8), .ref (ad 9), .ref (ad 10), .ref (ad 11), .ref (ad 12), .ref (ad 13), .ref (ad 14), .ref (ad 15), .int v16, .int v18, .ref (ad 16), .int v20, .int v22, .int v24, .int v26, .int v27, .ref (ad 17), .ref (ad 18), .int z43, .ref (ad 19)]) := up_at eS45 rfl
            exact xrv E hr hlk hQ (⟨hI, (up_o o_refl eS45 (by decide))⟩) dX12_rests_169
          · have h47 := ib_eq k41
            have b48 : Bd v28 (0) (0) := ⟨((rf_eq (ib_full v28) (by decide : Bd 0 (0) (0)) h47).1).1, ((rf_eq (ib_full v28) (by decide : Bd 0 (0) (0)) h47).1).2⟩
            refine lv_iconst (v := 0) hx hb dX12_rests_128 (by decide) ?_
            refine lv_istore_n (lv' := [(2, .int 0), (0, .ref (ad 0)), (1, .int a1)]) hx hb dX12_rests_129 rfl hl (by decide) rfl (fun ls hl => ?_)
            have loop130 : ∀ (n : Nat) (S_130 : SS) (H : Heap) (locs : List Loc) (ls : Array Slot) (x130_2 : Int32), Bd x130_2 (0) (2) → (-1) * x130_2.toInt + 2 < ((n : Nat) : Int) → InvM g ad S_130 → (∀ j, j ∉ ([18] : List Nat) → S_130 j = S j) → Hp g ad 20 S_130 (FA ad 20) s.heap H locs → lv_has ls 4 [(2, .int x130_2), (0, .ref (ad 0)), (1, .int a1)] → W p l e (Rm 3) s m [.ref (ad 0), .int a1].toArray below meth c H locs 0 0 (MQ below (va_Qv (fun S' => InvM g ad S' ∧ (∀ j, j ∉ ([0, 14, 18] : List Nat) → S' j = S j)) (QB g ad 20) (FA ad 20)) [.ref (ad 0), .int a1].toArray s 0 0 (FA ad 20)) (F0 m 130 ls []) := by
              intro n
              induction n with
              | zero => intro S_130 H locs ls x130_2 Bx130_2 hn130_ hI hf130 hQ hl; exfalso; have := (Bx130_2).2; omega
              | succ n130_ ih130 =>
                intro S_130 H locs ls x130_2 Bx130_2 hn130_ hI hf130 hQ hl
                refine lv_iload_n hx hb dX12_rests_130 rfl (lv_at hl 0 rfl) ?_
                refine lv_aload_n hx hb dX12_rests_131 rfl (lv_at hl 1 rfl) ?_
                have c49 : S_130 0 = .inr (12, [.int v1, .ref (ad 1), .ref (ad 2), .ref (ad 3), .ref (ad 4), .ref (ad 5), .int v2, .int v4, .int v6, .int v8, .int v9, .long w10, .int v11, .int v13, .int v14, .int v15, .ref (ad 6), .ref (ad 7), .ref (ad 8), .ref (ad 9), .ref (ad 10), .ref (ad 11), .ref (ad 12), .ref (ad 13), .ref (ad 14), .ref (ad 15), .int v16, .int v18, .ref (ad 16), .int v20, .int v22, .int v24, .int v26, .int v27, .ref (ad 17), .ref (ad 18), .int v28, .ref (ad 19)]) := ((hf130 0 (by decide)).trans c29)
                refine xget E hQ 0 (by decide) c49 rfl 17 (by decide) q1485 rfl dX12_rests_132 ?_
                refine lv_bipush (v := 8) hx hb dX12_rests_135 (by decide) ?_
                have c50 : S_130 7 = .inl (g.2 0, 50, .inl f30) := ((hf130 7 (by decide)).trans c31)
                refine xiald E hQ 7 (by decide) c50 (vp_in_lit 8 50 (by decide)) dX12_rests_137 ?_
                refine sb_at (P := fun z => W _ _ _ _ _ _ _ _ _ _ _ _ _ _ _ (F0 _ _ _ (.int z :: _))) (show f30 (8 : Int32).toNatClampNeg = v33 from ee34) ?_
                refine lv_icmp_ge (tgt := 159) hx hb dX12_rests_138 (by decide) (fun k51 => ?_) (fun k51 => ?_)
                · have h52 := ib_le k51
                  refine lv_aload_n hx hb dX12_rests_159 rfl (lv_at hl 1 rfl) ?_
                  refine lv_dup hx hb dX12_rests_160 rfl ?_
                  refine xget E hQ 0 (by decide) c49 rfl 36 (by decide) q1504 rfl dX12_rests_161 ?_
                  refine lv_iconst (v := 1) hx hb dX12_rests_164 (by decide) ?_
                  refine lv_iadd hx hb dX12_rests_165 ?_
                  refine lv_topi (fun z53 e54 => ?_)
                  have t55 := ib_add e54 b48 (by decide : Bd 1 (1) (1)) (by decide) (by decide)
                  have b56 : Bd z53 (1) (1) := ib_addb t55 b48 (by decide : Bd 1 (1) (1))
                  have t55 : z53.toInt = v28.toInt + 1 := fold_add t55 rfl (by decide)
                  refine xputi E hs hQ 0 (by decide) c49 rfl 36 (by decide) q1504 rfl rfl (Nat.le_of_ble_eq_true rfl) dX12_rests_166 (fun H locs S57 eS57 hQ => ?_)
                  have hI := invM_up_0 hI eS57 ⟨v1, v2, v4, v6, v8, v9, w10, v11, v13, v14, v15, v16, v18, v20, v22, v24, v26, v27, z53, rfl, b3, b5, b7, b12, b17, b19, b21, b23, b25⟩
                  have c58 : S57 0 = .inr (12, [.int v1, .ref (ad 1), .ref (ad 2), .ref (ad 3), .ref (ad 4), .ref (ad 5), .int v2, .int v4, .int v6, .int v8, .int v9, .long w10, .int v11, .int v13, .int v14, .int v15, .ref (ad 6), .ref (ad 7), .ref (ad 8), .ref (ad 9), .ref (ad 10), .ref (ad 11), .ref (ad 12), .ref (ad 13), .ref (ad 14), .ref (ad 15), .int v16, .int v18, .ref (ad 16), .int v20, .int v22, .int v24, .int v26, .int v27, .ref (ad 17), .ref (ad 18), .int z53, .ref (ad 19)]) := up_at eS57 rfl
                  exact xrv E hr hlk hQ (⟨hI, (up_o (o_trans o_refl hf130 (by decide)) eS57 (by decide))⟩) dX12_rests_169
                · have h59 := ib_nle k51
                  have b60 : Bd x130_2 (0) (1) := ⟨(Bx130_2).1, ((rf_lt Bx130_2 b38 h59).1).2⟩
                  have b61 : Bd v33 (1) (2) := ⟨((rf_lt Bx130_2 b38 h59).2).1, (b38).2⟩
                  refine lv_aload_n hx hb dX12_rests_141 rfl (lv_at hl 1 rfl) ?_
                  refine xget E hQ 0 (by decide) c49 rfl 35 (by decide) q1503 rfl dX12_rests_142 ?_
                  refine lv_iload_n hx hb dX12_rests_145 rfl (lv_at hl 0 rfl) ?_
                  refine lv_aload_n hx hb dX12_rests_146 rfl (lv_at hl 1 rfl) ?_
                  refine xget E hQ 0 (by decide) c49 rfl 24 (by decide) q1492 rfl dX12_rests_147 ?_
                  refine lv_iload_n hx hb dX12_rests_150 rfl (lv_at hl 0 rfl) ?_
                  obtain ⟨f62, c63, b64⟩ := invM_14 hI
                  refine xiald E hQ 14 (by decide) c63 (ib_in b60 (by decide) (by decide)) dX12_rests_151 ?_
                  refine lv_topi (fun z65 e66 => ?_)
                  have b67 : Bd z65 (0) (11) := (by rw [e66]; exact b64 _)
                  obtain ⟨f68, c69⟩ := invM_18 hI
                  refine xiast E hs hQ 18 (by decide) c69 (ib_in b60 (by decide) (by decide)) dX12_rests_152 (fun H locs S71 eS71 hQ => ?_)
                  have hI := invM_up_18 hI eS71 ⟨_, rfl⟩
                  have c72 : S71 18 = .inl (g.2 0, 3, .inl (upd f68 (x130_2 : Int32).toNatClampNeg z65)) := up_at eS71 rfl
                  obtain ⟨z73, e74⟩ : ∃ z : Int32, z = x130_2 + 1 := ⟨_, rfl⟩
                  have t75 := ib_add e74 b60 (by decide : Bd 1 (1) (1)) (by decide) (by decide)
                  have b76 : Bd z73 (1) (2) := ib_addb t75 b60 (by decide : Bd 1 (1) (1))
                  have t75 : z73.toInt = x130_2.toInt + 1 := fold_add t75 rfl (by decide)
                  refine lv_iinc (v := z73) (lv' := [(2, .int z73), (0, .ref (ad 0)), (1, .int a1)]) hx hb dX12_rests_153 hl (k := 0) rfl (by rw [e74]; rfl) (by decide) rfl (fun ls hl => ?_)
                  refine lv_goto (tgt := 130) hx hb dX12_rests_156 (by decide) ?_
                  exact ih130 _ _ _ _ z73 (ib_wk b76 (by decide) (by decide)) (by omega) hI (up_o hf130 eS71 (by decide)) hQ (lv_sub hl [0, 1, 2] rfl)
            obtain ⟨n130, hn130⟩ := fu_n (2)
            exact loop130 n130 _ _ _ _ 0 (ib_wk (by decide : Bd 0 (0) (0)) (by decide) (by decide)) (by have : (0 : Int32).toInt = 0 := (by decide); omega) hI o_refl hQ (lv_sub hl [0, 1, 2] rfl)
        · have h77 := ib_nle k39
          have b78 : Bd x57_2 (0) (1) := ⟨(Bx57_2).1, ((rf_lt Bx57_2 b38 h77).1).2⟩
          have b79 : Bd v33 (1) (2) := ⟨((rf_lt Bx57_2 b38 h77).2).1, (b38).2⟩
          refine lv_iconst (v := 0) hx hb dX12_rests_68 (by decide) ?_
          refine lv_istore_n (lv' := [(3, .int 0), (2, .int x57_2), (0, .ref (ad 0)), (1, .int a1)]) hx hb dX12_rests_69 rfl hl (by decide) rfl (fun ls hl => ?_)
          have loop70 : ∀ (n : Nat) (H : Heap) (locs : List Loc) (ls : Array Slot) (x70_3 : Int32), Bd x70_3 (0) (12) → (-1) * x70_3.toInt + 12 < ((n : Nat) : Int) → Hp g ad 20 S (FA ad 20) s.heap H locs → lv_has ls 4 [(3, .int x70_3), (2, .int x57_2), (0, .ref (ad 0)), (1, .int a1)] → W p l e (Rm 3) s m [.ref (ad 0), .int a1].toArray below meth c H locs 0 0 (MQ below (va_Qv (fun S' => InvM g ad S' ∧ (∀ j, j ∉ ([0, 14, 18] : List Nat) → S' j = S j)) (QB g ad 20) (FA ad 20)) [.ref (ad 0), .int a1].toArray s 0 0 (FA ad 20)) (F0 m 70 ls []) := by
            intro n
            induction n with
            | zero => intro H locs ls x70_3 Bx70_3 hn70_ hQ hl; exfalso; have := (Bx70_3).2; omega
            | succ n70_ ih70 =>
              intro H locs ls x70_3 Bx70_3 hn70_ hQ hl
              refine lv_iload_n hx hb dX12_rests_70 rfl (lv_at hl 0 rfl) ?_
              refine lv_aload_n hx hb dX12_rests_71 rfl (lv_at hl 2 rfl) ?_
              refine xget E hQ 0 (by decide) c29 rfl 17 (by decide) q1485 rfl dX12_rests_72 ?_
              refine lv_iconst (v := 0) hx hb dX12_rests_75 (by decide) ?_
              refine xiald E hQ 7 (by decide) c31 (vp_in_lit 0 50 (by decide)) dX12_rests_76 ?_
              obtain ⟨v80, ee81⟩ : ∃ z : Int32, f30 0 = z := ⟨_, rfl⟩
              have b82 : Bd v80 (0) (12) := (by rw [← ee81]; exact b32.1 0 (by decide))
              refine sb_at (P := fun z => W _ _ _ _ _ _ _ _ _ _ _ _ _ _ _ (F0 _ _ _ (.int z :: _))) (show f30 (0 : Int32).toNatClampNeg = v80 from ee81) ?_
              refine lv_icmp_ge (tgt := 115) hx hb dX12_rests_77 (by decide) (fun k83 => ?_) (fun k83 => ?_)
              · have h84 := ib_le k83
                obtain ⟨z85, e86⟩ : ∃ z : Int32, z = x57_2 + 1 := ⟨_, rfl⟩
                have t87 := ib_add e86 b78 (by decide : Bd 1 (1) (1)) (by decide) (by decide)
                have b88 : Bd z85 (1) (2) := ib_addb t87 b78 (by decide : Bd 1 (1) (1))
                have t87 : z85.toInt = x57_2.toInt + 1 := fold_add t87 rfl (by decide)
                refine lv_iinc (v := z85) (lv' := [(2, .int z85), (3, .int x70_3), (0, .ref (ad 0)), (1, .int a1)]) hx hb dX12_rests_115 hl (k := 1) rfl (by rw [e86]; rfl) (by decide) rfl (fun ls hl => ?_)
                refine lv_goto (tgt := 57) hx hb dX12_rests_118 (by decide) ?_
                exact ih57 _ _ _ z85 (ib_wk b88 (by decide) (by decide)) (by omega) hQ (lv_sub hl [0, 2, 3] rfl)
              · have h89 := ib_nle k83
                have b90 : Bd x70_3 (0) (11) := ⟨(Bx70_3).1, ((rf_lt Bx70_3 b82 h89).1).2⟩
                have b91 : Bd v80 (1) (12) := ⟨((rf_lt Bx70_3 b82 h89).2).1, (b82).2⟩
                refine lv_aload_n hx hb dX12_rests_80 rfl (lv_at hl 2 rfl) ?_
                refine lv_iload_n hx hb dX12_rests_81 rfl (lv_at hl 0 rfl) ?_
                refine xcVi E hs hQ hml hl.1 0 (gX12_isBeach_0 l g ad hD S hI x70_3) mX12_isBeach q1755 (by decide) c29 rfl rfl ⟨(Nat.le_of_ble_eq_true rfl), (Nat.le_of_ble_eq_true rfl)⟩ ⟨(Nat.le_of_ble_eq_true rfl), (Nat.le_of_ble_eq_true rfl)⟩ (Nat.le_of_ble_eq_true rfl) rfl dX12_rests_82 (fun r92 S92 H locs hp92 hQ _ => ?_)
                obtain ⟨rfl, b92, fg92⟩ := hp92
                refine lv_if_eq (tgt := 109) hx hb dX12_rests_85 (by decide) (fun k93 => ?_) (fun k93 => ?_)
                · have h94 := ib_eq k93
                  have b95 : Bd r92 (0) (0) := ⟨(b92).1, ((rf_eq b92 (by decide : Bd 0 (0) (0)) h94).1).2⟩
                  obtain ⟨z96, e97⟩ : ∃ z : Int32, z = x70_3 + 1 := ⟨_, rfl⟩
                  have t98 := ib_add e97 b90 (by decide : Bd 1 (1) (1)) (by decide) (by decide)
                  have b99 : Bd z96 (1) (12) := ib_addb t98 b90 (by decide : Bd 1 (1) (1))
                  have t98 : z96.toInt = x70_3.toInt + 1 := fold_add t98 rfl (by decide)
                  refine lv_iinc (v := z96) (lv' := [(3, .int z96), (2, .int x57_2), (0, .ref (ad 0)), (1, .int a1)]) hx hb dX12_rests_109 hl (k := 0) rfl (by rw [e97]; rfl) (by decide) rfl (fun ls hl => ?_)
                  refine lv_goto (tgt := 70) hx hb dX12_rests_112 (by decide) ?_
                  exact ih70 _ _ _ z96 (ib_wk b99 (by decide) (by decide)) (by omega) hQ (lv_sub hl [0, 1, 2, 3] rfl)
                · have h100 := ib_ne k93
                  have b101 : Bd r92 (1) (1) := rf_nlo b92 (by decide : Bd 0 (0) (0)) h100
                  refine lv_aload_n hx hb dX12_rests_88 rfl (lv_at hl 2 rfl) ?_
                  refine lv_iload_n hx hb dX12_rests_89 rfl (lv_at hl 1 rfl) ?_
                  refine lv_iload_n hx hb dX12_rests_90 rfl (lv_at hl 0 rfl) ?_
                  refine xcVi E hs hQ hml hl.1 0 (gX12_seatOf_0 l g ad hD S hI x57_2 x70_3 (ib_wk b78 (by decide) (by decide)) b90) mX12_seatOf q2062 (by decide) c29 rfl rfl ⟨(Nat.le_of_ble_eq_true rfl), (Nat.le_of_ble_eq_true rfl)⟩ ⟨(Nat.le_of_ble_eq_true rfl), (Nat.le_of_ble_eq_true rfl)⟩ (Nat.le_of_ble_eq_true rfl) rfl dX12_rests_91 (fun r102 S102 H locs hp102 hQ _ => ?_)
                  subst hp102
                  refine lv_aload_n hx hb dX12_rests_94 rfl (lv_at hl 2 rfl) ?_
                  refine lv_iload_n hx hb dX12_rests_95 rfl (lv_at hl 1 rfl) ?_
                  refine lv_aload_n hx hb dX12_rests_96 rfl (lv_at hl 2 rfl) ?_
                  refine xget E hQ 0 (by decide) c29 rfl 24 (by decide) q1492 rfl dX12_rests_97 ?_
                  refine lv_iload_n hx hb dX12_rests_100 rfl (lv_at hl 1 rfl) ?_
                  obtain ⟨f103, c104, b105⟩ := invM_14 hI
                  refine xiald E hQ 14 (by decide) c104 (ib_in b78 (by decide) (by decide)) dX12_rests_101 ?_
                  refine lv_topi (fun z106 e107 => ?_)
                  have b108 : Bd z106 (0) (11) := (by rw [e107]; exact b105 _)
                  refine xcVi E hs hQ hml hl.1 0 (gX12_seatOf_0 l g ad hD S hI x57_2 z106 (ib_wk b78 (by decide) (by decide)) b108) mX12_seatOf q2062 (by decide) c29 rfl rfl ⟨(Nat.le_of_ble_eq_true rfl), (Nat.le_of_ble_eq_true rfl)⟩ ⟨(Nat.le_of_ble_eq_true rfl), (Nat.le_of_ble_eq_true rfl)⟩ (Nat.le_of_ble_eq_true rfl) rfl dX12_rests_102 (fun r109 S109 H locs hp109 hQ _ => ?_)
                  subst hp109
                  refine lv_icmp_le (tgt := 109) hx hb dX12_rests_105 (by decide) (fun k110 => ?_) (fun k110 => ?_)
                  · have h111 := ib_le k110
                    obtain ⟨z112, e113⟩ : ∃ z : Int32, z = x70_3 + 1 := ⟨_, rfl⟩
                    have t114 := ib_add e113 b90 (by decide : Bd 1 (1) (1)) (by decide) (by decide)
                    have b115 : Bd z112 (1) (12) := ib_addb t114 b90 (by decide : Bd 1 (1) (1))
                    have t114 : z112.toInt = x70_3.toInt + 1 := fold_add t114 rfl (by decide)
                    refine lv_iinc (v := z112) (lv' := [(3, .int z112), (2, .int x57_2), (0, .ref (ad 0)), (1, .int a1)]) hx hb dX12_rests_109 hl (k := 0) rfl (by rw [e113]; rfl) (by decide) rfl (fun ls hl => ?_)
                    refine lv_goto (tgt := 70) hx hb dX12_rests_112 (by decide) ?_
                    exact ih70 _ _ _ z112 (ib_wk b115 (by decide) (by decide)) (by omega) hQ (lv_sub hl [0, 1, 2, 3] rfl)
                  · have h116 := ib_nle k110
                    have b117 : Bd r109 (-2147483648) (2147483646) := ⟨((ib_full r109)).1, ((rf_lt (ib_full r109) (ib_full r102) h116).1).2⟩
                    have b118 : Bd r102 (-2147483647) (2147483647) := ⟨((rf_lt (ib_full r109) (ib_full r102) h116).2).1, ((ib_full r102)).2⟩
                    exact xrv E hr hlk hQ (⟨hI, o_refl⟩) dX12_rests_108
          obtain ⟨n70, hn70⟩ := fu_n (12)
          exact loop70 n70 _ _ _ 0 (ib_wk (by decide : Bd 0 (0) (0)) (by decide) (by decide)) (by have : (0 : Int32).toInt = 0 := (by decide); omega) hQ (lv_sub hl [0, 1, 2, 3] rfl)
    obtain ⟨n57, hn57⟩ := fu_n (2)
    exact loop57 n57 _ _ _ 0 (ib_wk (by decide : Bd 0 (0) (0)) (by decide) (by decide)) (by have : (0 : Int32).toInt = 0 := (by decide); omega) hQ (lv_sub hl [0, 1, 2] rfl)
  · have h119 := ib_nle k36
    have b120 : Bd v33 (3) (3) := ⟨((rf_lt ba1 b35 h119).2).1, (b35).2⟩
    refine lv_iconst (v := 0) hx hb dX12_rests_11 (by decide) ?_
    refine lv_istore_n (lv' := [(2, .int 0), (0, .ref (ad 0)), (1, .int a1)]) hx hb dX12_rests_12 rfl hl (by decide) rfl (fun ls hl => ?_)
    have loop13 : ∀ (n : Nat) (S_13 : SS) (H : Heap) (locs : List Loc) (ls : Array Slot) (x13_2 : Int32) (y13_0_0 : Int32) (y13_0_6 : Int32) (y13_0_7 : Int32) (y13_0_8 : Int32) (y13_0_9 : Int32) (y13_0_10 : Int32) (wy13_0_11 : Int64) (y13_0_12 : Int32) (y13_0_13 : Int32) (y13_0_14 : Int32) (y13_0_15 : Int32) (y13_0_26 : Int32) (y13_0_27 : Int32) (y13_0_29 : Int32) (y13_0_30 : Int32) (y13_0_31 : Int32) (y13_0_32 : Int32) (y13_0_33 : Int32) (y13_0_36 : Int32), Bd x13_2 (0) (12) → Bd y13_0_6 (0) (1200) → Bd y13_0_7 (0) (1200) → Bd y13_0_8 (0) (4) → Bd y13_0_12 (0) (3) → Bd y13_0_26 (0) (11) → Bd y13_0_27 (-1) (400) → Bd y13_0_29 (0) (2) → Bd y13_0_30 (0) (11) → Bd y13_0_31 (-1) (468) → (-1) * x13_2.toInt + 12 < ((n : Nat) : Int) → InvM g ad S_13 → (∀ j, j ∉ ([0, 14, 18] : List Nat) → S_13 j = S j) → S_13 0 = .inr (12, [.int y13_0_0, .ref (ad 1), .ref (ad 2), .ref (ad 3), .ref (ad 4), .ref (ad 5), .int y13_0_6, .int y13_0_7, .int y13_0_8, .int y13_0_9, .int y13_0_10, .long wy13_0_11, .int y13_0_12, .int y13_0_13, .int y13_0_14, .int y13_0_15, .ref (ad 6), .ref (ad 7), .ref (ad 8), .ref (ad 9), .ref (ad 10), .ref (ad 11), .ref (ad 12), .ref (ad 13), .ref (ad 14), .ref (ad 15), .int y13_0_26, .int y13_0_27, .ref (ad 16), .int y13_0_29, .int y13_0_30, .int y13_0_31, .int y13_0_32, .int y13_0_33, .ref (ad 17), .ref (ad 18), .int y13_0_36, .ref (ad 19)]) → Hp g ad 20 S_13 (FA ad 20) s.heap H locs → lv_has ls 4 [(2, .int x13_2), (0, .ref (ad 0)), (1, .int a1)] → W p l e (Rm 3) s m [.ref (ad 0), .int a1].toArray below meth c H locs 0 0 (MQ below (va_Qv (fun S' => InvM g ad S' ∧ (∀ j, j ∉ ([0, 14, 18] : List Nat) → S' j = S j)) (QB g ad 20) (FA ad 20)) [.ref (ad 0), .int a1].toArray s 0 0 (FA ad 20)) (F0 m 13 ls []) := by
      intro n
      induction n with
      | zero => intro S_13 H locs ls x13_2 y13_0_0 y13_0_6 y13_0_7 y13_0_8 y13_0_9 y13_0_10 wy13_0_11 y13_0_12 y13_0_13 y13_0_14 y13_0_15 y13_0_26 y13_0_27 y13_0_29 y13_0_30 y13_0_31 y13_0_32 y13_0_33 y13_0_36 Bx13_2 By13_0_6 By13_0_7 By13_0_8 By13_0_12 By13_0_26 By13_0_27 By13_0_29 By13_0_30 By13_0_31 hn13_ hI hf13 cl13_0 hQ hl; exfalso; have := (Bx13_2).2; omega
      | succ n13_ ih13 =>
        intro S_13 H locs ls x13_2 y13_0_0 y13_0_6 y13_0_7 y13_0_8 y13_0_9 y13_0_10 wy13_0_11 y13_0_12 y13_0_13 y13_0_14 y13_0_15 y13_0_26 y13_0_27 y13_0_29 y13_0_30 y13_0_31 y13_0_32 y13_0_33 y13_0_36 Bx13_2 By13_0_6 By13_0_7 By13_0_8 By13_0_12 By13_0_26 By13_0_27 By13_0_29 By13_0_30 By13_0_31 hn13_ hI hf13 cl13_0 hQ hl
        refine lv_iload_n hx hb dX12_rests_13 rfl (lv_at hl 0 rfl) ?_
        refine lv_aload_n hx hb dX12_rests_14 rfl (lv_at hl 1 rfl) ?_
        refine xget E hQ 0 (by decide) cl13_0 rfl 17 (by decide) q1485 rfl dX12_rests_15 ?_
        refine lv_iconst (v := 0) hx hb dX12_rests_18 (by decide) ?_
        have c121 : S_13 7 = .inl (g.2 0, 50, .inl f30) := ((hf13 7 (by decide)).trans c31)
        refine xiald E hQ 7 (by decide) c121 (vp_in_lit 0 50 (by decide)) dX12_rests_19 ?_
        obtain ⟨v122, ee123⟩ : ∃ z : Int32, f30 0 = z := ⟨_, rfl⟩
        have b124 : Bd v122 (0) (12) := (by rw [← ee123]; exact b32.1 0 (by decide))
        refine sb_at (P := fun z => W _ _ _ _ _ _ _ _ _ _ _ _ _ _ _ (F0 _ _ _ (.int z :: _))) (show f30 (0 : Int32).toNatClampNeg = v122 from ee123) ?_
        refine lv_icmp_ge (tgt := 54) hx hb dX12_rests_20 (by decide) (fun k125 => ?_) (fun k125 => ?_)
        · have h126 := ib_le k125
          exact xrv E hr hlk hQ (⟨hI, (o_trans o_refl hf13 (by decide))⟩) dX12_rests_54
        · have h127 := ib_nle k125
          have b128 : Bd x13_2 (0) (11) := ⟨(Bx13_2).1, ((rf_lt Bx13_2 b124 h127).1).2⟩
          have b129 : Bd v122 (1) (12) := ⟨((rf_lt Bx13_2 b124 h127).2).1, (b124).2⟩
          refine lv_aload_n hx hb dX12_rests_23 rfl (lv_at hl 1 rfl) ?_
          refine lv_iload_n hx hb dX12_rests_24 rfl (lv_at hl 0 rfl) ?_
          refine xcVi E hs hQ hml hl.1 0 (gX12_isBeach_0 l g ad hD S_13 hI x13_2) mX12_isBeach q1755 (by decide) cl13_0 rfl rfl ⟨(Nat.le_of_ble_eq_true rfl), (Nat.le_of_ble_eq_true rfl)⟩ ⟨(Nat.le_of_ble_eq_true rfl), (Nat.le_of_ble_eq_true rfl)⟩ (Nat.le_of_ble_eq_true rfl) rfl dX12_rests_25 (fun r130 S130 H locs hp130 hQ _ => ?_)
          obtain ⟨rfl, b130, fg130⟩ := hp130
          refine lv_if_ne (tgt := 34) hx hb dX12_rests_28 (by decide) (fun k131 => ?_) (fun k131 => ?_)
          · have h132 := ib_ne k131
            have b133 : Bd r130 (1) (1) := rf_nlo b130 (by decide : Bd 0 (0) (0)) h132
            refine lv_aload_n hx hb dX12_rests_34 rfl (lv_at hl 1 rfl) ?_
            refine xget E hQ 0 (by decide) cl13_0 rfl 24 (by decide) q1492 rfl dX12_rests_35 ?_
            refine lv_iload_n hx hb dX12_rests_38 rfl (lv_at hl 2 rfl) ?_
            refine lv_iload_n hx hb dX12_rests_39 rfl (lv_at hl 0 rfl) ?_
            obtain ⟨f134, c135, b136⟩ := invM_14 hI
            refine xiast E hs hQ 14 (by decide) c135 (ib_in ba1 (by decide) (by decide)) dX12_rests_40 (fun H locs S137 eS137 hQ => ?_)
            have hI := invM_up_14 hI eS137 ⟨_, rfl, upd_b b136 b128⟩
            have b139 : ∀ j, Bd ((upd f134 (a1 : Int32).toNatClampNeg x13_2) j) (0) (11) := upd_b b136 b128
            have c138 : S137 14 = .inl (g.2 0, 3, .inl (upd f134 (a1 : Int32).toNatClampNeg x13_2)) := up_at eS137 rfl
            refine lv_aload_n hx hb dX12_rests_41 rfl (lv_at hl 1 rfl) ?_
            refine lv_iload_n hx hb dX12_rests_42 rfl (lv_at hl 2 rfl) ?_
            refine lv_iconst (v := 1) hx hb dX12_rests_43 (by decide) ?_
            refine lv_iadd hx hb dX12_rests_44 ?_
            refine lv_topi (fun z140 e141 => ?_)
            have t142 := ib_add e141 ba1 (by decide : Bd 1 (1) (1)) (by decide) (by decide)
            have b143 : Bd z140 (3) (3) := ib_addb t142 ba1 (by decide : Bd 1 (1) (1))
            have t142 : z140.toInt = a1.toInt + 1 := fold_add t142 rfl (by decide)
            have c145 : S137 0 = .inr (12, [.int y13_0_0, .ref (ad 1), .ref (ad 2), .ref (ad 3), .ref (ad 4), .ref (ad 5), .int y13_0_6, .int y13_0_7, .int y13_0_8, .int y13_0_9, .int y13_0_10, .long wy13_0_11, .int y13_0_12, .int y13_0_13, .int y13_0_14, .int y13_0_15, .ref (ad 6), .ref (ad 7), .ref (ad 8), .ref (ad 9), .ref (ad 10), .ref (ad 11), .ref (ad 12), .ref (ad 13), .ref (ad 14), .ref (ad 15), .int y13_0_26, .int y13_0_27, .ref (ad 16), .int y13_0_29, .int y13_0_30, .int y13_0_31, .int y13_0_32, .int y13_0_33, .ref (ad 17), .ref (ad 18), .int y13_0_36, .ref (ad 19)]) := (up_ne eS137 (by decide) cl13_0)
            refine xcVv E hs hQ hml hl.1 0 (gX12_rests_3 l g ad hD S137 hI z140 b143) mX12_rests q2082 (by decide) c145 rfl rfl ⟨(Nat.le_of_ble_eq_true rfl), (Nat.le_of_ble_eq_true rfl)⟩ ⟨(Nat.le_of_ble_eq_true rfl), (Nat.le_of_ble_eq_true rfl)⟩ (Nat.le_of_ble_eq_true rfl) rfl dX12_rests_45 (fun S144 H locs hp144 hQ _ => ?_)
            obtain ⟨hI, o144⟩ := hp144
            obtain ⟨z146, e147⟩ : ∃ z : Int32, z = x13_2 + 1 := ⟨_, rfl⟩
            have t148 := ib_add e147 b128 (by decide : Bd 1 (1) (1)) (by decide) (by decide)
            have b149 : Bd z146 (1) (12) := ib_addb t148 b128 (by decide : Bd 1 (1) (1))
            have t148 : z146.toInt = x13_2.toInt + 1 := fold_add t148 rfl (by decide)
            refine lv_iinc (v := z146) (lv' := [(2, .int z146), (0, .ref (ad 0)), (1, .int a1)]) hx hb dX12_rests_48 hl (k := 0) rfl (by rw [e147]; rfl) (by decide) rfl (fun ls hl => ?_)
            refine lv_goto (tgt := 13) hx hb dX12_rests_51 (by decide) ?_
            obtain ⟨v150, v151, v153, v155, v157, v158, w159, v160, v162, v163, v164, v165, v167, v169, v171, v173, v175, v176, v177, c178, b152, b154, b156, b161, b166, b168, b170, b172, b174⟩ := invM_0 hI
            have c178 : S144 0 = .inr (12, [.int v150, .ref (ad 1), .ref (ad 2), .ref (ad 3), .ref (ad 4), .ref (ad 5), .int v151, .int v153, .int v155, .int v157, .int v158, .long w159, .int v160, .int v162, .int v163, .int v164, .ref (ad 6), .ref (ad 7), .ref (ad 8), .ref (ad 9), .ref (ad 10), .ref (ad 11), .ref (ad 12), .ref (ad 13), .ref (ad 14), .ref (ad 15), .int v165, .int v167, .ref (ad 16), .int v169, .int v171, .int v173, .int v175, .int v176, .ref (ad 17), .ref (ad 18), .int v177, .ref (ad 19)]) := c178
            exact ih13 _ _ _ _ z146 v150 v151 v153 v155 v157 v158 w159 v160 v162 v163 v164 v165 v167 v169 v171 v173 v175 v176 v177 (ib_wk b149 (by decide) (by decide)) b152 b154 b156 b161 b166 b168 b170 b172 b174 (by omega) hI (o_trans (up_o hf13 eS137 (by decide)) o144 (by decide)) c178 hQ (lv_sub hl [0, 1, 2] rfl)
          · have h179 := ib_eq k131
            have b180 : Bd r130 (0) (0) := ⟨(b130).1, ((rf_eq b130 (by decide : Bd 0 (0) (0)) h179).1).2⟩
            refine lv_goto (tgt := 48) hx hb dX12_rests_31 (by decide) ?_
            obtain ⟨z181, e182⟩ : ∃ z : Int32, z = x13_2 + 1 := ⟨_, rfl⟩
            have t183 := ib_add e182 b128 (by decide : Bd 1 (1) (1)) (by decide) (by decide)
            have b184 : Bd z181 (1) (12) := ib_addb t183 b128 (by decide : Bd 1 (1) (1))
            have t183 : z181.toInt = x13_2.toInt + 1 := fold_add t183 rfl (by decide)
            refine lv_iinc (v := z181) (lv' := [(2, .int z181), (0, .ref (ad 0)), (1, .int a1)]) hx hb dX12_rests_48 hl (k := 0) rfl (by rw [e182]; rfl) (by decide) rfl (fun ls hl => ?_)
            refine lv_goto (tgt := 13) hx hb dX12_rests_51 (by decide) ?_
            exact ih13 _ _ _ _ z181 y13_0_0 y13_0_6 y13_0_7 y13_0_8 y13_0_9 y13_0_10 wy13_0_11 y13_0_12 y13_0_13 y13_0_14 y13_0_15 y13_0_26 y13_0_27 y13_0_29 y13_0_30 y13_0_31 y13_0_32 y13_0_33 y13_0_36 (ib_wk b184 (by decide) (by decide)) By13_0_6 By13_0_7 By13_0_8 By13_0_12 By13_0_26 By13_0_27 By13_0_29 By13_0_30 By13_0_31 (by omega) hI hf13 cl13_0 hQ (lv_sub hl [0, 1, 2] rfl)
    obtain ⟨n13, hn13⟩ := fu_n (12)
    exact loop13 n13 _ _ _ _ 0 v1 v2 v4 v6 v8 v9 w10 v11 v13 v14 v15 v16 v18 v20 v22 v24 v26 v27 v28 (ib_wk (by decide : Bd 0 (0) (0)) (by decide) (by decide)) b3 b5 b7 b12 b17 b19 b21 b23 b25 (by have : (0 : Int32).toInt = 0 := (by decide); omega) hI o_refl c29 hQ (lv_sub hl [0, 1, 2] rfl)
set_option maxHeartbeats 4000000 in
set_option maxRecDepth 100000 in
theorem gX12_rests_1 (l : Launch) (g : GG) (ad : Nat → Nat) (hD : Dj ad 20) (S : SS) (hI : InvM g ad S) (a1 : Int32) (ba1 : Bd a1 (1) (1)) : Met l yX12_rests (wG (.code yX12_rests cX12_rests 4 none)) (Rm 4) (XPre g ad 20 S [.ref (ad 0), .int a1]) (va_Qv (fun S' => InvM g ad S' ∧ (∀ j, j ∉ ([0, 14, 18] : List Nat) → S' j = S j)) (QB g ad 20) (FA ad 20)) 0 0 (FA ad 20) := by
  refine xmet cX12_rests "EbbWreckModel" (by decide) rfl (Nat.le_of_ble_eq_true rfl) (fun p e s m below meth c E hr hlk hml hQ ls hl => ?_)
  have hx := E.1
  have hb := E.2.1
  have hs : Sp ad 20 (FA ad 20) := Sp.fa hD
  have hl : lv_has ls 4 [(0, .ref (ad 0)), (1, .int a1)] := hl
  refine lv_iload_n hx hb dX12_rests_0 rfl (lv_at hl 1 rfl) ?_
  refine lv_aload_n hx hb dX12_rests_1 rfl (lv_at hl 0 rfl) ?_
  obtain ⟨v1, v2, v4, v6, v8, v9, w10, v11, v13, v14, v15, v16, v18, v20, v22, v24, v26, v27, v28, c29, b3, b5, b7, b12, b17, b19, b21, b23, b25⟩ := invM_0 hI
  have c29 : S 0 = .inr (12, [.int v1, .ref (ad 1), .ref (ad 2), .ref (ad 3), .ref (ad 4), .ref (ad 5), .int v2, .int v4, .int v6, .int v8, .int v9, .long w10, .int v11, .int v13, .int v14, .int v15, .ref (ad 6), .ref (ad 7), .ref (ad 8), .ref (ad 9), .ref (ad 10), .ref (ad 11), .ref (ad 12), .ref (ad 13), .ref (ad 14), .ref (ad 15), .int v16, .int v18, .ref (ad 16), .int v20, .int v22, .int v24, .int v26, .int v27, .ref (ad 17), .ref (ad 18), .int v28, .ref (ad 19)]) := c29
  refine xget E hQ 0 (by decide) c29 rfl 17 (by decide) q1485 rfl dX12_rests_2 ?_
  refine lv_bipush (v := 8) hx hb dX12_rests_5 (by decide) ?_
  obtain ⟨f30, c31, b32⟩ := invM_7 hI
  refine xiald E hQ 7 (by decide) c31 (vp_in_lit 8 50 (by decide)) dX12_rests_7 ?_
  obtain ⟨v33, ee34⟩ : ∃ z : Int32, f30 8 = z := ⟨_, rfl⟩
  have b35 : Bd v33 (0) (3) := (by rw [← ee34]; exact b32.2.2.2.2.2.2.1 8 (by decide))
  refine sb_at (P := fun z => W _ _ _ _ _ _ _ _ _ _ _ _ _ _ _ (F0 _ _ _ (.int z :: _))) (show f30 (8 : Int32).toNatClampNeg = v33 from ee34) ?_
  refine lv_icmp_ge (tgt := 55) hx hb dX12_rests_8 (by decide) (fun k36 => ?_) (fun k36 => ?_)
  · have h37 := ib_le k36
    have b38 : Bd v33 (0) (1) := ⟨(b35).1, ((rf_le b35 ba1 h37).1).2⟩
    refine lv_iconst (v := 0) hx hb dX12_rests_55 (by decide) ?_
    refine lv_istore_n (lv' := [(2, .int 0), (0, .ref (ad 0)), (1, .int a1)]) hx hb dX12_rests_56 rfl hl (by decide) rfl (fun ls hl => ?_)
    have loop57 : ∀ (n : Nat) (H : Heap) (locs : List Loc) (ls : Array Slot) (x57_2 : Int32), Bd x57_2 (0) (1) → (-1) * x57_2.toInt + 1 < ((n : Nat) : Int) → Hp g ad 20 S (FA ad 20) s.heap H locs → lv_has ls 4 [(2, .int x57_2), (0, .ref (ad 0)), (1, .int a1)] → W p l e (Rm 4) s m [.ref (ad 0), .int a1].toArray below meth c H locs 0 0 (MQ below (va_Qv (fun S' => InvM g ad S' ∧ (∀ j, j ∉ ([0, 14, 18] : List Nat) → S' j = S j)) (QB g ad 20) (FA ad 20)) [.ref (ad 0), .int a1].toArray s 0 0 (FA ad 20)) (F0 m 57 ls []) := by
      intro n
      induction n with
      | zero => intro H locs ls x57_2 Bx57_2 hn57_ hQ hl; exfalso; have := (Bx57_2).2; omega
      | succ n57_ ih57 =>
        intro H locs ls x57_2 Bx57_2 hn57_ hQ hl
        refine lv_iload_n hx hb dX12_rests_57 rfl (lv_at hl 0 rfl) ?_
        refine lv_aload_n hx hb dX12_rests_58 rfl (lv_at hl 1 rfl) ?_
        refine xget E hQ 0 (by decide) c29 rfl 17 (by decide) q1485 rfl dX12_rests_59 ?_
        refine lv_bipush (v := 8) hx hb dX12_rests_62 (by decide) ?_
        refine xiald E hQ 7 (by decide) c31 (vp_in_lit 8 50 (by decide)) dX12_rests_64 ?_
        refine sb_at (P := fun z => W _ _ _ _ _ _ _ _ _ _ _ _ _ _ _ (F0 _ _ _ (.int z :: _))) (show f30 (8 : Int32).toNatClampNeg = v33 from ee34) ?_
        refine lv_icmp_ge (tgt := 121) hx hb dX12_rests_65 (by decide) (fun k39 => ?_) (fun k39 => ?_)
        · have h40 := ib_le k39
          refine lv_aload_n hx hb dX12_rests_121 rfl (lv_at hl 1 rfl) ?_
          refine xget E hQ 0 (by decide) c29 rfl 36 (by decide) q1504 rfl dX12_rests_122 ?_
          refine lv_if_ne (tgt := 159) hx hb dX12_rests_125 (by decide) (fun k41 => ?_) (fun k41 => ?_)
          · have h42 := ib_ne k41
            refine lv_aload_n hx hb dX12_rests_159 rfl (lv_at hl 1 rfl) ?_
            refine lv_dup hx hb dX12_rests_160 rfl ?_
            refine xget E hQ 0 (by decide) c29 rfl 36 (by decide) q1504 rfl dX12_rests_161 ?_
            refine lv_iconst (v := 1) hx hb dX12_rests_164 (by decide) ?_
            refine lv_iadd hx hb dX12_rests_165 ?_
            refine lv_topi (fun z43 e44 => ?_)
            refine xputi E hs hQ 0 (by decide) c29 rfl 36 (by decide) q1504 rfl rfl (Nat.le_of_ble_eq_true rfl) dX12_rests_166 (fun H locs S45 eS45 hQ => ?_)
            have hI := invM_up_0 hI eS45 ⟨v1, v2, v4, v6, v8, v9, w10, v11, v13, v14, v15, v16, v18, v20, v22, v24, v26, v27, z43, rfl, b3, b5, b7, b12, b17, b19, b21, b23, b25⟩
            have c46 : S45 0 = .inr (12, [.int v1, .ref (ad 1), .ref (ad 2), .ref (ad 3), .ref (ad 4), .ref (ad 5), .int v2, .int v4, .int v6, .int v8, .int v9, .long w10, .int v11, .int v13, .int v14, .int v15, .ref (ad 6), .ref (ad 7), .ref (ad 8), .ref (ad 9), .ref (ad 10), .ref (ad 11), .ref (ad 12), .ref (ad 13), .ref (ad 14), .ref (ad 15), .int v16, .int v18, .ref (ad 16), .int v20, .int v22, .int v24, .int v26, .int v27, .ref (ad 17), .ref (ad 18), .int z43, .ref (ad 19)]) := up_at eS45 rfl
            exact xrv E hr hlk hQ (⟨hI, (up_o o_refl eS45 (by decide))⟩) dX12_rests_169
          · have h47 := ib_eq k41
            have b48 : Bd v28 (0) (0) := ⟨((rf_eq (ib_full v28) (by decide : Bd 0 (0) (0)) h47).1).1, ((rf_eq (ib_full v28) (by decide : Bd 0 (0) (0)) h47).1).2⟩
            refine lv_iconst (v := 0) hx hb dX12_rests_128 (by decide) ?_
            refine lv_istore_n (lv' := [(2, .int 0), (0, .ref (ad 0)), (1, .int a1)]) hx hb dX12_rests_129 rfl hl (by decide) rfl (fun ls hl => ?_)
            have loop130 : ∀ (n : Nat) (S_130 : SS) (H : Heap) (locs : List Loc) (ls : Array Slot) (x130_2 : Int32), Bd x130_2 (0) (1) → (-1) * x130_2.toInt + 1 < ((n : Nat) : Int) → InvM g ad S_130 → (∀ j, j ∉ ([18] : List Nat) → S_130 j = S j) → Hp g ad 20 S_130 (FA ad 20) s.heap H locs → lv_has ls 4 [(2, .int x130_2), (0, .ref (ad 0)), (1, .int a1)] → W p l e (Rm 4) s m [.ref (ad 0), .int a1].toArray below meth c H locs 0 0 (MQ below (va_Qv (fun S' => InvM g ad S' ∧ (∀ j, j ∉ ([0, 14, 18] : List Nat) → S' j = S j)) (QB g ad 20) (FA ad 20)) [.ref (ad 0), .int a1].toArray s 0 0 (FA ad 20)) (F0 m 130 ls []) := by
              intro n
              induction n with
              | zero => intro S_130 H locs ls x130_2 Bx130_2 hn130_ hI hf130 hQ hl; exfalso; have := (Bx130_2).2; omega
              | succ n130_ ih130 =>
                intro S_130 H locs ls x130_2 Bx130_2 hn130_ hI hf130 hQ hl
                refine lv_iload_n hx hb dX12_rests_130 rfl (lv_at hl 0 rfl) ?_
                refine lv_aload_n hx hb dX12_rests_131 rfl (lv_at hl 1 rfl) ?_
                have c49 : S_130 0 = .inr (12, [.int v1, .ref (ad 1), .ref (ad 2), .ref (ad 3), .ref (ad 4), .ref (ad 5), .int v2, .int v4, .int v6, .int v8, .int v9, .long w10, .int v11, .int v13, .int v14, .int v15, .ref (ad 6), .ref (ad 7), .ref (ad 8), .ref (ad 9), .ref (ad 10), .ref (ad 11), .ref (ad 12), .ref (ad 13), .ref (ad 14), .ref (ad 15), .int v16, .int v18, .ref (ad 16), .int v20, .int v22, .int v24, .int v26, .int v27, .ref (ad 17), .ref (ad 18), .int v28, .ref (ad 19)]) := ((hf130 0 (by decide)).trans c29)
                refine xget E hQ 0 (by decide) c49 rfl 17 (by decide) q1485 rfl dX12_rests_132 ?_
                refine lv_bipush (v := 8) hx hb dX12_rests_135 (by decide) ?_
                have c50 : S_130 7 = .inl (g.2 0, 50, .inl f30) := ((hf130 7 (by decide)).trans c31)
                refine xiald E hQ 7 (by decide) c50 (vp_in_lit 8 50 (by decide)) dX12_rests_137 ?_
                refine sb_at (P := fun z => W _ _ _ _ _ _ _ _ _ _ _ _ _ _ _ (F0 _ _ _ (.int z :: _))) (show f30 (8 : Int32).toNatClampNeg = v33 from ee34) ?_
                refine lv_icmp_ge (tgt := 159) hx hb dX12_rests_138 (by decide) (fun k51 => ?_) (fun k51 => ?_)
                · have h52 := ib_le k51
                  refine lv_aload_n hx hb dX12_rests_159 rfl (lv_at hl 1 rfl) ?_
                  refine lv_dup hx hb dX12_rests_160 rfl ?_
                  refine xget E hQ 0 (by decide) c49 rfl 36 (by decide) q1504 rfl dX12_rests_161 ?_
                  refine lv_iconst (v := 1) hx hb dX12_rests_164 (by decide) ?_
                  refine lv_iadd hx hb dX12_rests_165 ?_
                  refine lv_topi (fun z53 e54 => ?_)
                  have t55 := ib_add e54 b48 (by decide : Bd 1 (1) (1)) (by decide) (by decide)
                  have b56 : Bd z53 (1) (1) := ib_addb t55 b48 (by decide : Bd 1 (1) (1))
                  have t55 : z53.toInt = v28.toInt + 1 := fold_add t55 rfl (by decide)
                  refine xputi E hs hQ 0 (by decide) c49 rfl 36 (by decide) q1504 rfl rfl (Nat.le_of_ble_eq_true rfl) dX12_rests_166 (fun H locs S57 eS57 hQ => ?_)
                  have hI := invM_up_0 hI eS57 ⟨v1, v2, v4, v6, v8, v9, w10, v11, v13, v14, v15, v16, v18, v20, v22, v24, v26, v27, z53, rfl, b3, b5, b7, b12, b17, b19, b21, b23, b25⟩
                  have c58 : S57 0 = .inr (12, [.int v1, .ref (ad 1), .ref (ad 2), .ref (ad 3), .ref (ad 4), .ref (ad 5), .int v2, .int v4, .int v6, .int v8, .int v9, .long w10, .int v11, .int v13, .int v14, .int v15, .ref (ad 6), .ref (ad 7), .ref (ad 8), .ref (ad 9), .ref (ad 10), .ref (ad 11), .ref (ad 12), .ref (ad 13), .ref (ad 14), .ref (ad 15), .int v16, .int v18, .ref (ad 16), .int v20, .int v22, .int v24, .int v26, .int v27, .ref (ad 17), .ref (ad 18), .int z53, .ref (ad 19)]) := up_at eS57 rfl
                  exact xrv E hr hlk hQ (⟨hI, (up_o (o_trans o_refl hf130 (by decide)) eS57 (by decide))⟩) dX12_rests_169
                · have h59 := ib_nle k51
                  have b60 : Bd x130_2 (0) (0) := ⟨(Bx130_2).1, ((rf_lt Bx130_2 b38 h59).1).2⟩
                  have b61 : Bd v33 (1) (1) := ⟨((rf_lt Bx130_2 b38 h59).2).1, (b38).2⟩
                  refine lv_aload_n hx hb dX12_rests_141 rfl (lv_at hl 1 rfl) ?_
                  refine xget E hQ 0 (by decide) c49 rfl 35 (by decide) q1503 rfl dX12_rests_142 ?_
                  refine lv_iload_n hx hb dX12_rests_145 rfl (lv_at hl 0 rfl) ?_
                  refine lv_aload_n hx hb dX12_rests_146 rfl (lv_at hl 1 rfl) ?_
                  refine xget E hQ 0 (by decide) c49 rfl 24 (by decide) q1492 rfl dX12_rests_147 ?_
                  refine lv_iload_n hx hb dX12_rests_150 rfl (lv_at hl 0 rfl) ?_
                  obtain ⟨f62, c63, b64⟩ := invM_14 hI
                  refine xiald E hQ 14 (by decide) c63 (ib_in b60 (by decide) (by decide)) dX12_rests_151 ?_
                  refine lv_topi (fun z65 e66 => ?_)
                  have b67 : Bd z65 (0) (11) := (by rw [e66]; exact b64 _)
                  obtain ⟨f68, c69⟩ := invM_18 hI
                  refine xiast E hs hQ 18 (by decide) c69 (ib_in b60 (by decide) (by decide)) dX12_rests_152 (fun H locs S71 eS71 hQ => ?_)
                  have hI := invM_up_18 hI eS71 ⟨_, rfl⟩
                  have c72 : S71 18 = .inl (g.2 0, 3, .inl (upd f68 (x130_2 : Int32).toNatClampNeg z65)) := up_at eS71 rfl
                  obtain ⟨z73, e74⟩ : ∃ z : Int32, z = x130_2 + 1 := ⟨_, rfl⟩
                  have t75 := ib_add e74 b60 (by decide : Bd 1 (1) (1)) (by decide) (by decide)
                  have b76 : Bd z73 (1) (1) := ib_addb t75 b60 (by decide : Bd 1 (1) (1))
                  have t75 : z73.toInt = x130_2.toInt + 1 := fold_add t75 rfl (by decide)
                  refine lv_iinc (v := z73) (lv' := [(2, .int z73), (0, .ref (ad 0)), (1, .int a1)]) hx hb dX12_rests_153 hl (k := 0) rfl (by rw [e74]; rfl) (by decide) rfl (fun ls hl => ?_)
                  refine lv_goto (tgt := 130) hx hb dX12_rests_156 (by decide) ?_
                  exact ih130 _ _ _ _ z73 (ib_wk b76 (by decide) (by decide)) (by omega) hI (up_o hf130 eS71 (by decide)) hQ (lv_sub hl [0, 1, 2] rfl)
            obtain ⟨n130, hn130⟩ := fu_n (1)
            exact loop130 n130 _ _ _ _ 0 (ib_wk (by decide : Bd 0 (0) (0)) (by decide) (by decide)) (by have : (0 : Int32).toInt = 0 := (by decide); omega) hI o_refl hQ (lv_sub hl [0, 1, 2] rfl)
        · have h77 := ib_nle k39
          have b78 : Bd x57_2 (0) (0) := ⟨(Bx57_2).1, ((rf_lt Bx57_2 b38 h77).1).2⟩
          have b79 : Bd v33 (1) (1) := ⟨((rf_lt Bx57_2 b38 h77).2).1, (b38).2⟩
          refine lv_iconst (v := 0) hx hb dX12_rests_68 (by decide) ?_
          refine lv_istore_n (lv' := [(3, .int 0), (2, .int x57_2), (0, .ref (ad 0)), (1, .int a1)]) hx hb dX12_rests_69 rfl hl (by decide) rfl (fun ls hl => ?_)
          have loop70 : ∀ (n : Nat) (H : Heap) (locs : List Loc) (ls : Array Slot) (x70_3 : Int32), Bd x70_3 (0) (12) → (-1) * x70_3.toInt + 12 < ((n : Nat) : Int) → Hp g ad 20 S (FA ad 20) s.heap H locs → lv_has ls 4 [(3, .int x70_3), (2, .int x57_2), (0, .ref (ad 0)), (1, .int a1)] → W p l e (Rm 4) s m [.ref (ad 0), .int a1].toArray below meth c H locs 0 0 (MQ below (va_Qv (fun S' => InvM g ad S' ∧ (∀ j, j ∉ ([0, 14, 18] : List Nat) → S' j = S j)) (QB g ad 20) (FA ad 20)) [.ref (ad 0), .int a1].toArray s 0 0 (FA ad 20)) (F0 m 70 ls []) := by
            intro n
            induction n with
            | zero => intro H locs ls x70_3 Bx70_3 hn70_ hQ hl; exfalso; have := (Bx70_3).2; omega
            | succ n70_ ih70 =>
              intro H locs ls x70_3 Bx70_3 hn70_ hQ hl
              refine lv_iload_n hx hb dX12_rests_70 rfl (lv_at hl 0 rfl) ?_
              refine lv_aload_n hx hb dX12_rests_71 rfl (lv_at hl 2 rfl) ?_
              refine xget E hQ 0 (by decide) c29 rfl 17 (by decide) q1485 rfl dX12_rests_72 ?_
              refine lv_iconst (v := 0) hx hb dX12_rests_75 (by decide) ?_
              refine xiald E hQ 7 (by decide) c31 (vp_in_lit 0 50 (by decide)) dX12_rests_76 ?_
              obtain ⟨v80, ee81⟩ : ∃ z : Int32, f30 0 = z := ⟨_, rfl⟩
              have b82 : Bd v80 (0) (12) := (by rw [← ee81]; exact b32.1 0 (by decide))
              refine sb_at (P := fun z => W _ _ _ _ _ _ _ _ _ _ _ _ _ _ _ (F0 _ _ _ (.int z :: _))) (show f30 (0 : Int32).toNatClampNeg = v80 from ee81) ?_
              refine lv_icmp_ge (tgt := 115) hx hb dX12_rests_77 (by decide) (fun k83 => ?_) (fun k83 => ?_)
              · have h84 := ib_le k83
                obtain ⟨z85, e86⟩ : ∃ z : Int32, z = x57_2 + 1 := ⟨_, rfl⟩
                have t87 := ib_add e86 b78 (by decide : Bd 1 (1) (1)) (by decide) (by decide)
                have b88 : Bd z85 (1) (1) := ib_addb t87 b78 (by decide : Bd 1 (1) (1))
                have t87 : z85.toInt = x57_2.toInt + 1 := fold_add t87 rfl (by decide)
                refine lv_iinc (v := z85) (lv' := [(2, .int z85), (3, .int x70_3), (0, .ref (ad 0)), (1, .int a1)]) hx hb dX12_rests_115 hl (k := 1) rfl (by rw [e86]; rfl) (by decide) rfl (fun ls hl => ?_)
                refine lv_goto (tgt := 57) hx hb dX12_rests_118 (by decide) ?_
                exact ih57 _ _ _ z85 (ib_wk b88 (by decide) (by decide)) (by omega) hQ (lv_sub hl [0, 2, 3] rfl)
              · have h89 := ib_nle k83
                have b90 : Bd x70_3 (0) (11) := ⟨(Bx70_3).1, ((rf_lt Bx70_3 b82 h89).1).2⟩
                have b91 : Bd v80 (1) (12) := ⟨((rf_lt Bx70_3 b82 h89).2).1, (b82).2⟩
                refine lv_aload_n hx hb dX12_rests_80 rfl (lv_at hl 2 rfl) ?_
                refine lv_iload_n hx hb dX12_rests_81 rfl (lv_at hl 0 rfl) ?_
                refine xcVi E hs hQ hml hl.1 0 (gX12_isBeach_0 l g ad hD S hI x70_3) mX12_isBeach q1755 (by decide) c29 rfl rfl ⟨(Nat.le_of_ble_eq_true rfl), (Nat.le_of_ble_eq_true rfl)⟩ ⟨(Nat.le_of_ble_eq_true rfl), (Nat.le_of_ble_eq_true rfl)⟩ (Nat.le_of_ble_eq_true rfl) rfl dX12_rests_82 (fun r92 S92 H locs hp92 hQ _ => ?_)
                obtain ⟨rfl, b92, fg92⟩ := hp92
                refine lv_if_eq (tgt := 109) hx hb dX12_rests_85 (by decide) (fun k93 => ?_) (fun k93 => ?_)
                · have h94 := ib_eq k93
                  have b95 : Bd r92 (0) (0) := ⟨(b92).1, ((rf_eq b92 (by decide : Bd 0 (0) (0)) h94).1).2⟩
                  obtain ⟨z96, e97⟩ : ∃ z : Int32, z = x70_3 + 1 := ⟨_, rfl⟩
                  have t98 := ib_add e97 b90 (by decide : Bd 1 (1) (1)) (by decide) (by decide)
                  have b99 : Bd z96 (1) (12) := ib_addb t98 b90 (by decide : Bd 1 (1) (1))
                  have t98 : z96.toInt = x70_3.toInt + 1 := fold_add t98 rfl (by decide)
                  refine lv_iinc (v := z96) (lv' := [(3, .int z96), (2, .int x57_2), (0, .ref (ad 0)), (1, .int a1)]) hx hb dX12_rests_109 hl (k := 0) rfl (by rw [e97]; rfl) (by decide) rfl (fun ls hl => ?_)
                  refine lv_goto (tgt := 70) hx hb dX12_rests_112 (by decide) ?_
                  exact ih70 _ _ _ z96 (ib_wk b99 (by decide) (by decide)) (by omega) hQ (lv_sub hl [0, 1, 2, 3] rfl)
                · have h100 := ib_ne k93
                  have b101 : Bd r92 (1) (1) := rf_nlo b92 (by decide : Bd 0 (0) (0)) h100
                  refine lv_aload_n hx hb dX12_rests_88 rfl (lv_at hl 2 rfl) ?_
                  refine lv_iload_n hx hb dX12_rests_89 rfl (lv_at hl 1 rfl) ?_
                  refine lv_iload_n hx hb dX12_rests_90 rfl (lv_at hl 0 rfl) ?_
                  refine xcVi E hs hQ hml hl.1 0 (gX12_seatOf_0 l g ad hD S hI x57_2 x70_3 (ib_wk b78 (by decide) (by decide)) b90) mX12_seatOf q2062 (by decide) c29 rfl rfl ⟨(Nat.le_of_ble_eq_true rfl), (Nat.le_of_ble_eq_true rfl)⟩ ⟨(Nat.le_of_ble_eq_true rfl), (Nat.le_of_ble_eq_true rfl)⟩ (Nat.le_of_ble_eq_true rfl) rfl dX12_rests_91 (fun r102 S102 H locs hp102 hQ _ => ?_)
                  subst hp102
                  refine lv_aload_n hx hb dX12_rests_94 rfl (lv_at hl 2 rfl) ?_
                  refine lv_iload_n hx hb dX12_rests_95 rfl (lv_at hl 1 rfl) ?_
                  refine lv_aload_n hx hb dX12_rests_96 rfl (lv_at hl 2 rfl) ?_
                  refine xget E hQ 0 (by decide) c29 rfl 24 (by decide) q1492 rfl dX12_rests_97 ?_
                  refine lv_iload_n hx hb dX12_rests_100 rfl (lv_at hl 1 rfl) ?_
                  obtain ⟨f103, c104, b105⟩ := invM_14 hI
                  refine xiald E hQ 14 (by decide) c104 (ib_in b78 (by decide) (by decide)) dX12_rests_101 ?_
                  refine lv_topi (fun z106 e107 => ?_)
                  have b108 : Bd z106 (0) (11) := (by rw [e107]; exact b105 _)
                  refine xcVi E hs hQ hml hl.1 0 (gX12_seatOf_0 l g ad hD S hI x57_2 z106 (ib_wk b78 (by decide) (by decide)) b108) mX12_seatOf q2062 (by decide) c29 rfl rfl ⟨(Nat.le_of_ble_eq_true rfl), (Nat.le_of_ble_eq_true rfl)⟩ ⟨(Nat.le_of_ble_eq_true rfl), (Nat.le_of_ble_eq_true rfl)⟩ (Nat.le_of_ble_eq_true rfl) rfl dX12_rests_102 (fun r109 S109 H locs hp109 hQ _ => ?_)
                  subst hp109
                  refine lv_icmp_le (tgt := 109) hx hb dX12_rests_105 (by decide) (fun k110 => ?_) (fun k110 => ?_)
                  · have h111 := ib_le k110
                    obtain ⟨z112, e113⟩ : ∃ z : Int32, z = x70_3 + 1 := ⟨_, rfl⟩
                    have t114 := ib_add e113 b90 (by decide : Bd 1 (1) (1)) (by decide) (by decide)
                    have b115 : Bd z112 (1) (12) := ib_addb t114 b90 (by decide : Bd 1 (1) (1))
                    have t114 : z112.toInt = x70_3.toInt + 1 := fold_add t114 rfl (by decide)
                    refine lv_iinc (v := z112) (lv' := [(3, .int z112), (2, .int x57_2), (0, .ref (ad 0)), (1, .int a1)]) hx hb dX12_rests_109 hl (k := 0) rfl (by rw [e113]; rfl) (by decide) rfl (fun ls hl => ?_)
                    refine lv_goto (tgt := 70) hx hb dX12_rests_112 (by decide) ?_
                    exact ih70 _ _ _ z112 (ib_wk b115 (by decide) (by decide)) (by omega) hQ (lv_sub hl [0, 1, 2, 3] rfl)
                  · have h116 := ib_nle k110
                    have b117 : Bd r109 (-2147483648) (2147483646) := ⟨((ib_full r109)).1, ((rf_lt (ib_full r109) (ib_full r102) h116).1).2⟩
                    have b118 : Bd r102 (-2147483647) (2147483647) := ⟨((rf_lt (ib_full r109) (ib_full r102) h116).2).1, ((ib_full r102)).2⟩
                    exact xrv E hr hlk hQ (⟨hI, o_refl⟩) dX12_rests_108
          obtain ⟨n70, hn70⟩ := fu_n (12)
          exact loop70 n70 _ _ _ 0 (ib_wk (by decide : Bd 0 (0) (0)) (by decide) (by decide)) (by have : (0 : Int32).toInt = 0 := (by decide); omega) hQ (lv_sub hl [0, 1, 2, 3] rfl)
    obtain ⟨n57, hn57⟩ := fu_n (1)
    exact loop57 n57 _ _ _ 0 (ib_wk (by decide : Bd 0 (0) (0)) (by decide) (by decide)) (by have : (0 : Int32).toInt = 0 := (by decide); omega) hQ (lv_sub hl [0, 1, 2] rfl)
  · have h119 := ib_nle k36
    have b120 : Bd v33 (2) (3) := ⟨((rf_lt ba1 b35 h119).2).1, (b35).2⟩
    refine lv_iconst (v := 0) hx hb dX12_rests_11 (by decide) ?_
    refine lv_istore_n (lv' := [(2, .int 0), (0, .ref (ad 0)), (1, .int a1)]) hx hb dX12_rests_12 rfl hl (by decide) rfl (fun ls hl => ?_)
    have loop13 : ∀ (n : Nat) (S_13 : SS) (H : Heap) (locs : List Loc) (ls : Array Slot) (x13_2 : Int32) (y13_0_0 : Int32) (y13_0_6 : Int32) (y13_0_7 : Int32) (y13_0_8 : Int32) (y13_0_9 : Int32) (y13_0_10 : Int32) (wy13_0_11 : Int64) (y13_0_12 : Int32) (y13_0_13 : Int32) (y13_0_14 : Int32) (y13_0_15 : Int32) (y13_0_26 : Int32) (y13_0_27 : Int32) (y13_0_29 : Int32) (y13_0_30 : Int32) (y13_0_31 : Int32) (y13_0_32 : Int32) (y13_0_33 : Int32) (y13_0_36 : Int32), Bd x13_2 (0) (12) → Bd y13_0_6 (0) (1200) → Bd y13_0_7 (0) (1200) → Bd y13_0_8 (0) (4) → Bd y13_0_12 (0) (3) → Bd y13_0_26 (0) (11) → Bd y13_0_27 (-1) (400) → Bd y13_0_29 (0) (2) → Bd y13_0_30 (0) (11) → Bd y13_0_31 (-1) (468) → (-1) * x13_2.toInt + 12 < ((n : Nat) : Int) → InvM g ad S_13 → (∀ j, j ∉ ([0, 14, 18] : List Nat) → S_13 j = S j) → S_13 0 = .inr (12, [.int y13_0_0, .ref (ad 1), .ref (ad 2), .ref (ad 3), .ref (ad 4), .ref (ad 5), .int y13_0_6, .int y13_0_7, .int y13_0_8, .int y13_0_9, .int y13_0_10, .long wy13_0_11, .int y13_0_12, .int y13_0_13, .int y13_0_14, .int y13_0_15, .ref (ad 6), .ref (ad 7), .ref (ad 8), .ref (ad 9), .ref (ad 10), .ref (ad 11), .ref (ad 12), .ref (ad 13), .ref (ad 14), .ref (ad 15), .int y13_0_26, .int y13_0_27, .ref (ad 16), .int y13_0_29, .int y13_0_30, .int y13_0_31, .int y13_0_32, .int y13_0_33, .ref (ad 17), .ref (ad 18), .int y13_0_36, .ref (ad 19)]) → Hp g ad 20 S_13 (FA ad 20) s.heap H locs → lv_has ls 4 [(2, .int x13_2), (0, .ref (ad 0)), (1, .int a1)] → W p l e (Rm 4) s m [.ref (ad 0), .int a1].toArray below meth c H locs 0 0 (MQ below (va_Qv (fun S' => InvM g ad S' ∧ (∀ j, j ∉ ([0, 14, 18] : List Nat) → S' j = S j)) (QB g ad 20) (FA ad 20)) [.ref (ad 0), .int a1].toArray s 0 0 (FA ad 20)) (F0 m 13 ls []) := by
      intro n
      induction n with
      | zero => intro S_13 H locs ls x13_2 y13_0_0 y13_0_6 y13_0_7 y13_0_8 y13_0_9 y13_0_10 wy13_0_11 y13_0_12 y13_0_13 y13_0_14 y13_0_15 y13_0_26 y13_0_27 y13_0_29 y13_0_30 y13_0_31 y13_0_32 y13_0_33 y13_0_36 Bx13_2 By13_0_6 By13_0_7 By13_0_8 By13_0_12 By13_0_26 By13_0_27 By13_0_29 By13_0_30 By13_0_31 hn13_ hI hf13 cl13_0 hQ hl; exfalso; have := (Bx13_2).2; omega
      | succ n13_ ih13 =>
        intro S_13 H locs ls x13_2 y13_0_0 y13_0_6 y13_0_7 y13_0_8 y13_0_9 y13_0_10 wy13_0_11 y13_0_12 y13_0_13 y13_0_14 y13_0_15 y13_0_26 y13_0_27 y13_0_29 y13_0_30 y13_0_31 y13_0_32 y13_0_33 y13_0_36 Bx13_2 By13_0_6 By13_0_7 By13_0_8 By13_0_12 By13_0_26 By13_0_27 By13_0_29 By13_0_30 By13_0_31 hn13_ hI hf13 cl13_0 hQ hl
        refine lv_iload_n hx hb dX12_rests_13 rfl (lv_at hl 0 rfl) ?_
        refine lv_aload_n hx hb dX12_rests_14 rfl (lv_at hl 1 rfl) ?_
        refine xget E hQ 0 (by decide) cl13_0 rfl 17 (by decide) q1485 rfl dX12_rests_15 ?_
        refine lv_iconst (v := 0) hx hb dX12_rests_18 (by decide) ?_
        have c121 : S_13 7 = .inl (g.2 0, 50, .inl f30) := ((hf13 7 (by decide)).trans c31)
        refine xiald E hQ 7 (by decide) c121 (vp_in_lit 0 50 (by decide)) dX12_rests_19 ?_
        obtain ⟨v122, ee123⟩ : ∃ z : Int32, f30 0 = z := ⟨_, rfl⟩
        have b124 : Bd v122 (0) (12) := (by rw [← ee123]; exact b32.1 0 (by decide))
        refine sb_at (P := fun z => W _ _ _ _ _ _ _ _ _ _ _ _ _ _ _ (F0 _ _ _ (.int z :: _))) (show f30 (0 : Int32).toNatClampNeg = v122 from ee123) ?_
        refine lv_icmp_ge (tgt := 54) hx hb dX12_rests_20 (by decide) (fun k125 => ?_) (fun k125 => ?_)
        · have h126 := ib_le k125
          exact xrv E hr hlk hQ (⟨hI, (o_trans o_refl hf13 (by decide))⟩) dX12_rests_54
        · have h127 := ib_nle k125
          have b128 : Bd x13_2 (0) (11) := ⟨(Bx13_2).1, ((rf_lt Bx13_2 b124 h127).1).2⟩
          have b129 : Bd v122 (1) (12) := ⟨((rf_lt Bx13_2 b124 h127).2).1, (b124).2⟩
          refine lv_aload_n hx hb dX12_rests_23 rfl (lv_at hl 1 rfl) ?_
          refine lv_iload_n hx hb dX12_rests_24 rfl (lv_at hl 0 rfl) ?_
          refine xcVi E hs hQ hml hl.1 0 (gX12_isBeach_0 l g ad hD S_13 hI x13_2) mX12_isBeach q1755 (by decide) cl13_0 rfl rfl ⟨(Nat.le_of_ble_eq_true rfl), (Nat.le_of_ble_eq_true rfl)⟩ ⟨(Nat.le_of_ble_eq_true rfl), (Nat.le_of_ble_eq_true rfl)⟩ (Nat.le_of_ble_eq_true rfl) rfl dX12_rests_25 (fun r130 S130 H locs hp130 hQ _ => ?_)
          obtain ⟨rfl, b130, fg130⟩ := hp130
          refine lv_if_ne (tgt := 34) hx hb dX12_rests_28 (by decide) (fun k131 => ?_) (fun k131 => ?_)
          · have h132 := ib_ne k131
            have b133 : Bd r130 (1) (1) := rf_nlo b130 (by decide : Bd 0 (0) (0)) h132
            refine lv_aload_n hx hb dX12_rests_34 rfl (lv_at hl 1 rfl) ?_
            refine xget E hQ 0 (by decide) cl13_0 rfl 24 (by decide) q1492 rfl dX12_rests_35 ?_
            refine lv_iload_n hx hb dX12_rests_38 rfl (lv_at hl 2 rfl) ?_
            refine lv_iload_n hx hb dX12_rests_39 rfl (lv_at hl 0 rfl) ?_
            obtain ⟨f134, c135, b136⟩ := invM_14 hI
            refine xiast E hs hQ 14 (by decide) c135 (ib_in ba1 (by decide) (by decide)) dX12_rests_40 (fun H locs S137 eS137 hQ => ?_)
            have hI := invM_up_14 hI eS137 ⟨_, rfl, upd_b b136 b128⟩
            have b139 : ∀ j, Bd ((upd f134 (a1 : Int32).toNatClampNeg x13_2) j) (0) (11) := upd_b b136 b128
            have c138 : S137 14 = .inl (g.2 0, 3, .inl (upd f134 (a1 : Int32).toNatClampNeg x13_2)) := up_at eS137 rfl
            refine lv_aload_n hx hb dX12_rests_41 rfl (lv_at hl 1 rfl) ?_
            refine lv_iload_n hx hb dX12_rests_42 rfl (lv_at hl 2 rfl) ?_
            refine lv_iconst (v := 1) hx hb dX12_rests_43 (by decide) ?_
            refine lv_iadd hx hb dX12_rests_44 ?_
            refine lv_topi (fun z140 e141 => ?_)
            have t142 := ib_add e141 ba1 (by decide : Bd 1 (1) (1)) (by decide) (by decide)
            have b143 : Bd z140 (2) (2) := ib_addb t142 ba1 (by decide : Bd 1 (1) (1))
            have t142 : z140.toInt = a1.toInt + 1 := fold_add t142 rfl (by decide)
            have c145 : S137 0 = .inr (12, [.int y13_0_0, .ref (ad 1), .ref (ad 2), .ref (ad 3), .ref (ad 4), .ref (ad 5), .int y13_0_6, .int y13_0_7, .int y13_0_8, .int y13_0_9, .int y13_0_10, .long wy13_0_11, .int y13_0_12, .int y13_0_13, .int y13_0_14, .int y13_0_15, .ref (ad 6), .ref (ad 7), .ref (ad 8), .ref (ad 9), .ref (ad 10), .ref (ad 11), .ref (ad 12), .ref (ad 13), .ref (ad 14), .ref (ad 15), .int y13_0_26, .int y13_0_27, .ref (ad 16), .int y13_0_29, .int y13_0_30, .int y13_0_31, .int y13_0_32, .int y13_0_33, .ref (ad 17), .ref (ad 18), .int y13_0_36, .ref (ad 19)]) := (up_ne eS137 (by decide) cl13_0)
            refine xcVv E hs hQ hml hl.1 0 (gX12_rests_2 l g ad hD S137 hI z140 b143) mX12_rests q2082 (by decide) c145 rfl rfl ⟨(Nat.le_of_ble_eq_true rfl), (Nat.le_of_ble_eq_true rfl)⟩ ⟨(Nat.le_of_ble_eq_true rfl), (Nat.le_of_ble_eq_true rfl)⟩ (Nat.le_of_ble_eq_true rfl) rfl dX12_rests_45 (fun S144 H locs hp144 hQ _ => ?_)
            obtain ⟨hI, o144⟩ := hp144
            obtain ⟨z146, e147⟩ : ∃ z : Int32, z = x13_2 + 1 := ⟨_, rfl⟩
            have t148 := ib_add e147 b128 (by decide : Bd 1 (1) (1)) (by decide) (by decide)
            have b149 : Bd z146 (1) (12) := ib_addb t148 b128 (by decide : Bd 1 (1) (1))
            have t148 : z146.toInt = x13_2.toInt + 1 := fold_add t148 rfl (by decide)
            refine lv_iinc (v := z146) (lv' := [(2, .int z146), (0, .ref (ad 0)), (1, .int a1)]) hx hb dX12_rests_48 hl (k := 0) rfl (by rw [e147]; rfl) (by decide) rfl (fun ls hl => ?_)
            refine lv_goto (tgt := 13) hx hb dX12_rests_51 (by decide) ?_
            obtain ⟨v150, v151, v153, v155, v157, v158, w159, v160, v162, v163, v164, v165, v167, v169, v171, v173, v175, v176, v177, c178, b152, b154, b156, b161, b166, b168, b170, b172, b174⟩ := invM_0 hI
            have c178 : S144 0 = .inr (12, [.int v150, .ref (ad 1), .ref (ad 2), .ref (ad 3), .ref (ad 4), .ref (ad 5), .int v151, .int v153, .int v155, .int v157, .int v158, .long w159, .int v160, .int v162, .int v163, .int v164, .ref (ad 6), .ref (ad 7), .ref (ad 8), .ref (ad 9), .ref (ad 10), .ref (ad 11), .ref (ad 12), .ref (ad 13), .ref (ad 14), .ref (ad 15), .int v165, .int v167, .ref (ad 16), .int v169, .int v171, .int v173, .int v175, .int v176, .ref (ad 17), .ref (ad 18), .int v177, .ref (ad 19)]) := c178
            exact ih13 _ _ _ _ z146 v150 v151 v153 v155 v157 v158 w159 v160 v162 v163 v164 v165 v167 v169 v171 v173 v175 v176 v177 (ib_wk b149 (by decide) (by decide)) b152 b154 b156 b161 b166 b168 b170 b172 b174 (by omega) hI (o_trans (up_o hf13 eS137 (by decide)) o144 (by decide)) c178 hQ (lv_sub hl [0, 1, 2] rfl)
          · have h179 := ib_eq k131
            have b180 : Bd r130 (0) (0) := ⟨(b130).1, ((rf_eq b130 (by decide : Bd 0 (0) (0)) h179).1).2⟩
            refine lv_goto (tgt := 48) hx hb dX12_rests_31 (by decide) ?_
            obtain ⟨z181, e182⟩ : ∃ z : Int32, z = x13_2 + 1 := ⟨_, rfl⟩
            have t183 := ib_add e182 b128 (by decide : Bd 1 (1) (1)) (by decide) (by decide)
            have b184 : Bd z181 (1) (12) := ib_addb t183 b128 (by decide : Bd 1 (1) (1))
            have t183 : z181.toInt = x13_2.toInt + 1 := fold_add t183 rfl (by decide)
            refine lv_iinc (v := z181) (lv' := [(2, .int z181), (0, .ref (ad 0)), (1, .int a1)]) hx hb dX12_rests_48 hl (k := 0) rfl (by rw [e182]; rfl) (by decide) rfl (fun ls hl => ?_)
            refine lv_goto (tgt := 13) hx hb dX12_rests_51 (by decide) ?_
            exact ih13 _ _ _ _ z181 y13_0_0 y13_0_6 y13_0_7 y13_0_8 y13_0_9 y13_0_10 wy13_0_11 y13_0_12 y13_0_13 y13_0_14 y13_0_15 y13_0_26 y13_0_27 y13_0_29 y13_0_30 y13_0_31 y13_0_32 y13_0_33 y13_0_36 (ib_wk b184 (by decide) (by decide)) By13_0_6 By13_0_7 By13_0_8 By13_0_12 By13_0_26 By13_0_27 By13_0_29 By13_0_30 By13_0_31 (by omega) hI hf13 cl13_0 hQ (lv_sub hl [0, 1, 2] rfl)
    obtain ⟨n13, hn13⟩ := fu_n (12)
    exact loop13 n13 _ _ _ _ 0 v1 v2 v4 v6 v8 v9 w10 v11 v13 v14 v15 v16 v18 v20 v22 v24 v26 v27 v28 (ib_wk (by decide : Bd 0 (0) (0)) (by decide) (by decide)) b3 b5 b7 b12 b17 b19 b21 b23 b25 (by have : (0 : Int32).toInt = 0 := (by decide); omega) hI o_refl c29 hQ (lv_sub hl [0, 1, 2] rfl)
set_option maxHeartbeats 4000000 in
set_option maxRecDepth 100000 in
theorem gX12_rests_0 (l : Launch) (g : GG) (ad : Nat → Nat) (hD : Dj ad 20) (S : SS) (hI : InvM g ad S) (a1 : Int32) (ba1 : Bd a1 (0) (0)) : Met l yX12_rests (wG (.code yX12_rests cX12_rests 4 none)) (Rm 5) (XPre g ad 20 S [.ref (ad 0), .int a1]) (va_Qv (fun S' => InvM g ad S' ∧ (∀ j, j ∉ ([0, 14, 18] : List Nat) → S' j = S j)) (QB g ad 20) (FA ad 20)) 0 0 (FA ad 20) := by
  refine xmet cX12_rests "EbbWreckModel" (by decide) rfl (Nat.le_of_ble_eq_true rfl) (fun p e s m below meth c E hr hlk hml hQ ls hl => ?_)
  have hx := E.1
  have hb := E.2.1
  have hs : Sp ad 20 (FA ad 20) := Sp.fa hD
  have hl : lv_has ls 4 [(0, .ref (ad 0)), (1, .int a1)] := hl
  refine lv_iload_n hx hb dX12_rests_0 rfl (lv_at hl 1 rfl) ?_
  refine lv_aload_n hx hb dX12_rests_1 rfl (lv_at hl 0 rfl) ?_
  obtain ⟨v1, v2, v4, v6, v8, v9, w10, v11, v13, v14, v15, v16, v18, v20, v22, v24, v26, v27, v28, c29, b3, b5, b7, b12, b17, b19, b21, b23, b25⟩ := invM_0 hI
  have c29 : S 0 = .inr (12, [.int v1, .ref (ad 1), .ref (ad 2), .ref (ad 3), .ref (ad 4), .ref (ad 5), .int v2, .int v4, .int v6, .int v8, .int v9, .long w10, .int v11, .int v13, .int v14, .int v15, .ref (ad 6), .ref (ad 7), .ref (ad 8), .ref (ad 9), .ref (ad 10), .ref (ad 11), .ref (ad 12), .ref (ad 13), .ref (ad 14), .ref (ad 15), .int v16, .int v18, .ref (ad 16), .int v20, .int v22, .int v24, .int v26, .int v27, .ref (ad 17), .ref (ad 18), .int v28, .ref (ad 19)]) := c29
  refine xget E hQ 0 (by decide) c29 rfl 17 (by decide) q1485 rfl dX12_rests_2 ?_
  refine lv_bipush (v := 8) hx hb dX12_rests_5 (by decide) ?_
  obtain ⟨f30, c31, b32⟩ := invM_7 hI
  refine xiald E hQ 7 (by decide) c31 (vp_in_lit 8 50 (by decide)) dX12_rests_7 ?_
  obtain ⟨v33, ee34⟩ : ∃ z : Int32, f30 8 = z := ⟨_, rfl⟩
  have b35 : Bd v33 (0) (3) := (by rw [← ee34]; exact b32.2.2.2.2.2.2.1 8 (by decide))
  refine sb_at (P := fun z => W _ _ _ _ _ _ _ _ _ _ _ _ _ _ _ (F0 _ _ _ (.int z :: _))) (show f30 (8 : Int32).toNatClampNeg = v33 from ee34) ?_
  refine lv_icmp_ge (tgt := 55) hx hb dX12_rests_8 (by decide) (fun k36 => ?_) (fun k36 => ?_)
  · have h37 := ib_le k36
    have b38 : Bd v33 (0) (0) := ⟨(b35).1, ((rf_le b35 ba1 h37).1).2⟩
    refine lv_iconst (v := 0) hx hb dX12_rests_55 (by decide) ?_
    refine lv_istore_n (lv' := [(2, .int 0), (0, .ref (ad 0)), (1, .int a1)]) hx hb dX12_rests_56 rfl hl (by decide) rfl (fun ls hl => ?_)
    have loop57 : ∀ (n : Nat) (H : Heap) (locs : List Loc) (ls : Array Slot) (x57_2 : Int32), Bd x57_2 (0) (0) → 0 < ((n : Nat) : Int) → Hp g ad 20 S (FA ad 20) s.heap H locs → lv_has ls 4 [(2, .int x57_2), (0, .ref (ad 0)), (1, .int a1)] → W p l e (Rm 5) s m [.ref (ad 0), .int a1].toArray below meth c H locs 0 0 (MQ below (va_Qv (fun S' => InvM g ad S' ∧ (∀ j, j ∉ ([0, 14, 18] : List Nat) → S' j = S j)) (QB g ad 20) (FA ad 20)) [.ref (ad 0), .int a1].toArray s 0 0 (FA ad 20)) (F0 m 57 ls []) := by
      intro n
      induction n with
      | zero => intro H locs ls x57_2 Bx57_2 hn57_ hQ hl; exfalso; omega
      | succ n57_ ih57 =>
        intro H locs ls x57_2 Bx57_2 hn57_ hQ hl
        refine lv_iload_n hx hb dX12_rests_57 rfl (lv_at hl 0 rfl) ?_
        refine lv_aload_n hx hb dX12_rests_58 rfl (lv_at hl 1 rfl) ?_
        refine xget E hQ 0 (by decide) c29 rfl 17 (by decide) q1485 rfl dX12_rests_59 ?_
        refine lv_bipush (v := 8) hx hb dX12_rests_62 (by decide) ?_
        refine xiald E hQ 7 (by decide) c31 (vp_in_lit 8 50 (by decide)) dX12_rests_64 ?_
        refine sb_at (P := fun z => W _ _ _ _ _ _ _ _ _ _ _ _ _ _ _ (F0 _ _ _ (.int z :: _))) (show f30 (8 : Int32).toNatClampNeg = v33 from ee34) ?_
        refine lv_icmp_ge (tgt := 121) hx hb dX12_rests_65 (by decide) (fun k39 => ?_) (fun k39 => ?_)
        · have h40 := ib_le k39
          refine lv_aload_n hx hb dX12_rests_121 rfl (lv_at hl 1 rfl) ?_
          refine xget E hQ 0 (by decide) c29 rfl 36 (by decide) q1504 rfl dX12_rests_122 ?_
          refine lv_if_ne (tgt := 159) hx hb dX12_rests_125 (by decide) (fun k41 => ?_) (fun k41 => ?_)
          · have h42 := ib_ne k41
            refine lv_aload_n hx hb dX12_rests_159 rfl (lv_at hl 1 rfl) ?_
            refine lv_dup hx hb dX12_rests_160 rfl ?_
            refine xget E hQ 0 (by decide) c29 rfl 36 (by decide) q1504 rfl dX12_rests_161 ?_
            refine lv_iconst (v := 1) hx hb dX12_rests_164 (by decide) ?_
            refine lv_iadd hx hb dX12_rests_165 ?_
            refine lv_topi (fun z43 e44 => ?_)
            refine xputi E hs hQ 0 (by decide) c29 rfl 36 (by decide) q1504 rfl rfl (Nat.le_of_ble_eq_true rfl) dX12_rests_166 (fun H locs S45 eS45 hQ => ?_)
            have hI := invM_up_0 hI eS45 ⟨v1, v2, v4, v6, v8, v9, w10, v11, v13, v14, v15, v16, v18, v20, v22, v24, v26, v27, z43, rfl, b3, b5, b7, b12, b17, b19, b21, b23, b25⟩
            have c46 : S45 0 = .inr (12, [.int v1, .ref (ad 1), .ref (ad 2), .ref (ad 3), .ref (ad 4), .ref (ad 5), .int v2, .int v4, .int v6, .int v8, .int v9, .long w10, .int v11, .int v13, .int v14, .int v15, .ref (ad 6), .ref (ad 7), .ref (ad 8), .ref (ad 9), .ref (ad 10), .ref (ad 11), .ref (ad 12), .ref (ad 13), .ref (ad 14), .ref (ad 15), .int v16, .int v18, .ref (ad 16), .int v20, .int v22, .int v24, .int v26, .int v27, .ref (ad 17), .ref (ad 18), .int z43, .ref (ad 19)]) := up_at eS45 rfl
            exact xrv E hr hlk hQ (⟨hI, (up_o o_refl eS45 (by decide))⟩) dX12_rests_169
          · have h47 := ib_eq k41
            have b48 : Bd v28 (0) (0) := ⟨((rf_eq (ib_full v28) (by decide : Bd 0 (0) (0)) h47).1).1, ((rf_eq (ib_full v28) (by decide : Bd 0 (0) (0)) h47).1).2⟩
            refine lv_iconst (v := 0) hx hb dX12_rests_128 (by decide) ?_
            refine lv_istore_n (lv' := [(2, .int 0), (0, .ref (ad 0)), (1, .int a1)]) hx hb dX12_rests_129 rfl hl (by decide) rfl (fun ls hl => ?_)
            have loop130 : ∀ (n : Nat) (H : Heap) (locs : List Loc) (ls : Array Slot) (x130_2 : Int32), Bd x130_2 (0) (0) → 0 < ((n : Nat) : Int) → Hp g ad 20 S (FA ad 20) s.heap H locs → lv_has ls 4 [(2, .int x130_2), (0, .ref (ad 0)), (1, .int a1)] → W p l e (Rm 5) s m [.ref (ad 0), .int a1].toArray below meth c H locs 0 0 (MQ below (va_Qv (fun S' => InvM g ad S' ∧ (∀ j, j ∉ ([0, 14, 18] : List Nat) → S' j = S j)) (QB g ad 20) (FA ad 20)) [.ref (ad 0), .int a1].toArray s 0 0 (FA ad 20)) (F0 m 130 ls []) := by
              intro n
              induction n with
              | zero => intro H locs ls x130_2 Bx130_2 hn130_ hQ hl; exfalso; omega
              | succ n130_ ih130 =>
                intro H locs ls x130_2 Bx130_2 hn130_ hQ hl
                refine lv_iload_n hx hb dX12_rests_130 rfl (lv_at hl 0 rfl) ?_
                refine lv_aload_n hx hb dX12_rests_131 rfl (lv_at hl 1 rfl) ?_
                refine xget E hQ 0 (by decide) c29 rfl 17 (by decide) q1485 rfl dX12_rests_132 ?_
                refine lv_bipush (v := 8) hx hb dX12_rests_135 (by decide) ?_
                refine xiald E hQ 7 (by decide) c31 (vp_in_lit 8 50 (by decide)) dX12_rests_137 ?_
                refine sb_at (P := fun z => W _ _ _ _ _ _ _ _ _ _ _ _ _ _ _ (F0 _ _ _ (.int z :: _))) (show f30 (8 : Int32).toNatClampNeg = v33 from ee34) ?_
                refine lv_icmp_ge (tgt := 159) hx hb dX12_rests_138 (by decide) (fun k49 => ?_) (fun k49 => ?_)
                · have h50 := ib_le k49
                  refine lv_aload_n hx hb dX12_rests_159 rfl (lv_at hl 1 rfl) ?_
                  refine lv_dup hx hb dX12_rests_160 rfl ?_
                  refine xget E hQ 0 (by decide) c29 rfl 36 (by decide) q1504 rfl dX12_rests_161 ?_
                  refine lv_iconst (v := 1) hx hb dX12_rests_164 (by decide) ?_
                  refine lv_iadd hx hb dX12_rests_165 ?_
                  refine lv_topi (fun z51 e52 => ?_)
                  have t53 := ib_add e52 b48 (by decide : Bd 1 (1) (1)) (by decide) (by decide)
                  have b54 : Bd z51 (1) (1) := ib_addb t53 b48 (by decide : Bd 1 (1) (1))
                  have t53 : z51.toInt = v28.toInt + 1 := fold_add t53 rfl (by decide)
                  refine xputi E hs hQ 0 (by decide) c29 rfl 36 (by decide) q1504 rfl rfl (Nat.le_of_ble_eq_true rfl) dX12_rests_166 (fun H locs S55 eS55 hQ => ?_)
                  have hI := invM_up_0 hI eS55 ⟨v1, v2, v4, v6, v8, v9, w10, v11, v13, v14, v15, v16, v18, v20, v22, v24, v26, v27, z51, rfl, b3, b5, b7, b12, b17, b19, b21, b23, b25⟩
                  have c56 : S55 0 = .inr (12, [.int v1, .ref (ad 1), .ref (ad 2), .ref (ad 3), .ref (ad 4), .ref (ad 5), .int v2, .int v4, .int v6, .int v8, .int v9, .long w10, .int v11, .int v13, .int v14, .int v15, .ref (ad 6), .ref (ad 7), .ref (ad 8), .ref (ad 9), .ref (ad 10), .ref (ad 11), .ref (ad 12), .ref (ad 13), .ref (ad 14), .ref (ad 15), .int v16, .int v18, .ref (ad 16), .int v20, .int v22, .int v24, .int v26, .int v27, .ref (ad 17), .ref (ad 18), .int z51, .ref (ad 19)]) := up_at eS55 rfl
                  exact xrv E hr hlk hQ (⟨hI, (up_o o_refl eS55 (by decide))⟩) dX12_rests_169
                · have h57 := ib_nle k49
                  have b58 : Bd x130_2 (0) (-1) := ⟨(Bx130_2).1, ((rf_lt Bx130_2 b38 h57).1).2⟩
                  exact absurd (Int.le_trans b58.1 b58.2) (by decide)
            obtain ⟨n130, hn130⟩ := fu_n (0)
            exact loop130 n130 _ _ _ 0 (by decide : Bd 0 (0) (0)) (by have : (0 : Int32).toInt = 0 := (by decide); omega) hQ (lv_sub hl [0, 1, 2] rfl)
        · have h59 := ib_nle k39
          have b60 : Bd x57_2 (0) (-1) := ⟨(Bx57_2).1, ((rf_lt Bx57_2 b38 h59).1).2⟩
          exact absurd (Int.le_trans b60.1 b60.2) (by decide)
    obtain ⟨n57, hn57⟩ := fu_n (0)
    exact loop57 n57 _ _ _ 0 (by decide : Bd 0 (0) (0)) (by have : (0 : Int32).toInt = 0 := (by decide); omega) hQ (lv_sub hl [0, 1, 2] rfl)
  · have h61 := ib_nle k36
    have b62 : Bd v33 (1) (3) := ⟨((rf_lt ba1 b35 h61).2).1, (b35).2⟩
    refine lv_iconst (v := 0) hx hb dX12_rests_11 (by decide) ?_
    refine lv_istore_n (lv' := [(2, .int 0), (0, .ref (ad 0)), (1, .int a1)]) hx hb dX12_rests_12 rfl hl (by decide) rfl (fun ls hl => ?_)
    have loop13 : ∀ (n : Nat) (S_13 : SS) (H : Heap) (locs : List Loc) (ls : Array Slot) (x13_2 : Int32) (y13_0_0 : Int32) (y13_0_6 : Int32) (y13_0_7 : Int32) (y13_0_8 : Int32) (y13_0_9 : Int32) (y13_0_10 : Int32) (wy13_0_11 : Int64) (y13_0_12 : Int32) (y13_0_13 : Int32) (y13_0_14 : Int32) (y13_0_15 : Int32) (y13_0_26 : Int32) (y13_0_27 : Int32) (y13_0_29 : Int32) (y13_0_30 : Int32) (y13_0_31 : Int32) (y13_0_32 : Int32) (y13_0_33 : Int32) (y13_0_36 : Int32), Bd x13_2 (0) (12) → Bd y13_0_6 (0) (1200) → Bd y13_0_7 (0) (1200) → Bd y13_0_8 (0) (4) → Bd y13_0_12 (0) (3) → Bd y13_0_26 (0) (11) → Bd y13_0_27 (-1) (400) → Bd y13_0_29 (0) (2) → Bd y13_0_30 (0) (11) → Bd y13_0_31 (-1) (468) → (-1) * x13_2.toInt + 12 < ((n : Nat) : Int) → InvM g ad S_13 → (∀ j, j ∉ ([0, 14, 18] : List Nat) → S_13 j = S j) → S_13 0 = .inr (12, [.int y13_0_0, .ref (ad 1), .ref (ad 2), .ref (ad 3), .ref (ad 4), .ref (ad 5), .int y13_0_6, .int y13_0_7, .int y13_0_8, .int y13_0_9, .int y13_0_10, .long wy13_0_11, .int y13_0_12, .int y13_0_13, .int y13_0_14, .int y13_0_15, .ref (ad 6), .ref (ad 7), .ref (ad 8), .ref (ad 9), .ref (ad 10), .ref (ad 11), .ref (ad 12), .ref (ad 13), .ref (ad 14), .ref (ad 15), .int y13_0_26, .int y13_0_27, .ref (ad 16), .int y13_0_29, .int y13_0_30, .int y13_0_31, .int y13_0_32, .int y13_0_33, .ref (ad 17), .ref (ad 18), .int y13_0_36, .ref (ad 19)]) → Hp g ad 20 S_13 (FA ad 20) s.heap H locs → lv_has ls 4 [(2, .int x13_2), (0, .ref (ad 0)), (1, .int a1)] → W p l e (Rm 5) s m [.ref (ad 0), .int a1].toArray below meth c H locs 0 0 (MQ below (va_Qv (fun S' => InvM g ad S' ∧ (∀ j, j ∉ ([0, 14, 18] : List Nat) → S' j = S j)) (QB g ad 20) (FA ad 20)) [.ref (ad 0), .int a1].toArray s 0 0 (FA ad 20)) (F0 m 13 ls []) := by
      intro n
      induction n with
      | zero => intro S_13 H locs ls x13_2 y13_0_0 y13_0_6 y13_0_7 y13_0_8 y13_0_9 y13_0_10 wy13_0_11 y13_0_12 y13_0_13 y13_0_14 y13_0_15 y13_0_26 y13_0_27 y13_0_29 y13_0_30 y13_0_31 y13_0_32 y13_0_33 y13_0_36 Bx13_2 By13_0_6 By13_0_7 By13_0_8 By13_0_12 By13_0_26 By13_0_27 By13_0_29 By13_0_30 By13_0_31 hn13_ hI hf13 cl13_0 hQ hl; exfalso; have := (Bx13_2).2; omega
      | succ n13_ ih13 =>
        intro S_13 H locs ls x13_2 y13_0_0 y13_0_6 y13_0_7 y13_0_8 y13_0_9 y13_0_10 wy13_0_11 y13_0_12 y13_0_13 y13_0_14 y13_0_15 y13_0_26 y13_0_27 y13_0_29 y13_0_30 y13_0_31 y13_0_32 y13_0_33 y13_0_36 Bx13_2 By13_0_6 By13_0_7 By13_0_8 By13_0_12 By13_0_26 By13_0_27 By13_0_29 By13_0_30 By13_0_31 hn13_ hI hf13 cl13_0 hQ hl
        refine lv_iload_n hx hb dX12_rests_13 rfl (lv_at hl 0 rfl) ?_
        refine lv_aload_n hx hb dX12_rests_14 rfl (lv_at hl 1 rfl) ?_
        refine xget E hQ 0 (by decide) cl13_0 rfl 17 (by decide) q1485 rfl dX12_rests_15 ?_
        refine lv_iconst (v := 0) hx hb dX12_rests_18 (by decide) ?_
        have c63 : S_13 7 = .inl (g.2 0, 50, .inl f30) := ((hf13 7 (by decide)).trans c31)
        refine xiald E hQ 7 (by decide) c63 (vp_in_lit 0 50 (by decide)) dX12_rests_19 ?_
        obtain ⟨v64, ee65⟩ : ∃ z : Int32, f30 0 = z := ⟨_, rfl⟩
        have b66 : Bd v64 (0) (12) := (by rw [← ee65]; exact b32.1 0 (by decide))
        refine sb_at (P := fun z => W _ _ _ _ _ _ _ _ _ _ _ _ _ _ _ (F0 _ _ _ (.int z :: _))) (show f30 (0 : Int32).toNatClampNeg = v64 from ee65) ?_
        refine lv_icmp_ge (tgt := 54) hx hb dX12_rests_20 (by decide) (fun k67 => ?_) (fun k67 => ?_)
        · have h68 := ib_le k67
          exact xrv E hr hlk hQ (⟨hI, (o_trans o_refl hf13 (by decide))⟩) dX12_rests_54
        · have h69 := ib_nle k67
          have b70 : Bd x13_2 (0) (11) := ⟨(Bx13_2).1, ((rf_lt Bx13_2 b66 h69).1).2⟩
          have b71 : Bd v64 (1) (12) := ⟨((rf_lt Bx13_2 b66 h69).2).1, (b66).2⟩
          refine lv_aload_n hx hb dX12_rests_23 rfl (lv_at hl 1 rfl) ?_
          refine lv_iload_n hx hb dX12_rests_24 rfl (lv_at hl 0 rfl) ?_
          refine xcVi E hs hQ hml hl.1 0 (gX12_isBeach_0 l g ad hD S_13 hI x13_2) mX12_isBeach q1755 (by decide) cl13_0 rfl rfl ⟨(Nat.le_of_ble_eq_true rfl), (Nat.le_of_ble_eq_true rfl)⟩ ⟨(Nat.le_of_ble_eq_true rfl), (Nat.le_of_ble_eq_true rfl)⟩ (Nat.le_of_ble_eq_true rfl) rfl dX12_rests_25 (fun r72 S72 H locs hp72 hQ _ => ?_)
          obtain ⟨rfl, b72, fg72⟩ := hp72
          refine lv_if_ne (tgt := 34) hx hb dX12_rests_28 (by decide) (fun k73 => ?_) (fun k73 => ?_)
          · have h74 := ib_ne k73
            have b75 : Bd r72 (1) (1) := rf_nlo b72 (by decide : Bd 0 (0) (0)) h74
            refine lv_aload_n hx hb dX12_rests_34 rfl (lv_at hl 1 rfl) ?_
            refine xget E hQ 0 (by decide) cl13_0 rfl 24 (by decide) q1492 rfl dX12_rests_35 ?_
            refine lv_iload_n hx hb dX12_rests_38 rfl (lv_at hl 2 rfl) ?_
            refine lv_iload_n hx hb dX12_rests_39 rfl (lv_at hl 0 rfl) ?_
            obtain ⟨f76, c77, b78⟩ := invM_14 hI
            refine xiast E hs hQ 14 (by decide) c77 (ib_in ba1 (by decide) (by decide)) dX12_rests_40 (fun H locs S79 eS79 hQ => ?_)
            have hI := invM_up_14 hI eS79 ⟨_, rfl, upd_b b78 b70⟩
            have b81 : ∀ j, Bd ((upd f76 (a1 : Int32).toNatClampNeg x13_2) j) (0) (11) := upd_b b78 b70
            have c80 : S79 14 = .inl (g.2 0, 3, .inl (upd f76 (a1 : Int32).toNatClampNeg x13_2)) := up_at eS79 rfl
            refine lv_aload_n hx hb dX12_rests_41 rfl (lv_at hl 1 rfl) ?_
            refine lv_iload_n hx hb dX12_rests_42 rfl (lv_at hl 2 rfl) ?_
            refine lv_iconst (v := 1) hx hb dX12_rests_43 (by decide) ?_
            refine lv_iadd hx hb dX12_rests_44 ?_
            refine lv_topi (fun z82 e83 => ?_)
            have t84 := ib_add e83 ba1 (by decide : Bd 1 (1) (1)) (by decide) (by decide)
            have b85 : Bd z82 (1) (1) := ib_addb t84 ba1 (by decide : Bd 1 (1) (1))
            have t84 : z82.toInt = a1.toInt + 1 := fold_add t84 rfl (by decide)
            have c87 : S79 0 = .inr (12, [.int y13_0_0, .ref (ad 1), .ref (ad 2), .ref (ad 3), .ref (ad 4), .ref (ad 5), .int y13_0_6, .int y13_0_7, .int y13_0_8, .int y13_0_9, .int y13_0_10, .long wy13_0_11, .int y13_0_12, .int y13_0_13, .int y13_0_14, .int y13_0_15, .ref (ad 6), .ref (ad 7), .ref (ad 8), .ref (ad 9), .ref (ad 10), .ref (ad 11), .ref (ad 12), .ref (ad 13), .ref (ad 14), .ref (ad 15), .int y13_0_26, .int y13_0_27, .ref (ad 16), .int y13_0_29, .int y13_0_30, .int y13_0_31, .int y13_0_32, .int y13_0_33, .ref (ad 17), .ref (ad 18), .int y13_0_36, .ref (ad 19)]) := (up_ne eS79 (by decide) cl13_0)
            refine xcVv E hs hQ hml hl.1 0 (gX12_rests_1 l g ad hD S79 hI z82 b85) mX12_rests q2082 (by decide) c87 rfl rfl ⟨(Nat.le_of_ble_eq_true rfl), (Nat.le_of_ble_eq_true rfl)⟩ ⟨(Nat.le_of_ble_eq_true rfl), (Nat.le_of_ble_eq_true rfl)⟩ (Nat.le_of_ble_eq_true rfl) rfl dX12_rests_45 (fun S86 H locs hp86 hQ _ => ?_)
            obtain ⟨hI, o86⟩ := hp86
            obtain ⟨z88, e89⟩ : ∃ z : Int32, z = x13_2 + 1 := ⟨_, rfl⟩
            have t90 := ib_add e89 b70 (by decide : Bd 1 (1) (1)) (by decide) (by decide)
            have b91 : Bd z88 (1) (12) := ib_addb t90 b70 (by decide : Bd 1 (1) (1))
            have t90 : z88.toInt = x13_2.toInt + 1 := fold_add t90 rfl (by decide)
            refine lv_iinc (v := z88) (lv' := [(2, .int z88), (0, .ref (ad 0)), (1, .int a1)]) hx hb dX12_rests_48 hl (k := 0) rfl (by rw [e89]; rfl) (by decide) rfl (fun ls hl => ?_)
            refine lv_goto (tgt := 13) hx hb dX12_rests_51 (by decide) ?_
            obtain ⟨v92, v93, v95, v97, v99, v100, w101, v102, v104, v105, v106, v107, v109, v111, v113, v115, v117, v118, v119, c120, b94, b96, b98, b103, b108, b110, b112, b114, b116⟩ := invM_0 hI
            have c120 : S86 0 = .inr (12, [.int v92, .ref (ad 1), .ref (ad 2), .ref (ad 3), .ref (ad 4), .ref (ad 5), .int v93, .int v95, .int v97, .int v99, .int v100, .long w101, .int v102, .int v104, .int v105, .int v106, .ref (ad 6), .ref (ad 7), .ref (ad 8), .ref (ad 9), .ref (ad 10), .ref (ad 11), .ref (ad 12), .ref (ad 13), .ref (ad 14), .ref (ad 15), .int v107, .int v109, .ref (ad 16), .int v111, .int v113, .int v115, .int v117, .int v118, .ref (ad 17), .ref (ad 18), .int v119, .ref (ad 19)]) := c120
            exact ih13 _ _ _ _ z88 v92 v93 v95 v97 v99 v100 w101 v102 v104 v105 v106 v107 v109 v111 v113 v115 v117 v118 v119 (ib_wk b91 (by decide) (by decide)) b94 b96 b98 b103 b108 b110 b112 b114 b116 (by omega) hI (o_trans (up_o hf13 eS79 (by decide)) o86 (by decide)) c120 hQ (lv_sub hl [0, 1, 2] rfl)
          · have h121 := ib_eq k73
            have b122 : Bd r72 (0) (0) := ⟨(b72).1, ((rf_eq b72 (by decide : Bd 0 (0) (0)) h121).1).2⟩
            refine lv_goto (tgt := 48) hx hb dX12_rests_31 (by decide) ?_
            obtain ⟨z123, e124⟩ : ∃ z : Int32, z = x13_2 + 1 := ⟨_, rfl⟩
            have t125 := ib_add e124 b70 (by decide : Bd 1 (1) (1)) (by decide) (by decide)
            have b126 : Bd z123 (1) (12) := ib_addb t125 b70 (by decide : Bd 1 (1) (1))
            have t125 : z123.toInt = x13_2.toInt + 1 := fold_add t125 rfl (by decide)
            refine lv_iinc (v := z123) (lv' := [(2, .int z123), (0, .ref (ad 0)), (1, .int a1)]) hx hb dX12_rests_48 hl (k := 0) rfl (by rw [e124]; rfl) (by decide) rfl (fun ls hl => ?_)
            refine lv_goto (tgt := 13) hx hb dX12_rests_51 (by decide) ?_
            exact ih13 _ _ _ _ z123 y13_0_0 y13_0_6 y13_0_7 y13_0_8 y13_0_9 y13_0_10 wy13_0_11 y13_0_12 y13_0_13 y13_0_14 y13_0_15 y13_0_26 y13_0_27 y13_0_29 y13_0_30 y13_0_31 y13_0_32 y13_0_33 y13_0_36 (ib_wk b126 (by decide) (by decide)) By13_0_6 By13_0_7 By13_0_8 By13_0_12 By13_0_26 By13_0_27 By13_0_29 By13_0_30 By13_0_31 (by omega) hI hf13 cl13_0 hQ (lv_sub hl [0, 1, 2] rfl)
    obtain ⟨n13, hn13⟩ := fu_n (12)
    exact loop13 n13 _ _ _ _ 0 v1 v2 v4 v6 v8 v9 w10 v11 v13 v14 v15 v16 v18 v20 v22 v24 v26 v27 v28 (ib_wk (by decide : Bd 0 (0) (0)) (by decide) (by decide)) b3 b5 b7 b12 b17 b19 b21 b23 b25 (by have : (0 : Int32).toInt = 0 := (by decide); omega) hI o_refl c29 hQ (lv_sub hl [0, 1, 2] rfl)
set_option maxHeartbeats 4000000 in
set_option maxRecDepth 100000 in
theorem gX12_restsNow_0 (l : Launch) (g : GG) (ad : Nat → Nat) (hD : Dj ad 20) (S : SS) (hI : InvM g ad S) (hq1 : 0 ≤ 12 * elm (S 7) 1 + (-1) * elm (S 7) 0) (hq2 : 0 ≤ 12 * elm (S 7) 3 + (-1) * elm (S 7) 0) (hq3 : 0 ≤ 8 * elm (S 7) 0 + (-1) * elm (S 7) 6) (hq4 : 0 ≤ 3 * elm (S 7) 0 + (-1) * elm (S 7) 8) (hq5 : 0 ≤ 40000 * elm (S 7) 0 + (-1) * elm (S 6) 0) (hAT : ATp (S 7) (S 12) 0) : Met l yX12_restsNow (wG (.code yX12_restsNow cX12_restsNow 1 (some .int))) (Rm 6) (XPre g ad 20 S [.ref (ad 0)]) (va_Qi (fun _ S' => InvM g ad S' ∧ (∀ j, j ∉ ([0, 14, 15, 17, 18] : List Nat) → S' j = S j)) (QB g ad 20) (FA ad 20)) 0 0 (FA ad 20) := by
  refine xmet cX12_restsNow "EbbWreckModel" (by decide) rfl (Nat.le_of_ble_eq_true rfl) (fun p e s m below meth c E hr hlk hml hQ ls hl => ?_)
  have hx := E.1
  have hb := E.2.1
  have hs : Sp ad 20 (FA ad 20) := Sp.fa hD
  have hl : lv_has ls 1 [(0, .ref (ad 0))] := hl
  obtain ⟨f1, c2, b3⟩ := invM_7 hI
  obtain ⟨v4, ee5⟩ : ∃ z : Int32, f1 1 = z := ⟨_, rfl⟩
  have b6 : Bd v4 (0) (12) := (by rw [← ee5]; exact b3.2.1 1 (by decide))
  obtain ⟨v7, ee8⟩ : ∃ z : Int32, f1 0 = z := ⟨_, rfl⟩
  have b9 : Bd v7 (0) (12) := (by rw [← ee8]; exact b3.1 0 (by decide))
  obtain ⟨v10, ee11⟩ : ∃ z : Int32, f1 3 = z := ⟨_, rfl⟩
  have b12 : Bd v10 (0) (12) := (by rw [← ee11]; exact b3.2.2.2.1 3 (by decide))
  obtain ⟨v13, ee14⟩ : ∃ z : Int32, f1 6 = z := ⟨_, rfl⟩
  have b15 : Bd v13 (0) (8) := (by rw [← ee14]; exact b3.2.2.2.2.1 6 (by decide))
  obtain ⟨v16, ee17⟩ : ∃ z : Int32, f1 8 = z := ⟨_, rfl⟩
  have b18 : Bd v16 (0) (3) := (by rw [← ee17]; exact b3.2.2.2.2.2.2.1 8 (by decide))
  obtain ⟨f19, c20, b21⟩ := invM_6 hI
  obtain ⟨v22, ee23⟩ : ∃ z : Int32, f19 0 = z := ⟨_, rfl⟩
  have b24 : Bd v22 (0) (40000) := (by rw [← ee23]; exact b21 0)
  have q25 : elm (S 7) 1 = v4.toInt := (elm_of c2 1).trans (congrArg Int32.toInt (ee5))
  have q26 : elm (S 7) 0 = v7.toInt := (elm_of c2 0).trans (congrArg Int32.toInt (ee8))
  have q27 : elm (S 7) 3 = v10.toInt := (elm_of c2 3).trans (congrArg Int32.toInt (ee11))
  have q28 : elm (S 7) 6 = v13.toInt := (elm_of c2 6).trans (congrArg Int32.toInt (ee14))
  have q29 : elm (S 7) 8 = v16.toInt := (elm_of c2 8).trans (congrArg Int32.toInt (ee17))
  have q30 : elm (S 6) 0 = v22.toInt := (elm_of c20 0).trans (congrArg Int32.toInt (ee23))
  refine lv_aload_n hx hb dX12_restsNow_0 rfl (lv_at hl 0 rfl) ?_
  obtain ⟨v32, v33, v35, v37, v39, v40, w41, v42, v44, v45, v46, v47, v49, v51, v53, v55, v57, v58, v59, c60, b34, b36, b38, b43, b48, b50, b52, b54, b56⟩ := invM_0 hI
  have c60 : S 0 = .inr (12, [.int v32, .ref (ad 1), .ref (ad 2), .ref (ad 3), .ref (ad 4), .ref (ad 5), .int v33, .int v35, .int v37, .int v39, .int v40, .long w41, .int v42, .int v44, .int v45, .int v46, .ref (ad 6), .ref (ad 7), .ref (ad 8), .ref (ad 9), .ref (ad 10), .ref (ad 11), .ref (ad 12), .ref (ad 13), .ref (ad 14), .ref (ad 15), .int v47, .int v49, .ref (ad 16), .int v51, .int v53, .int v55, .int v57, .int v58, .ref (ad 17), .ref (ad 18), .int v59, .ref (ad 19)]) := c60
  refine xcVv E hs hQ hml hl.1 0 (gX12_laysStrands_0 l g ad hD S hI (by omega) (by omega) (by omega) (by omega) (by omega) hAT) mX12_laysStrands q2058 (by decide) c60 rfl rfl ⟨(Nat.le_of_ble_eq_true rfl), (Nat.le_of_ble_eq_true rfl)⟩ ⟨(Nat.le_of_ble_eq_true rfl), (Nat.le_of_ble_eq_true rfl)⟩ (Nat.le_of_ble_eq_true rfl) rfl dX12_restsNow_1 (fun S31 H locs hp31 hQ _ => ?_)
  obtain ⟨hI, o31⟩ := hp31
  refine lv_aload_n hx hb dX12_restsNow_4 rfl (lv_at hl 0 rfl) ?_
  refine lv_iconst (v := 0) hx hb dX12_restsNow_5 (by decide) ?_
  obtain ⟨v61, v62, v64, v66, v68, v69, w70, v71, v73, v74, v75, v76, v78, v80, v82, v84, v86, v87, v88, c89, b63, b65, b67, b72, b77, b79, b81, b83, b85⟩ := invM_0 hI
  have c89 : S31 0 = .inr (12, [.int v61, .ref (ad 1), .ref (ad 2), .ref (ad 3), .ref (ad 4), .ref (ad 5), .int v62, .int v64, .int v66, .int v68, .int v69, .long w70, .int v71, .int v73, .int v74, .int v75, .ref (ad 6), .ref (ad 7), .ref (ad 8), .ref (ad 9), .ref (ad 10), .ref (ad 11), .ref (ad 12), .ref (ad 13), .ref (ad 14), .ref (ad 15), .int v76, .int v78, .ref (ad 16), .int v80, .int v82, .int v84, .int v86, .int v87, .ref (ad 17), .ref (ad 18), .int v88, .ref (ad 19)]) := c89
  refine xputi E hs hQ 0 (by decide) c89 rfl 36 (by decide) q1504 rfl rfl (Nat.le_of_ble_eq_true rfl) dX12_restsNow_6 (fun H locs S90 eS90 hQ => ?_)
  have hI := invM_up_0 hI eS90 ⟨v61, v62, v64, v66, v68, v69, w70, v71, v73, v74, v75, v76, v78, v80, v82, v84, v86, v87, 0, rfl, b63, b65, b67, b72, b77, b79, b81, b83, b85⟩
  have c91 : S90 0 = .inr (12, [.int v61, .ref (ad 1), .ref (ad 2), .ref (ad 3), .ref (ad 4), .ref (ad 5), .int v62, .int v64, .int v66, .int v68, .int v69, .long w70, .int v71, .int v73, .int v74, .int v75, .ref (ad 6), .ref (ad 7), .ref (ad 8), .ref (ad 9), .ref (ad 10), .ref (ad 11), .ref (ad 12), .ref (ad 13), .ref (ad 14), .ref (ad 15), .int v76, .int v78, .ref (ad 16), .int v80, .int v82, .int v84, .int v86, .int v87, .ref (ad 17), .ref (ad 18), .int 0, .ref (ad 19)]) := up_at eS90 rfl
  refine lv_aload_n hx hb dX12_restsNow_9 rfl (lv_at hl 0 rfl) ?_
  refine lv_iconst (v := 0) hx hb dX12_restsNow_10 (by decide) ?_
  refine xcVv E hs hQ hml hl.1 0 (gX12_rests_0 l g ad hD S90 hI 0 (by decide : Bd 0 (0) (0))) mX12_rests q2082 (by decide) c91 rfl rfl ⟨(Nat.le_of_ble_eq_true rfl), (Nat.le_of_ble_eq_true rfl)⟩ ⟨(Nat.le_of_ble_eq_true rfl), (Nat.le_of_ble_eq_true rfl)⟩ (Nat.le_of_ble_eq_true rfl) rfl dX12_restsNow_11 (fun S92 H locs hp92 hQ _ => ?_)
  obtain ⟨hI, o92⟩ := hp92
  refine lv_aload_n hx hb dX12_restsNow_14 rfl (lv_at hl 0 rfl) ?_
  obtain ⟨v93, v94, v96, v98, v100, v101, w102, v103, v105, v106, v107, v108, v110, v112, v114, v116, v118, v119, v120, c121, b95, b97, b99, b104, b109, b111, b113, b115, b117⟩ := invM_0 hI
  have c121 : S92 0 = .inr (12, [.int v93, .ref (ad 1), .ref (ad 2), .ref (ad 3), .ref (ad 4), .ref (ad 5), .int v94, .int v96, .int v98, .int v100, .int v101, .long w102, .int v103, .int v105, .int v106, .int v107, .ref (ad 6), .ref (ad 7), .ref (ad 8), .ref (ad 9), .ref (ad 10), .ref (ad 11), .ref (ad 12), .ref (ad 13), .ref (ad 14), .ref (ad 15), .int v108, .int v110, .ref (ad 16), .int v112, .int v114, .int v116, .int v118, .int v119, .ref (ad 17), .ref (ad 18), .int v120, .ref (ad 19)]) := c121
  refine xget E hQ 0 (by decide) c121 rfl 36 (by decide) q1504 rfl dX12_restsNow_15 ?_
  exact xri E hr hlk hQ (⟨hI, (o_trans (up_o (o_trans o_refl o31 (by decide)) eS90 (by decide)) o92 (by decide))⟩) dX12_restsNow_18
