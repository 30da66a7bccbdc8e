set_option maxHeartbeats 4000000 in
set_option maxRecDepth 100000 in
theorem uX12_isSlot (l : Launch) (g : GG) (ad : Nat → Nat) (N : Nat) (hD : Dj ad N) (S : SS) (a1 : Int32) : Met l yX12_isSlot (wG (.code yX12_isSlot cX12_isSlot 1 (some .boolean))) (Rm 1) (XPre g ad N S [.int a1]) (va_Qi (fun r S' => S = S' ∧ ((r = 1 ∧ ¬ a1 < 0 ∧ ¬ 4 ≤ a1) ∨ (r = 0 ∧ (a1 < 0 ∨ 4 ≤ a1)))) (QB g ad N) (FA ad N)) 0 0 (FA ad N) := by
  refine xmet cX12_isSlot "EbbWreckModel" (by decide) rfl (Nat.le_of_ble_eq_true rfl) (fun p e s m below meth c E hr hlk hml hQ ls hl => ?_)
  have hx := E.1
  have hb := E.2.1
  have hs : Sp ad N (FA ad N) := Sp.fa hD
  have hl : lv_has ls 1 [(0, .int a1)] := hl
  refine lv_iload_n hx hb dX12_isSlot_0 rfl (lv_at hl 0 rfl) ?_
  refine lv_i2l hx hb dX12_isSlot_1 rfl ?_
  refine lv_lconst (v := 0) hx hb dX12_isSlot_2 (by decide) ?_
  refine lv_ldc2 (v := 3) hx hb E.2.2.1 (E.2.2.2.1 _ q1590) dX12_isSlot_3 ?_
  refine xcSi E hs hQ hml hl.1 (uX12_in l g ad _ hD S a1.toInt64 0 3) mX12_in q1591 rfl ⟨by decide, by decide⟩ ⟨by decide, by decide⟩ (Nat.le_of_ble_eq_true rfl) rfl dX12_isSlot_6 (fun r1 S1 H locs hp1 hQ => ?_)
  obtain ⟨rfl, hp1⟩ := hp1
  rcases hp1 with ⟨rfl, i1, j1⟩ | ⟨rfl, i1⟩
  · exact xrz E hr hlk hQ rfl (by simp only [i32_lt, i32_le, i32_eq, i64_lt, i64_le, w64, l_0, l_1, l_2, l_3, l_4, l_60, l_m1, L_0, L_2, L_3, L_9] at i1 j1; exact ⟨rfl, Or.inl ⟨rfl, by simp only [i32_lt, i32_le, i32_eq, i64_lt, i64_le, w64, l_0, l_1, l_2, l_3, l_4, l_60, l_m1, L_0, L_2, L_3, L_9]; omega, by simp only [i32_lt, i32_le, i32_eq, i64_lt, i64_le, w64, l_0, l_1, l_2, l_3, l_4, l_60, l_m1, L_0, L_2, L_3, L_9]; omega⟩⟩) dX12_isSlot_9
  · exact xrz E hr hlk hQ rfl (by simp only [i32_lt, i32_le, i32_eq, i64_lt, i64_le, w64, l_0, l_1, l_2, l_3, l_4, l_60, l_m1, L_0, L_2, L_3, L_9] at i1; exact ⟨rfl, Or.inr ⟨rfl, by simp only [i32_lt, i32_le, i32_eq, i64_lt, i64_le, w64, l_0, l_1, l_2, l_3, l_4, l_60, l_m1, L_0, L_2, L_3, L_9]; omega⟩⟩) dX12_isSlot_9
set_option maxHeartbeats 4000000 in
set_option maxRecDepth 100000 in
theorem fX12_whyNot (l : Launch) (g : GG) (ad : Nat → Nat) (hD : Dj ad 20) (S : SS) (hX : ∀ i, i < 20 → S i = M0 g ad i) (a1 : Int32) : Met l yX12_whyNot (wG (.code yX12_whyNot cX12_whyNot 4 (some .int))) (Rm 2) (XPre g ad 20 S [.ref (ad 0), .int a1]) (va_Qi (fun r S' => S = S' ∧ r = (-2)) (QB g ad 20) (FA ad 20)) 0 0 (FA ad 20) := by
  refine xmet cX12_whyNot "EbbWreckModel" (by decide) rfl (Nat.le_of_ble_eq_true rfl) (fun p e s m below meth c E hr hlk hml hQ ls hl => ?_)
  have hx := E.1
  have hb := E.2.1
  have hs : Sp ad 20 (FA ad 20) := Sp.fa hD
  have hl : lv_has ls 4 [(0, .ref (ad 0)), (1, .int a1)] := hl
  refine lv_iload_n hx hb dX12_whyNot_0 rfl (lv_at hl 1 rfl) ?_
  refine xcSi E hs hQ hml hl.1 (uX12_isSlot l g ad _ hD S a1) mX12_isSlot q1587 rfl ⟨by decide, by decide⟩ ⟨by decide, by decide⟩ (Nat.le_of_ble_eq_true rfl) rfl dX12_whyNot_1 (fun r1 S1 H locs hp1 hQ => ?_)
  obtain ⟨rfl, hp1⟩ := hp1
  rcases hp1 with ⟨rfl, i1, j1⟩ | ⟨rfl, i1⟩
  · refine lv_if_eq (tgt := 14) hx hb dX12_whyNot_4 (by decide) (fun k_2 => absurd k_2 (by decide)) (fun k_2 => ?_)
    refine lv_aload_n hx hb dX12_whyNot_7 rfl (lv_at hl 0 rfl) ?_
    have c_3 : S 0 = .inr (12, [.int 0, .ref (ad 1), .ref (ad 2), .ref (ad 3), .ref (ad 4), .ref (ad 5), .int 0, .int 0, .int 0, .int 0, .int 0, .long 0, .int 0, .int 0, .int 0, .int (-1), .ref (ad 6), .ref (ad 7), .ref (ad 8), .ref (ad 9), .ref (ad 10), .ref (ad 11), .ref (ad 12), .ref (ad 13), .ref (ad 14), .ref (ad 15), .int 0, .int 0, .ref (ad 16), .int 0, .int 0, .int 0, .int 0, .int 0, .ref (ad 17), .ref (ad 18), .int 0, .ref (ad 19)]) := (hX 0 (by decide))
    refine xcVi E hs hQ hml hl.1 0 (fX12_isShore l g ad hD S hX ) mX12_isShore q1782 (by decide) c_3 rfl rfl ⟨by decide, by decide⟩ ⟨by decide, by decide⟩ (Nat.le_of_ble_eq_true rfl) rfl dX12_whyNot_8 (fun r4 S4 H locs hp4 hQ _ => ?_)
    obtain ⟨rfl, rfl⟩ := hp4
    refine lv_if_ne (tgt := 17) hx hb dX12_whyNot_11 (by decide) (fun k_5 => absurd k_5 (by decide)) (fun k_5 => ?_)
    refine lv_bipush (v := (-2)) hx hb dX12_whyNot_14 (by decide) ?_
    exact xri E hr hlk hQ (⟨rfl, rfl⟩) dX12_whyNot_16
  · refine lv_if_eq (tgt := 14) hx hb dX12_whyNot_4 (by decide) (fun k_6 => ?_) (fun k_6 => absurd k_6 (by decide))
    refine lv_bipush (v := (-2)) hx hb dX12_whyNot_14 (by decide) ?_
    exact xri E hr hlk hQ (⟨rfl, rfl⟩) dX12_whyNot_16
set_option maxHeartbeats 4000000 in
set_option maxRecDepth 100000 in
theorem fX12_fits (l : Launch) (g : GG) (ad : Nat → Nat) (hD : Dj ad 20) (S : SS) (hX : ∀ i, i < 20 → S i = M0 g ad i) (a1 : Int32) : Met l yX12_fits (wG (.code yX12_fits cX12_fits 3 (some .int))) (Rm 3) (XPre g ad 20 S [.ref (ad 0), .int a1]) (va_Qi (fun r _ => r = (-2)) (QB g ad 20) (FA ad 20)) 0 0 (FA ad 20) := by
  refine xmet cX12_fits "EbbWreckModel" (by decide) rfl (Nat.le_of_ble_eq_true rfl) (fun p e s m below meth c E hr hlk hml hQ ls hl => ?_)
  have hx := E.1
  have hb := E.2.1
  have hs : Sp ad 20 (FA ad 20) := Sp.fa hD
  have hl : lv_has ls 3 [(0, .ref (ad 0)), (1, .int a1)] := hl
  refine lv_aload_n hx hb dX12_fits_0 rfl (lv_at hl 0 rfl) ?_
  refine lv_iconst (v := 0) hx hb dX12_fits_1 (by decide) ?_
  have c_1 : S 0 = .inr (12, [.int 0, .ref (ad 1), .ref (ad 2), .ref (ad 3), .ref (ad 4), .ref (ad 5), .int 0, .int 0, .int 0, .int 0, .int 0, .long 0, .int 0, .int 0, .int 0, .int (-1), .ref (ad 6), .ref (ad 7), .ref (ad 8), .ref (ad 9), .ref (ad 10), .ref (ad 11), .ref (ad 12), .ref (ad 13), .ref (ad 14), .ref (ad 15), .int 0, .int 0, .ref (ad 16), .int 0, .int 0, .int 0, .int 0, .int 0, .ref (ad 17), .ref (ad 18), .int 0, .ref (ad 19)]) := (hX 0 (by decide))
  refine xputi E hs hQ 0 (by decide) c_1 rfl 0 (by decide) q1468 rfl rfl (Nat.le_of_ble_eq_true rfl) dX12_fits_2 (fun H locs S2 e2 hQ => ?_)
  have hX : ∀ i, i < 20 → S2 i = M0 g ad i := same_up hX e2 rfl
  refine lv_aload_n hx hb dX12_fits_5 rfl (lv_at hl 0 rfl) ?_
  refine lv_iload_n hx hb dX12_fits_6 rfl (lv_at hl 1 rfl) ?_
  have c_3 : S2 0 = .inr (12, [.int 0, .ref (ad 1), .ref (ad 2), .ref (ad 3), .ref (ad 4), .ref (ad 5), .int 0, .int 0, .int 0, .int 0, .int 0, .long 0, .int 0, .int 0, .int 0, .int (-1), .ref (ad 6), .ref (ad 7), .ref (ad 8), .ref (ad 9), .ref (ad 10), .ref (ad 11), .ref (ad 12), .ref (ad 13), .ref (ad 14), .ref (ad 15), .int 0, .int 0, .ref (ad 16), .int 0, .int 0, .int 0, .int 0, .int 0, .ref (ad 17), .ref (ad 18), .int 0, .ref (ad 19)]) := (hX 0 (by decide))
  refine xcVi E hs hQ hml hl.1 0 (fX12_whyNot l g ad hD S2 hX a1) mX12_whyNot q2019 (by decide) c_3 rfl rfl ⟨by decide, by decide⟩ ⟨by decide, by decide⟩ (Nat.le_of_ble_eq_true rfl) rfl dX12_fits_7 (fun r4 S4 H locs hp4 hQ _ => ?_)
  obtain ⟨rfl, rfl⟩ := hp4
  refine lv_istore_n (lv' := [(2, .int (-2)), (0, .ref (ad 0)), (1, .int a1)]) hx hb dX12_fits_10 rfl hl (by decide) rfl (fun ls hl => ?_)
  refine lv_iload_n hx hb dX12_fits_11 rfl (lv_at hl 0 rfl) ?_
  refine lv_if_eq (tgt := 19) hx hb dX12_fits_12 (by decide) (fun k_5 => absurd k_5 (by decide)) (fun k_5 => ?_)
  refine lv_iload_n hx hb dX12_fits_15 rfl (lv_at hl 0 rfl) ?_
  refine lv_goto (tgt := 24) hx hb dX12_fits_16 (by decide) ?_
  exact xri E hr hlk hQ (rfl) dX12_fits_24
set_option maxHeartbeats 4000000 in
set_option maxRecDepth 100000 in
theorem fX12_fit (l : Launch) (g : GG) (ad : Nat → Nat) (hD : Dj ad 20) (S : SS) (hX : ∀ i, i < 20 → S i = M0 g ad i) (a1 : Int32) (a2 : Int32) : Met l yX12_fit (wG (.code yX12_fit cX12_fit 6 (some .int))) (Rm 3) (XPre g ad 20 S [.ref (ad 0), .int a1, .int a2]) (va_Qi (fun r _ => r = (-1000)) (QB g ad 20) (FA ad 20)) 0 0 (FA ad 20) := by
  refine xmet cX12_fit "EbbWreckModel" (by decide) rfl (Nat.le_of_ble_eq_true rfl) (fun p e s m below meth c E hr hlk hml hQ ls hl => ?_)
  have hx := E.1
  have hb := E.2.1
  have hs : Sp ad 20 (FA ad 20) := Sp.fa hD
  have hl : lv_has ls 6 [(0, .ref (ad 0)), (1, .int a1), (2, .int a2)] := hl
  refine lv_aload_n hx hb dX12_fit_0 rfl (lv_at hl 0 rfl) ?_
  refine lv_iconst (v := 0) hx hb dX12_fit_1 (by decide) ?_
  have c_1 : S 0 = .inr (12, [.int 0, .ref (ad 1), .ref (ad 2), .ref (ad 3), .ref (ad 4), .ref (ad 5), .int 0, .int 0, .int 0, .int 0, .int 0, .long 0, .int 0, .int 0, .int 0, .int (-1), .ref (ad 6), .ref (ad 7), .ref (ad 8), .ref (ad 9), .ref (ad 10), .ref (ad 11), .ref (ad 12), .ref (ad 13), .ref (ad 14), .ref (ad 15), .int 0, .int 0, .ref (ad 16), .int 0, .int 0, .int 0, .int 0, .int 0, .ref (ad 17), .ref (ad 18), .int 0, .ref (ad 19)]) := (hX 0 (by decide))
  refine xputi E hs hQ 0 (by decide) c_1 rfl 0 (by decide) q1468 rfl rfl (Nat.le_of_ble_eq_true rfl) dX12_fit_2 (fun H locs S2 e2 hQ => ?_)
  have hX : ∀ i, i < 20 → S2 i = M0 g ad i := same_up hX e2 rfl
  refine lv_iload_n hx hb dX12_fit_5 rfl (lv_at hl 2 rfl) ?_
  refine lv_i2l hx hb dX12_fit_6 rfl ?_
  refine lv_lconst (v := 0) hx hb dX12_fit_7 (by decide) ?_
  refine lv_lconst (v := 1) hx hb dX12_fit_8 (by decide) ?_
  refine xcSi E hs hQ hml hl.1 (uX12_in l g ad _ hD S2 a2.toInt64 0 1) mX12_in q1591 rfl ⟨by decide, by decide⟩ ⟨by decide, by decide⟩ (Nat.le_of_ble_eq_true rfl) rfl dX12_fit_9 (fun r3 S3 H locs hp3 hQ => ?_)
  obtain ⟨rfl, hp3⟩ := hp3
  rcases hp3 with ⟨rfl, i3, j3⟩ | ⟨rfl, i3⟩
  · refine lv_if_ne (tgt := 19) hx hb dX12_fit_12 (by decide) (fun k_4 => ?_) (fun k_4 => absurd k_4 (by decide))
    refine lv_aload_n hx hb dX12_fit_19 rfl (lv_at hl 0 rfl) ?_
    refine lv_iload_n hx hb dX12_fit_20 rfl (lv_at hl 1 rfl) ?_
    have c_5 : S2 0 = .inr (12, [.int 0, .ref (ad 1), .ref (ad 2), .ref (ad 3), .ref (ad 4), .ref (ad 5), .int 0, .int 0, .int 0, .int 0, .int 0, .long 0, .int 0, .int 0, .int 0, .int (-1), .ref (ad 6), .ref (ad 7), .ref (ad 8), .ref (ad 9), .ref (ad 10), .ref (ad 11), .ref (ad 12), .ref (ad 13), .ref (ad 14), .ref (ad 15), .int 0, .int 0, .ref (ad 16), .int 0, .int 0, .int 0, .int 0, .int 0, .ref (ad 17), .ref (ad 18), .int 0, .ref (ad 19)]) := (hX 0 (by decide))
    refine xcVi E hs hQ hml hl.1 0 (fX12_whyNot l g ad hD S2 hX a1) mX12_whyNot q2019 (by decide) c_5 rfl rfl ⟨by decide, by decide⟩ ⟨by decide, by decide⟩ (Nat.le_of_ble_eq_true rfl) rfl dX12_fit_21 (fun r6 S6 H locs hp6 hQ _ => ?_)
    obtain ⟨rfl, rfl⟩ := hp6
    refine lv_if_eq (tgt := 31) hx hb dX12_fit_24 (by decide) (fun k_7 => absurd k_7 (by decide)) (fun k_7 => ?_)
    refine lv_sipush (v := (-1000)) hx hb dX12_fit_27 (by decide) ?_
    exact xri E hr hlk hQ (rfl) dX12_fit_30
  · refine lv_if_ne (tgt := 19) hx hb dX12_fit_12 (by decide) (fun k_8 => absurd k_8 (by decide)) (fun k_8 => ?_)
    refine lv_sipush (v := (-1000)) hx hb dX12_fit_15 (by decide) ?_
    exact xri E hr hlk hQ (rfl) dX12_fit_18
set_option maxHeartbeats 4000000 in
set_option maxRecDepth 100000 in
theorem fX12_ask (l : Launch) (g : GG) (ad : Nat → Nat) (hD : Dj ad 20) (S : SS) (hX : ∀ i, i < 20 → S i = M0 g ad i) (a1 : Int32) : Met l yX12_ask (wG (.code yX12_ask cX12_ask 3 (some .int))) (Rm 3) (XPre g ad 20 S [.ref (ad 0), .int a1]) (va_Qi (fun r _ => r = (-2)) (QB g ad 20) (FA ad 20)) 0 0 (FA ad 20) := by
  refine xmet cX12_ask "EbbWreckModel" (by decide) rfl (Nat.le_of_ble_eq_true rfl) (fun p e s m below meth c E hr hlk hml hQ ls hl => ?_)
  have hx := E.1
  have hb := E.2.1
  have hs : Sp ad 20 (FA ad 20) := Sp.fa hD
  have hl : lv_has ls 3 [(0, .ref (ad 0)), (1, .int a1)] := hl
  refine lv_aload_n hx hb dX12_ask_0 rfl (lv_at hl 0 rfl) ?_
  refine lv_iconst (v := 0) hx hb dX12_ask_1 (by decide) ?_
  have c_1 : S 0 = .inr (12, [.int 0, .ref (ad 1), .ref (ad 2), .ref (ad 3), .ref (ad 4), .ref (ad 5), .int 0, .int 0, .int 0, .int 0, .int 0, .long 0, .int 0, .int 0, .int 0, .int (-1), .ref (ad 6), .ref (ad 7), .ref (ad 8), .ref (ad 9), .ref (ad 10), .ref (ad 11), .ref (ad 12), .ref (ad 13), .ref (ad 14), .ref (ad 15), .int 0, .int 0, .ref (ad 16), .int 0, .int 0, .int 0, .int 0, .int 0, .ref (ad 17), .ref (ad 18), .int 0, .ref (ad 19)]) := (hX 0 (by decide))
  refine xputi E hs hQ 0 (by decide) c_1 rfl 0 (by decide) q1468 rfl rfl (Nat.le_of_ble_eq_true rfl) dX12_ask_2 (fun H locs S2 e2 hQ => ?_)
  have hX : ∀ i, i < 20 → S2 i = M0 g ad i := same_up hX e2 rfl
  refine lv_aload_n hx hb dX12_ask_5 rfl (lv_at hl 0 rfl) ?_
  refine lv_iload_n hx hb dX12_ask_6 rfl (lv_at hl 1 rfl) ?_
  have c_3 : S2 0 = .inr (12, [.int 0, .ref (ad 1), .ref (ad 2), .ref (ad 3), .ref (ad 4), .ref (ad 5), .int 0, .int 0, .int 0, .int 0, .int 0, .long 0, .int 0, .int 0, .int 0, .int (-1), .ref (ad 6), .ref (ad 7), .ref (ad 8), .ref (ad 9), .ref (ad 10), .ref (ad 11), .ref (ad 12), .ref (ad 13), .ref (ad 14), .ref (ad 15), .int 0, .int 0, .ref (ad 16), .int 0, .int 0, .int 0, .int 0, .int 0, .ref (ad 17), .ref (ad 18), .int 0, .ref (ad 19)]) := (hX 0 (by decide))
  refine xcVi E hs hQ hml hl.1 0 (fX12_whyNot l g ad hD S2 hX a1) mX12_whyNot q2019 (by decide) c_3 rfl rfl ⟨by decide, by decide⟩ ⟨by decide, by decide⟩ (Nat.le_of_ble_eq_true rfl) rfl dX12_ask_7 (fun r4 S4 H locs hp4 hQ _ => ?_)
  obtain ⟨rfl, rfl⟩ := hp4
  refine lv_istore_n (lv' := [(2, .int (-2)), (0, .ref (ad 0)), (1, .int a1)]) hx hb dX12_ask_10 rfl hl (by decide) rfl (fun ls hl => ?_)
  refine lv_iload_n hx hb dX12_ask_11 rfl (lv_at hl 0 rfl) ?_
  refine lv_if_eq (tgt := 17) hx hb dX12_ask_12 (by decide) (fun k_5 => absurd k_5 (by decide)) (fun k_5 => ?_)
  refine lv_iload_n hx hb dX12_ask_15 rfl (lv_at hl 0 rfl) ?_
  exact xri E hr hlk hQ (rfl) dX12_ask_16
set_option maxHeartbeats 4000000 in
set_option maxRecDepth 100000 in
theorem fX12_leaves (l : Launch) (g : GG) (ad : Nat → Nat) (hD : Dj ad 20) (S : SS) (hX : ∀ i, i < 20 → S i = M0 g ad i) (a1 : Int32) : Met l yX12_leaves (wG (.code yX12_leaves cX12_leaves 3 (some .int))) (Rm 3) (XPre g ad 20 S [.ref (ad 0), .int a1]) (va_Qi (fun r _ => r = (-2)) (QB g ad 20) (FA ad 20)) 0 0 (FA ad 20) := by
  refine xmet cX12_leaves "EbbWreckModel" (by decide) rfl (Nat.le_of_ble_eq_true rfl) (fun p e s m below meth c E hr hlk hml hQ ls hl => ?_)
  have hx := E.1
  have hb := E.2.1
  have hs : Sp ad 20 (FA ad 20) := Sp.fa hD
  have hl : lv_has ls 3 [(0, .ref (ad 0)), (1, .int a1)] := hl
  refine lv_aload_n hx hb dX12_leaves_0 rfl (lv_at hl 0 rfl) ?_
  refine lv_iconst (v := 0) hx hb dX12_leaves_1 (by decide) ?_
  have c_1 : S 0 = .inr (12, [.int 0, .ref (ad 1), .ref (ad 2), .ref (ad 3), .ref (ad 4), .ref (ad 5), .int 0, .int 0, .int 0, .int 0, .int 0, .long 0, .int 0, .int 0, .int 0, .int (-1), .ref (ad 6), .ref (ad 7), .ref (ad 8), .ref (ad 9), .ref (ad 10), .ref (ad 11), .ref (ad 12), .ref (ad 13), .ref (ad 14), .ref (ad 15), .int 0, .int 0, .ref (ad 16), .int 0, .int 0, .int 0, .int 0, .int 0, .ref (ad 17), .ref (ad 18), .int 0, .ref (ad 19)]) := (hX 0 (by decide))
  refine xputi E hs hQ 0 (by decide) c_1 rfl 0 (by decide) q1468 rfl rfl (Nat.le_of_ble_eq_true rfl) dX12_leaves_2 (fun H locs S2 e2 hQ => ?_)
  have hX : ∀ i, i < 20 → S2 i = M0 g ad i := same_up hX e2 rfl
  refine lv_aload_n hx hb dX12_leaves_5 rfl (lv_at hl 0 rfl) ?_
  refine lv_iload_n hx hb dX12_leaves_6 rfl (lv_at hl 1 rfl) ?_
  have c_3 : S2 0 = .inr (12, [.int 0, .ref (ad 1), .ref (ad 2), .ref (ad 3), .ref (ad 4), .ref (ad 5), .int 0, .int 0, .int 0, .int 0, .int 0, .long 0, .int 0, .int 0, .int 0, .int (-1), .ref (ad 6), .ref (ad 7), .ref (ad 8), .ref (ad 9), .ref (ad 10), .ref (ad 11), .ref (ad 12), .ref (ad 13), .ref (ad 14), .ref (ad 15), .int 0, .int 0, .ref (ad 16), .int 0, .int 0, .int 0, .int 0, .int 0, .ref (ad 17), .ref (ad 18), .int 0, .ref (ad 19)]) := (hX 0 (by decide))
  refine xcVi E hs hQ hml hl.1 0 (fX12_whyNot l g ad hD S2 hX a1) mX12_whyNot q2019 (by decide) c_3 rfl rfl ⟨by decide, by decide⟩ ⟨by decide, by decide⟩ (Nat.le_of_ble_eq_true rfl) rfl dX12_leaves_7 (fun r4 S4 H locs hp4 hQ _ => ?_)
  obtain ⟨rfl, rfl⟩ := hp4
  refine lv_istore_n (lv' := [(2, .int (-2)), (0, .ref (ad 0)), (1, .int a1)]) hx hb dX12_leaves_10 rfl hl (by decide) rfl (fun ls hl => ?_)
  refine lv_iload_n hx hb dX12_leaves_11 rfl (lv_at hl 0 rfl) ?_
  refine lv_if_eq (tgt := 17) hx hb dX12_leaves_12 (by decide) (fun k_5 => absurd k_5 (by decide)) (fun k_5 => ?_)
  refine lv_iload_n hx hb dX12_leaves_15 rfl (lv_at hl 0 rfl) ?_
  exact xri E hr hlk hQ (rfl) dX12_leaves_16
set_option maxHeartbeats 4000000 in
set_option maxRecDepth 100000 in
theorem fX12_end (l : Launch) (g : GG) (ad : Nat → Nat) (hD : Dj ad 20) (S : SS) (hX : ∀ i, i < 20 → S i = M0 g ad i) (a1 : Int32) : Met l yX12_end (wG (.code yX12_end cX12_end 2 (some .int))) (Rm 1) (XPre g ad 20 S [.ref (ad 0), .int a1]) (va_Qi (fun r _ => r = ansEnd a1) (QB g ad 20) (FA ad 20)) 0 0 (FA ad 20) := by
  refine xmet cX12_end "EbbWreckModel" (by decide) rfl (Nat.le_of_ble_eq_true rfl) (fun p e s m below meth c E hr hlk hml hQ ls hl => ?_)
  have hx := E.1
  have hb := E.2.1
  have hs : Sp ad 20 (FA ad 20) := Sp.fa hD
  have hl : lv_has ls 2 [(0, .ref (ad 0)), (1, .int a1)] := hl
  refine lv_aload_n hx hb dX12_end_0 rfl (lv_at hl 0 rfl) ?_
  refine lv_iconst (v := 0) hx hb dX12_end_1 (by decide) ?_
  have c_1 : S 0 = .inr (12, [.int 0, .ref (ad 1), .ref (ad 2), .ref (ad 3), .ref (ad 4), .ref (ad 5), .int 0, .int 0, .int 0, .int 0, .int 0, .long 0, .int 0, .int 0, .int 0, .int (-1), .ref (ad 6), .ref (ad 7), .ref (ad 8), .ref (ad 9), .ref (ad 10), .ref (ad 11), .ref (ad 12), .ref (ad 13), .ref (ad 14), .ref (ad 15), .int 0, .int 0, .ref (ad 16), .int 0, .int 0, .int 0, .int 0, .int 0, .ref (ad 17), .ref (ad 18), .int 0, .ref (ad 19)]) := (hX 0 (by decide))
  refine xputi E hs hQ 0 (by decide) c_1 rfl 0 (by decide) q1468 rfl rfl (Nat.le_of_ble_eq_true rfl) dX12_end_2 (fun H locs S2 e2 hQ => ?_)
  have hX : ∀ i, i < 20 → S2 i = M0 g ad i := same_up hX e2 rfl
  refine lv_iload_n hx hb dX12_end_5 rfl (lv_at hl 1 rfl) ?_
  refine lv_i2l hx hb dX12_end_6 rfl ?_
  refine lv_lconst (v := 0) hx hb dX12_end_7 (by decide) ?_
  refine lv_aload_n hx hb dX12_end_8 rfl (lv_at hl 0 rfl) ?_
  have c_3 : S2 0 = .inr (12, [.int 0, .ref (ad 1), .ref (ad 2), .ref (ad 3), .ref (ad 4), .ref (ad 5), .int 0, .int 0, .int 0, .int 0, .int 0, .long 0, .int 0, .int 0, .int 0, .int (-1), .ref (ad 6), .ref (ad 7), .ref (ad 8), .ref (ad 9), .ref (ad 10), .ref (ad 11), .ref (ad 12), .ref (ad 13), .ref (ad 14), .ref (ad 15), .int 0, .int 0, .ref (ad 16), .int 0, .int 0, .int 0, .int 0, .int 0, .ref (ad 17), .ref (ad 18), .int 0, .ref (ad 19)]) := (hX 0 (by decide))
  refine xget E hQ 0 (by decide) c_3 rfl 6 (by decide) q1474 rfl dX12_end_9 ?_
  refine lv_i2l (v := 0) hx hb dX12_end_12 (by decide) ?_
  refine xcSi E hs hQ hml hl.1 (uX12_in l g ad _ hD S2 a1.toInt64 0 0) mX12_in q1591 rfl ⟨by decide, by decide⟩ ⟨by decide, by decide⟩ (Nat.le_of_ble_eq_true rfl) rfl dX12_end_13 (fun r4 S4 H locs hp4 hQ => ?_)
  obtain ⟨rfl, hp4⟩ := hp4
  rcases hp4 with ⟨rfl, i4, j4⟩ | ⟨rfl, i4⟩
  · refine lv_if_ne (tgt := 21) hx hb dX12_end_16 (by decide) (fun k_5 => ?_) (fun k_5 => absurd k_5 (by decide))
    refine lv_aload_n hx hb dX12_end_21 rfl (lv_at hl 0 rfl) ?_
    refine lv_iload_n hx hb dX12_end_22 rfl (lv_at hl 1 rfl) ?_
    refine xputi E hs hQ 0 (by decide) c_3 rfl 6 (by decide) q1474 rfl rfl (Nat.le_of_ble_eq_true rfl) dX12_end_23 (fun H locs S6 e6 hQ => ?_)
    have u6 : S6 0 = .inr (12, [.int 0, .ref (ad 1), .ref (ad 2), .ref (ad 3), .ref (ad 4), .ref (ad 5), .int a1, .int 0, .int 0, .int 0, .int 0, .long 0, .int 0, .int 0, .int 0, .int (-1), .ref (ad 6), .ref (ad 7), .ref (ad 8), .ref (ad 9), .ref (ad 10), .ref (ad 11), .ref (ad 12), .ref (ad 13), .ref (ad 14), .ref (ad 15), .int 0, .int 0, .ref (ad 16), .int 0, .int 0, .int 0, .int 0, .int 0, .ref (ad 17), .ref (ad 18), .int 0, .ref (ad 19)]) := up_at e6 rfl
    refine lv_iload_n hx hb dX12_end_26 rfl (lv_at hl 1 rfl) ?_
    exact xri E hr hlk hQ (by try simp only [i32_lt, i32_le, i32_eq, i64_lt, i64_le, w64, l_0, l_1, l_2, l_3, l_4, l_60, l_m1, L_0, L_2, L_3, L_9] at i4; try simp only [i32_lt, i32_le, i32_eq, i64_lt, i64_le, w64, l_0, l_1, l_2, l_3, l_4, l_60, l_m1, L_0, L_2, L_3, L_9] at j4; unfold ansEnd; (repeat' split) <;> first | rfl | omega) dX12_end_27
  · refine lv_if_ne (tgt := 21) hx hb dX12_end_16 (by decide) (fun k_7 => absurd k_7 (by decide)) (fun k_7 => ?_)
    refine lv_iconst (v := (-1)) hx hb dX12_end_19 (by decide) ?_
    exact xri E hr hlk hQ (by try simp only [i32_lt, i32_le, i32_eq, i64_lt, i64_le, w64, l_0, l_1, l_2, l_3, l_4, l_60, l_m1, L_0, L_2, L_3, L_9] at i4; unfold ansEnd; (repeat' split) <;> first | rfl | omega) dX12_end_20
set_option maxHeartbeats 4000000 in
set_option maxRecDepth 100000 in
theorem fX12_fault (l : Launch) (g : GG) (ad : Nat → Nat) (hD : Dj ad 20) (S : SS) (hX : ∀ i, i < 20 → S i = M0 g ad i) (a1 : Int32) : Met l yX12_fault (wG (.code yX12_fault cX12_fault 2 (some .int))) (Rm 0) (XPre g ad 20 S [.ref (ad 0), .int a1]) (va_Qi (fun r _ => r = ansFault a1) (QB g ad 20) (FA ad 20)) 0 0 (FA ad 20) := by
  refine xmet cX12_fault "EbbWreckModel" (by decide) rfl (Nat.le_of_ble_eq_true rfl) (fun p e s m below meth c E hr hlk hml hQ ls hl => ?_)
  have hx := E.1
  have hb := E.2.1
  have hs : Sp ad 20 (FA ad 20) := Sp.fa hD
  have hl : lv_has ls 2 [(0, .ref (ad 0)), (1, .int a1)] := hl
  refine lv_aload_n hx hb dX12_fault_0 rfl (lv_at hl 0 rfl) ?_
  refine lv_iconst (v := 0) hx hb dX12_fault_1 (by decide) ?_
  have c_1 : S 0 = .inr (12, [.int 0, .ref (ad 1), .ref (ad 2), .ref (ad 3), .ref (ad 4), .ref (ad 5), .int 0, .int 0, .int 0, .int 0, .int 0, .long 0, .int 0, .int 0, .int 0, .int (-1), .ref (ad 6), .ref (ad 7), .ref (ad 8), .ref (ad 9), .ref (ad 10), .ref (ad 11), .ref (ad 12), .ref (ad 13), .ref (ad 14), .ref (ad 15), .int 0, .int 0, .ref (ad 16), .int 0, .int 0, .int 0, .int 0, .int 0, .ref (ad 17), .ref (ad 18), .int 0, .ref (ad 19)]) := (hX 0 (by decide))
  refine xputi E hs hQ 0 (by decide) c_1 rfl 0 (by decide) q1468 rfl rfl (Nat.le_of_ble_eq_true rfl) dX12_fault_2 (fun H locs S2 e2 hQ => ?_)
  have hX : ∀ i, i < 20 → S2 i = M0 g ad i := same_up hX e2 rfl
  refine lv_iload_n hx hb dX12_fault_5 rfl (lv_at hl 1 rfl) ?_
  refine lv_if_ne (tgt := 16) hx hb dX12_fault_6 (by decide) (fun k_3 => ?_) (fun k_3 => ?_)
  · refine lv_iload_n hx hb dX12_fault_16 rfl (lv_at hl 1 rfl) ?_
    refine lv_iconst (v := 1) hx hb dX12_fault_17 (by decide) ?_
    refine lv_icmp_ne (tgt := 28) hx hb dX12_fault_18 (by decide) (fun k_4 => ?_) (fun k_4 => ?_)
    · refine lv_iconst (v := (-1)) hx hb dX12_fault_28 (by decide) ?_
      exact xri E hr hlk hQ (by try simp only [i32_lt, i32_le, i32_eq, i64_lt, i64_le, w64, l_0, l_1, l_2, l_3, l_4, l_60, l_m1, L_0, L_2, L_3, L_9] at k_3; try simp only [i32_lt, i32_le, i32_eq, i64_lt, i64_le, w64, l_0, l_1, l_2, l_3, l_4, l_60, l_m1, L_0, L_2, L_3, L_9] at k_4; unfold ansFault; (repeat' split) <;> first | rfl | omega) dX12_fault_29
    · refine lv_aload_n hx hb dX12_fault_21 rfl (lv_at hl 0 rfl) ?_
      have c_5 : S2 0 = .inr (12, [.int 0, .ref (ad 1), .ref (ad 2), .ref (ad 3), .ref (ad 4), .ref (ad 5), .int 0, .int 0, .int 0, .int 0, .int 0, .long 0, .int 0, .int 0, .int 0, .int (-1), .ref (ad 6), .ref (ad 7), .ref (ad 8), .ref (ad 9), .ref (ad 10), .ref (ad 11), .ref (ad 12), .ref (ad 13), .ref (ad 14), .ref (ad 15), .int 0, .int 0, .ref (ad 16), .int 0, .int 0, .int 0, .int 0, .int 0, .ref (ad 17), .ref (ad 18), .int 0, .ref (ad 19)]) := (hX 0 (by decide))
      refine xget E hQ 0 (by decide) c_5 rfl 15 (by decide) q1483 rfl dX12_fault_22 ?_
      refine lv_goto (tgt := 29) hx hb dX12_fault_25 (by decide) ?_
      exact xri E hr hlk hQ (by try simp only [i32_lt, i32_le, i32_eq, i64_lt, i64_le, w64, l_0, l_1, l_2, l_3, l_4, l_60, l_m1, L_0, L_2, L_3, L_9] at k_3; try simp only [i32_lt, i32_le, i32_eq, i64_lt, i64_le, w64, l_0, l_1, l_2, l_3, l_4, l_60, l_m1, L_0, L_2, L_3, L_9] at k_4; unfold ansFault; (repeat' split) <;> first | rfl | omega) dX12_fault_29
  · refine lv_aload_n hx hb dX12_fault_9 rfl (lv_at hl 0 rfl) ?_
    have c_6 : S2 0 = .inr (12, [.int 0, .ref (ad 1), .ref (ad 2), .ref (ad 3), .ref (ad 4), .ref (ad 5), .int 0, .int 0, .int 0, .int 0, .int 0, .long 0, .int 0, .int 0, .int 0, .int (-1), .ref (ad 6), .ref (ad 7), .ref (ad 8), .ref (ad 9), .ref (ad 10), .ref (ad 11), .ref (ad 12), .ref (ad 13), .ref (ad 14), .ref (ad 15), .int 0, .int 0, .ref (ad 16), .int 0, .int 0, .int 0, .int 0, .int 0, .ref (ad 17), .ref (ad 18), .int 0, .ref (ad 19)]) := (hX 0 (by decide))
    refine xget E hQ 0 (by decide) c_6 rfl 14 (by decide) q1482 rfl dX12_fault_10 ?_
    refine lv_goto (tgt := 29) hx hb dX12_fault_13 (by decide) ?_
    exact xri E hr hlk hQ (by try simp only [i32_lt, i32_le, i32_eq, i64_lt, i64_le, w64, l_0, l_1, l_2, l_3, l_4, l_60, l_m1, L_0, L_2, L_3, L_9] at k_3; unfold ansFault; (repeat' split) <;> first | rfl | omega) dX12_fault_29
set_option maxHeartbeats 4000000 in
set_option maxRecDepth 100000 in
theorem fX12_back (l : Launch) (g : GG) (ad : Nat → Nat) (hD : Dj ad 20) (S : SS) (hX : ∀ i, i < 20 → S i = M0 g ad i) (a1 : Int32) : Met l yX12_back (wG (.code yX12_back cX12_back 2 (some .int))) (Rm 1) (XPre g ad 20 S [.ref (ad 0), .int a1]) (va_Qi (fun r _ => r = ansBack a1) (QB g ad 20) (FA ad 20)) 0 0 (FA ad 20) := by
  refine xmet cX12_back "EbbWreckModel" (by decide) rfl (Nat.le_of_ble_eq_true rfl) (fun p e s m below meth c E hr hlk hml hQ ls hl => ?_)
  have hx := E.1
  have hb := E.2.1
  have hs : Sp ad 20 (FA ad 20) := Sp.fa hD
  have hl : lv_has ls 2 [(0, .ref (ad 0)), (1, .int a1)] := hl
  refine lv_aload_n hx hb dX12_back_0 rfl (lv_at hl 0 rfl) ?_
  refine lv_iconst (v := 0) hx hb dX12_back_1 (by decide) ?_
  have c_1 : S 0 = .inr (12, [.int 0, .ref (ad 1), .ref (ad 2), .ref (ad 3), .ref (ad 4), .ref (ad 5), .int 0, .int 0, .int 0, .int 0, .int 0, .long 0, .int 0, .int 0, .int 0, .int (-1), .ref (ad 6), .ref (ad 7), .ref (ad 8), .ref (ad 9), .ref (ad 10), .ref (ad 11), .ref (ad 12), .ref (ad 13), .ref (ad 14), .ref (ad 15), .int 0, .int 0, .ref (ad 16), .int 0, .int 0, .int 0, .int 0, .int 0, .ref (ad 17), .ref (ad 18), .int 0, .ref (ad 19)]) := (hX 0 (by decide))
  refine xputi E hs hQ 0 (by decide) c_1 rfl 0 (by decide) q1468 rfl rfl (Nat.le_of_ble_eq_true rfl) dX12_back_2 (fun H locs S2 e2 hQ => ?_)
  have hX : ∀ i, i < 20 → S2 i = M0 g ad i := same_up hX e2 rfl
  refine lv_iload_n hx hb dX12_back_5 rfl (lv_at hl 1 rfl) ?_
  refine lv_i2l hx hb dX12_back_6 rfl ?_
  refine lv_lconst (v := 0) hx hb dX12_back_7 (by decide) ?_
  refine lv_ldc2 (v := 2) hx hb E.2.2.1 (E.2.2.2.1 _ q1754) dX12_back_8 ?_
  refine xcSi E hs hQ hml hl.1 (uX12_in l g ad _ hD S2 a1.toInt64 0 2) mX12_in q1591 rfl ⟨by decide, by decide⟩ ⟨by decide, by decide⟩ (Nat.le_of_ble_eq_true rfl) rfl dX12_back_11 (fun r3 S3 H locs hp3 hQ => ?_)
  obtain ⟨rfl, hp3⟩ := hp3
  rcases hp3 with ⟨rfl, i3, j3⟩ | ⟨rfl, i3⟩
  · refine lv_if_ne (tgt := 20) hx hb dX12_back_14 (by decide) (fun k_4 => ?_) (fun k_4 => absurd k_4 (by decide))
    refine lv_aload_n hx hb dX12_back_20 rfl (lv_at hl 0 rfl) ?_
    have c_5 : S2 0 = .inr (12, [.int 0, .ref (ad 1), .ref (ad 2), .ref (ad 3), .ref (ad 4), .ref (ad 5), .int 0, .int 0, .int 0, .int 0, .int 0, .long 0, .int 0, .int 0, .int 0, .int (-1), .ref (ad 6), .ref (ad 7), .ref (ad 8), .ref (ad 9), .ref (ad 10), .ref (ad 11), .ref (ad 12), .ref (ad 13), .ref (ad 14), .ref (ad 15), .int 0, .int 0, .ref (ad 16), .int 0, .int 0, .int 0, .int 0, .int 0, .ref (ad 17), .ref (ad 18), .int 0, .ref (ad 19)]) := (hX 0 (by decide))
    refine xget E hQ 0 (by decide) c_5 rfl 23 (by decide) q1491 rfl dX12_back_21 ?_
    refine lv_iload_n hx hb dX12_back_24 rfl (lv_at hl 1 rfl) ?_
    have c_6 : S2 13 = .inl (g.2 3, 3, .inl zf) := (hX 13 (by decide))
    refine xzald E hQ 13 (by decide) c_6 (vp_in_64 i3 j3 (by decide)) dX12_back_25 ?_
    refine sb_at (P := fun z => W _ _ _ _ _ _ _ _ _ _ _ _ _ _ _ (F0 _ _ _ (.int z :: _))) (show zf (a1 : Int32).toNatClampNeg = 0 from rfl) ?_
    refine lv_if_ne (tgt := 32) hx hb dX12_back_26 (by decide) (fun k_7 => absurd k_7 (by decide)) (fun k_7 => ?_)
    refine lv_bipush (v := (-6)) hx hb dX12_back_29 (by decide) ?_
    exact xri E hr hlk hQ (by try simp only [i32_lt, i32_le, i32_eq, i64_lt, i64_le, w64, l_0, l_1, l_2, l_3, l_4, l_60, l_m1, L_0, L_2, L_3, L_9] at i3; try simp only [i32_lt, i32_le, i32_eq, i64_lt, i64_le, w64, l_0, l_1, l_2, l_3, l_4, l_60, l_m1, L_0, L_2, L_3, L_9] at j3; unfold ansBack; (repeat' split) <;> first | rfl | omega) dX12_back_31
  · refine lv_if_ne (tgt := 20) hx hb dX12_back_14 (by decide) (fun k_8 => absurd k_8 (by decide)) (fun k_8 => ?_)
    refine lv_bipush (v := (-2)) hx hb dX12_back_17 (by decide) ?_
    exact xri E hr hlk hQ (by try simp only [i32_lt, i32_le, i32_eq, i64_lt, i64_le, w64, l_0, l_1, l_2, l_3, l_4, l_60, l_m1, L_0, L_2, L_3, L_9] at i3; unfold ansBack; (repeat' split) <;> first | rfl | omega) dX12_back_19
set_option maxHeartbeats 4000000 in
set_option maxRecDepth 100000 in
theorem fX12_write (l : Launch) (g : GG) (ad : Nat → Nat) (hD : Dj ad 20) (S : SS) (hX : ∀ i, i < 20 → S i = M0 g ad i) (a1 : Int32) (a2 : Int32) (a3 : Int64) : Met l yX12_write (wG (.code yX12_write cX12_write 5 (some .int))) (Rm 2) (XPre g ad 20 S [.ref (ad 0), .int a1, .int a2, .long a3]) (va_Qi (fun r _ => r = ansWrite a1) (QB g ad 20) (FA ad 20)) 0 0 (FA ad 20) := by
  refine xmet cX12_write "EbbWreckModel" (by decide) rfl (Nat.le_of_ble_eq_true rfl) (fun p e s m below meth c E hr hlk hml hQ ls hl => ?_)
  have hx := E.1
  have hb := E.2.1
  have hs : Sp ad 20 (FA ad 20) := Sp.fa hD
  have hl : lv_has ls 5 [(0, .ref (ad 0)), (1, .int a1), (2, .int a2), (3, .long a3)] := hl
  refine lv_aload_n hx hb dX12_write_0 rfl (lv_at hl 0 rfl) ?_
  refine lv_iconst (v := 0) hx hb dX12_write_1 (by decide) ?_
  have c_1 : S 0 = .inr (12, [.int 0, .ref (ad 1), .ref (ad 2), .ref (ad 3), .ref (ad 4), .ref (ad 5), .int 0, .int 0, .int 0, .int 0, .int 0, .long 0, .int 0, .int 0, .int 0, .int (-1), .ref (ad 6), .ref (ad 7), .ref (ad 8), .ref (ad 9), .ref (ad 10), .ref (ad 11), .ref (ad 12), .ref (ad 13), .ref (ad 14), .ref (ad 15), .int 0, .int 0, .ref (ad 16), .int 0, .int 0, .int 0, .int 0, .int 0, .ref (ad 17), .ref (ad 18), .int 0, .ref (ad 19)]) := (hX 0 (by decide))
  refine xputi E hs hQ 0 (by decide) c_1 rfl 0 (by decide) q1468 rfl rfl (Nat.le_of_ble_eq_true rfl) dX12_write_2 (fun H locs S2 e2 hQ => ?_)
  have hX : ∀ i, i < 20 → S2 i = M0 g ad i := same_up hX e2 rfl
  refine lv_iload_n hx hb dX12_write_5 rfl (lv_at hl 1 rfl) ?_
  refine xcSi E hs hQ hml hl.1 (uX12_isSlot l g ad _ hD S2 a1) mX12_isSlot q1587 rfl ⟨by decide, by decide⟩ ⟨by decide, by decide⟩ (Nat.le_of_ble_eq_true rfl) rfl dX12_write_6 (fun r3 S3 H locs hp3 hQ => ?_)
  obtain ⟨rfl, hp3⟩ := hp3
  rcases hp3 with ⟨rfl, i3, j3⟩ | ⟨rfl, i3⟩
  · refine lv_if_ne (tgt := 15) hx hb dX12_write_9 (by decide) (fun k_4 => ?_) (fun k_4 => absurd k_4 (by decide))
    refine lv_aload_n hx hb dX12_write_15 rfl (lv_at hl 0 rfl) ?_
    have c_5 : S2 0 = .inr (12, [.int 0, .ref (ad 1), .ref (ad 2), .ref (ad 3), .ref (ad 4), .ref (ad 5), .int 0, .int 0, .int 0, .int 0, .int 0, .long 0, .int 0, .int 0, .int 0, .int (-1), .ref (ad 6), .ref (ad 7), .ref (ad 8), .ref (ad 9), .ref (ad 10), .ref (ad 11), .ref (ad 12), .ref (ad 13), .ref (ad 14), .ref (ad 15), .int 0, .int 0, .ref (ad 16), .int 0, .int 0, .int 0, .int 0, .int 0, .ref (ad 17), .ref (ad 18), .int 0, .ref (ad 19)]) := (hX 0 (by decide))
    refine xget E hQ 0 (by decide) c_5 rfl 1 (by decide) q1469 rfl dX12_write_16 ?_
    refine lv_iload_n hx hb dX12_write_19 rfl (lv_at hl 1 rfl) ?_
    have c_6 : S2 1 = .inl (g.2 0, 4, .inl wdF) := (hX 1 (by decide))
    refine xiald E hQ 1 (by decide) c_6 (vp_in_of2 i3 j3 (by decide)) dX12_write_20 ?_
    refine sb_at (P := fun z => W _ _ _ _ _ _ _ _ _ _ _ _ _ _ _ (F0 _ _ _ (.int z :: _))) (show wdF (a1 : Int32).toNatClampNeg = (-1) from wdF_at (vp_in_of2 i3 j3 (by decide))) ?_
    refine lv_iconst (v := (-1)) hx hb dX12_write_21 (by decide) ?_
    refine lv_icmp_ne (tgt := 28) hx hb dX12_write_22 (by decide) (fun k_7 => absurd k_7 (by decide)) (fun k_7 => ?_)
    refine lv_bipush (v := (-6)) hx hb dX12_write_25 (by decide) ?_
    exact xri E hr hlk hQ (by try simp only [i32_lt, i32_le, i32_eq, i64_lt, i64_le, w64, l_0, l_1, l_2, l_3, l_4, l_60, l_m1, L_0, L_2, L_3, L_9] at i3; try simp only [i32_lt, i32_le, i32_eq, i64_lt, i64_le, w64, l_0, l_1, l_2, l_3, l_4, l_60, l_m1, L_0, L_2, L_3, L_9] at j3; unfold ansWrite; (repeat' split) <;> first | rfl | omega) dX12_write_27
  · refine lv_if_ne (tgt := 15) hx hb dX12_write_9 (by decide) (fun k_8 => absurd k_8 (by decide)) (fun k_8 => ?_)
    refine lv_bipush (v := (-2)) hx hb dX12_write_12 (by decide) ?_
    exact xri E hr hlk hQ (by try simp only [i32_lt, i32_le, i32_eq, i64_lt, i64_le, w64, l_0, l_1, l_2, l_3, l_4, l_60, l_m1, L_0, L_2, L_3, L_9] at i3; unfold ansWrite; (repeat' split) <;> first | rfl | omega) dX12_write_14
set_option maxHeartbeats 4000000 in
set_option maxRecDepth 100000 in
theorem fX12_paste (l : Launch) (g : GG) (ad : Nat → Nat) (hD : Dj ad 20) (S : SS) (hX : ∀ i, i < 20 → S i = M0 g ad i) (a1 : Int32) (a2 : Int32) (a3 : Int32) (a4 : Int32) (a5 : Int32) : Met l yX12_paste (wG (.code yX12_paste cX12_paste 7 (some .int))) (Rm 2) (XPre g ad 20 S [.ref (ad 0), .int a1, .int a2, .int a3, .int a4, .int a5]) (va_Qi (fun r _ => r = ansPaste a1 a3) (QB g ad 20) (FA ad 20)) 0 0 (FA ad 20) := by
  refine xmet cX12_paste "EbbWreckModel" (by decide) rfl (Nat.le_of_ble_eq_true rfl) (fun p e s m below meth c E hr hlk hml hQ ls hl => ?_)
  have hx := E.1
  have hb := E.2.1
  have hs : Sp ad 20 (FA ad 20) := Sp.fa hD
  have hl : lv_has ls 7 [(0, .ref (ad 0)), (1, .int a1), (2, .int a2), (3, .int a3), (4, .int a4), (5, .int a5)] := hl
  refine lv_aload_n hx hb dX12_paste_0 rfl (lv_at hl 0 rfl) ?_
  refine lv_iconst (v := 0) hx hb dX12_paste_1 (by decide) ?_
  have c_1 : S 0 = .inr (12, [.int 0, .ref (ad 1), .ref (ad 2), .ref (ad 3), .ref (ad 4), .ref (ad 5), .int 0, .int 0, .int 0, .int 0, .int 0, .long 0, .int 0, .int 0, .int 0, .int (-1), .ref (ad 6), .ref (ad 7), .ref (ad 8), .ref (ad 9), .ref (ad 10), .ref (ad 11), .ref (ad 12), .ref (ad 13), .ref (ad 14), .ref (ad 15), .int 0, .int 0, .ref (ad 16), .int 0, .int 0, .int 0, .int 0, .int 0, .ref (ad 17), .ref (ad 18), .int 0, .ref (ad 19)]) := (hX 0 (by decide))
  refine xputi E hs hQ 0 (by decide) c_1 rfl 0 (by decide) q1468 rfl rfl (Nat.le_of_ble_eq_true rfl) dX12_paste_2 (fun H locs S2 e2 hQ => ?_)
  have hX : ∀ i, i < 20 → S2 i = M0 g ad i := same_up hX e2 rfl
  refine lv_iload_n hx hb dX12_paste_5 rfl (lv_at hl 1 rfl) ?_
  refine xcSi E hs hQ hml hl.1 (uX12_isSlot l g ad _ hD S2 a1) mX12_isSlot q1587 rfl ⟨by decide, by decide⟩ ⟨by decide, by decide⟩ (Nat.le_of_ble_eq_true rfl) rfl dX12_paste_6 (fun r3 S3 H locs hp3 hQ => ?_)
  obtain ⟨rfl, hp3⟩ := hp3
  rcases hp3 with ⟨rfl, i3, j3⟩ | ⟨rfl, i3⟩
  · refine lv_if_eq (tgt := 19) hx hb dX12_paste_9 (by decide) (fun k_4 => absurd k_4 (by decide)) (fun k_4 => ?_)
    refine lv_iload_n hx hb dX12_paste_12 rfl (lv_at hl 3 rfl) ?_
    refine xcSi E hs hQ hml hl.1 (uX12_isSlot l g ad _ hD S2 a3) mX12_isSlot q1587 rfl ⟨by decide, by decide⟩ ⟨by decide, by decide⟩ (Nat.le_of_ble_eq_true rfl) rfl dX12_paste_13 (fun r5 S5 H locs hp5 hQ => ?_)
    obtain ⟨rfl, hp5⟩ := hp5
    rcases hp5 with ⟨rfl, i5, j5⟩ | ⟨rfl, i5⟩
    · refine lv_if_ne (tgt := 22) hx hb dX12_paste_16 (by decide) (fun k_6 => ?_) (fun k_6 => absurd k_6 (by decide))
      refine lv_aload_n hx hb dX12_paste_22 rfl (lv_at hl 0 rfl) ?_
      have c_7 : S2 0 = .inr (12, [.int 0, .ref (ad 1), .ref (ad 2), .ref (ad 3), .ref (ad 4), .ref (ad 5), .int 0, .int 0, .int 0, .int 0, .int 0, .long 0, .int 0, .int 0, .int 0, .int (-1), .ref (ad 6), .ref (ad 7), .ref (ad 8), .ref (ad 9), .ref (ad 10), .ref (ad 11), .ref (ad 12), .ref (ad 13), .ref (ad 14), .ref (ad 15), .int 0, .int 0, .ref (ad 16), .int 0, .int 0, .int 0, .int 0, .int 0, .ref (ad 17), .ref (ad 18), .int 0, .ref (ad 19)]) := (hX 0 (by decide))
      refine xget E hQ 0 (by decide) c_7 rfl 1 (by decide) q1469 rfl dX12_paste_23 ?_
      refine lv_iload_n hx hb dX12_paste_26 rfl (lv_at hl 1 rfl) ?_
      have c_8 : S2 1 = .inl (g.2 0, 4, .inl wdF) := (hX 1 (by decide))
      refine xiald E hQ 1 (by decide) c_8 (vp_in_of2 i3 j3 (by decide)) dX12_paste_27 ?_
      refine sb_at (P := fun z => W _ _ _ _ _ _ _ _ _ _ _ _ _ _ _ (F0 _ _ _ (.int z :: _))) (show wdF (a1 : Int32).toNatClampNeg = (-1) from wdF_at (vp_in_of2 i3 j3 (by decide))) ?_
      refine lv_iconst (v := (-1)) hx hb dX12_paste_28 (by decide) ?_
      refine lv_icmp_eq (tgt := 42) hx hb dX12_paste_29 (by decide) (fun k_9 => ?_) (fun k_9 => absurd k_9 (by decide))
      refine lv_bipush (v := (-6)) hx hb dX12_paste_42 (by decide) ?_
      exact xri E hr hlk hQ (by try simp only [i32_lt, i32_le, i32_eq, i64_lt, i64_le, w64, l_0, l_1, l_2, l_3, l_4, l_60, l_m1, L_0, L_2, L_3, L_9] at i3; try simp only [i32_lt, i32_le, i32_eq, i64_lt, i64_le, w64, l_0, l_1, l_2, l_3, l_4, l_60, l_m1, L_0, L_2, L_3, L_9] at j3; try simp only [i32_lt, i32_le, i32_eq, i64_lt, i64_le, w64, l_0, l_1, l_2, l_3, l_4, l_60, l_m1, L_0, L_2, L_3, L_9] at i5; try simp only [i32_lt, i32_le, i32_eq, i64_lt, i64_le, w64, l_0, l_1, l_2, l_3, l_4, l_60, l_m1, L_0, L_2, L_3, L_9] at j5; unfold ansPaste; (repeat' split) <;> first | rfl | omega) dX12_paste_44
    · refine lv_if_ne (tgt := 22) hx hb dX12_paste_16 (by decide) (fun k_10 => absurd k_10 (by decide)) (fun k_10 => ?_)
      refine lv_bipush (v := (-2)) hx hb dX12_paste_19 (by decide) ?_
      exact xri E hr hlk hQ (by try simp only [i32_lt, i32_le, i32_eq, i64_lt, i64_le, w64, l_0, l_1, l_2, l_3, l_4, l_60, l_m1, L_0, L_2, L_3, L_9] at i3; try simp only [i32_lt, i32_le, i32_eq, i64_lt, i64_le, w64, l_0, l_1, l_2, l_3, l_4, l_60, l_m1, L_0, L_2, L_3, L_9] at j3; try simp only [i32_lt, i32_le, i32_eq, i64_lt, i64_le, w64, l_0, l_1, l_2, l_3, l_4, l_60, l_m1, L_0, L_2, L_3, L_9] at i5; unfold ansPaste; (repeat' split) <;> first | rfl | omega) dX12_paste_21
  · refine lv_if_eq (tgt := 19) hx hb dX12_paste_9 (by decide) (fun k_11 => ?_) (fun k_11 => absurd k_11 (by decide))
    refine lv_bipush (v := (-2)) hx hb dX12_paste_19 (by decide) ?_
    exact xri E hr hlk hQ (by try simp only [i32_lt, i32_le, i32_eq, i64_lt, i64_le, w64, l_0, l_1, l_2, l_3, l_4, l_60, l_m1, L_0, L_2, L_3, L_9] at i3; unfold ansPaste; (repeat' split) <;> first | rfl | omega) dX12_paste_21
set_option maxHeartbeats 4000000 in
set_option maxRecDepth 100000 in
theorem sizeOf_0 (l : Launch) (g : GG) (ad : Nat → Nat) (hD : Dj ad 20) (S : SS) : Met l yX12_sizeOf (wG (.code yX12_sizeOf cX12_sizeOf 3 (some .int))) (Rm 0) (XPre g ad 20 S [.int 0]) (va_Qi (fun r S' => (∀ j, j ∉ ([] : List Nat) → S' j = S j) ∧ r = 0) (QB g ad 20) (FA ad 20)) 0 0 (FA ad 20) := by
  refine xmet cX12_sizeOf "EbbWreckModel" (by decide) rfl (Nat.le_of_ble_eq_true rfl) (fun p e s m below meth c E hr hlk hml hQ ls hl => ?_)
  have hx := E.1
  have hb := E.2.1
  have hs : Sp ad 20 (FA ad 20) := Sp.fa hD
  have hl : lv_has ls 3 [(0, .int 0)] := hl
  refine lv_iconst (v := 0) hx hb dX12_sizeOf_0 (by decide) ?_
  refine lv_istore_n (lv' := [(1, .int 0), (0, .int 0)]) hx hb dX12_sizeOf_1 rfl hl (by decide) rfl (fun ls hl => ?_)
  refine lv_iload_n hx hb dX12_sizeOf_2 rfl (lv_at hl 1 rfl) ?_
  refine lv_istore_n (lv' := [(2, .int 0), (1, .int 0), (0, .int 0)]) hx hb dX12_sizeOf_3 rfl hl (by decide) rfl (fun ls hl => ?_)
  refine lv_iload_n hx hb dX12_sizeOf_4 rfl (lv_at hl 0 rfl) ?_
  refine lv_if_eq (tgt := 20) hx hb dX12_sizeOf_5 (by decide) (fun k_1 => ?_) (fun k_1 => absurd k_1 (by decide))
  refine lv_iload_n hx hb dX12_sizeOf_20 rfl (lv_at hl 1 rfl) ?_
  exact xri E hr hlk hQ (⟨fun j hj => rfl, rfl⟩) dX12_sizeOf_21
set_option maxHeartbeats 4000000 in
set_option maxRecDepth 100000 in
theorem fX12_count (l : Launch) (g : GG) (ad : Nat → Nat) (hD : Dj ad 20) (S : SS) (a1 : Int32) (hX : ∀ i, i < 20 → S i = M0 g ad i) : Met l yX12_count (wG (.code yX12_count cX12_count 4 (some .int))) (Rm 1) (XPre g ad 20 S [.ref (ad 0), .int a1]) (va_Qi (fun r _ => r = ansCount a1) (QB g ad 20) (FA ad 20)) 0 0 (FA ad 20) := by
  refine xmet cX12_count "EbbWreckModel" (by decide) rfl (Nat.le_of_ble_eq_true rfl) (fun p e s m below meth c E hr hlk hml hQ ls hl => ?_)
  have hx := E.1
  have hb := E.2.1
  have hs : Sp ad 20 (FA ad 20) := Sp.fa hD
  have hl : lv_has ls 4 [(0, .ref (ad 0)), (1, .int a1)] := hl
  refine lv_aload_n hx hb dX12_count_0 rfl (lv_at hl 0 rfl) ?_
  refine lv_iconst (v := 0) hx hb dX12_count_1 (by decide) ?_
  have c_1 : S 0 = .inr (12, [.int 0, .ref (ad 1), .ref (ad 2), .ref (ad 3), .ref (ad 4), .ref (ad 5), .int 0, .int 0, .int 0, .int 0, .int 0, .long 0, .int 0, .int 0, .int 0, .int (-1), .ref (ad 6), .ref (ad 7), .ref (ad 8), .ref (ad 9), .ref (ad 10), .ref (ad 11), .ref (ad 12), .ref (ad 13), .ref (ad 14), .ref (ad 15), .int 0, .int 0, .ref (ad 16), .int 0, .int 0, .int 0, .int 0, .int 0, .ref (ad 17), .ref (ad 18), .int 0, .ref (ad 19)]) := (hX 0 (by decide))
  refine xputi E hs hQ 0 (by decide) c_1 rfl 0 (by decide) q1468 rfl rfl (Nat.le_of_ble_eq_true rfl) dX12_count_2 (fun H locs S2 e2 hQ => ?_)
  have hX : ∀ i, i < 20 → S2 i = M0 g ad i := same_up hX e2 rfl
  refine lv_iconst (v := 0) hx hb dX12_count_5 (by decide) ?_
  refine lv_istore_n (lv' := [(2, .int 0), (0, .ref (ad 0)), (1, .int a1)]) hx hb dX12_count_6 rfl hl (by decide) rfl (fun ls hl => ?_)
  refine lv_iload_n hx hb dX12_count_7 rfl (lv_at hl 2 rfl) ?_
  rcases pk_ix a1 (n := 13) (by decide) with h_lo | h_hi | ⟨j_1, h_j, h_e⟩
  · refine lv_tableOut (tgt := 111) hx hb dX12_count_8 (Or.inl (by have := tlt0 h_lo; omega)) (by decide) ?_
    refine lv_iload_n hx hb dX12_count_111 rfl (lv_at hl 2 rfl) ?_
    refine lv_i2l hx hb dX12_count_112 rfl ?_
    refine lv_lconst (v := 0) hx hb dX12_count_113 (by decide) ?_
    refine lv_ldc2 (v := 9) hx hb E.2.2.1 (E.2.2.2.1 _ q2149) dX12_count_114 ?_
    refine xcSi E hs hQ hml hl.1 (uX12_in l g ad _ hD S2 a1.toInt64 0 9) mX12_in q1591 rfl ⟨by decide, by decide⟩ ⟨by decide, by decide⟩ (Nat.le_of_ble_eq_true rfl) rfl dX12_count_117 (fun r3 S3 H locs hp3 hQ => ?_)
    obtain ⟨rfl, hp3⟩ := hp3
    rcases hp3 with ⟨rfl, i3, j3⟩ | ⟨rfl, i3⟩
    · refine lv_if_eq (tgt := 132) hx hb dX12_count_120 (by decide) (fun k_4 => absurd k_4 (by decide)) (fun k_4 => ?_)
      refine lv_aload_n hx hb dX12_count_123 rfl (lv_at hl 1 rfl) ?_
      have c_5 : S2 0 = .inr (12, [.int 0, .ref (ad 1), .ref (ad 2), .ref (ad 3), .ref (ad 4), .ref (ad 5), .int 0, .int 0, .int 0, .int 0, .int 0, .long 0, .int 0, .int 0, .int 0, .int (-1), .ref (ad 6), .ref (ad 7), .ref (ad 8), .ref (ad 9), .ref (ad 10), .ref (ad 11), .ref (ad 12), .ref (ad 13), .ref (ad 14), .ref (ad 15), .int 0, .int 0, .ref (ad 16), .int 0, .int 0, .int 0, .int 0, .int 0, .ref (ad 17), .ref (ad 18), .int 0, .ref (ad 19)]) := (hX 0 (by decide))
      refine xget E hQ 0 (by decide) c_5 rfl 17 (by decide) q1485 rfl dX12_count_124 ?_
      refine lv_iload_n hx hb dX12_count_127 rfl (lv_at hl 2 rfl) ?_
      have c_6 : S2 7 = .inl (g.2 0, 50, .inl zf) := (hX 7 (by decide))
      refine xiald E hQ 7 (by decide) c_6 (vp_in_64 i3 j3 (by decide)) dX12_count_128 ?_
      refine sb_at (P := fun z => W _ _ _ _ _ _ _ _ _ _ _ _ _ _ _ (F0 _ _ _ (.int z :: _))) (show zf (a1 : Int32).toNatClampNeg = 0 from rfl) ?_
      refine lv_goto (tgt := 133) hx hb dX12_count_129 (by decide) ?_
      exact xri E hr hlk hQ (by have hh := tlt0 h_lo; try simp only [i32_lt, i32_le, i32_eq, i64_lt, i64_le, w64, l_0, l_1, l_2, l_3, l_4, l_60, l_m1, L_0, L_2, L_3, L_9] at i3; try simp only [i32_lt, i32_le, i32_eq, i64_lt, i64_le, w64, l_0, l_1, l_2, l_3, l_4, l_60, l_m1, L_0, L_2, L_3, L_9] at j3; unfold ansCount; (repeat' split) <;> first | rfl | omega) dX12_count_133
    · refine lv_if_eq (tgt := 132) hx hb dX12_count_120 (by decide) (fun k_7 => ?_) (fun k_7 => absurd k_7 (by decide))
      refine lv_iconst (v := (-1)) hx hb dX12_count_132 (by decide) ?_
      exact xri E hr hlk hQ (by have hh := tlt0 h_lo; try simp only [i32_lt, i32_le, i32_eq, i64_lt, i64_le, w64, l_0, l_1, l_2, l_3, l_4, l_60, l_m1, L_0, L_2, L_3, L_9] at i3; unfold ansCount; (repeat' split) <;> first | rfl | omega) dX12_count_133
  · refine lv_tableOut (tgt := 111) hx hb dX12_count_8 (Or.inr (by have := tge h_hi (by decide); omega)) (by decide) ?_
    refine lv_iload_n hx hb dX12_count_111 rfl (lv_at hl 2 rfl) ?_
    refine lv_i2l hx hb dX12_count_112 rfl ?_
    refine lv_lconst (v := 0) hx hb dX12_count_113 (by decide) ?_
    refine lv_ldc2 (v := 9) hx hb E.2.2.1 (E.2.2.2.1 _ q2149) dX12_count_114 ?_
    refine xcSi E hs hQ hml hl.1 (uX12_in l g ad _ hD S2 a1.toInt64 0 9) mX12_in q1591 rfl ⟨by decide, by decide⟩ ⟨by decide, by decide⟩ (Nat.le_of_ble_eq_true rfl) rfl dX12_count_117 (fun r8 S8 H locs hp8 hQ => ?_)
    obtain ⟨rfl, hp8⟩ := hp8
    rcases hp8 with ⟨rfl, i8, j8⟩ | ⟨rfl, i8⟩
    · refine lv_if_eq (tgt := 132) hx hb dX12_count_120 (by decide) (fun k_9 => absurd k_9 (by decide)) (fun k_9 => ?_)
      refine lv_aload_n hx hb dX12_count_123 rfl (lv_at hl 1 rfl) ?_
      have c_10 : S2 0 = .inr (12, [.int 0, .ref (ad 1), .ref (ad 2), .ref (ad 3), .ref (ad 4), .ref (ad 5), .int 0, .int 0, .int 0, .int 0, .int 0, .long 0, .int 0, .int 0, .int 0, .int (-1), .ref (ad 6), .ref (ad 7), .ref (ad 8), .ref (ad 9), .ref (ad 10), .ref (ad 11), .ref (ad 12), .ref (ad 13), .ref (ad 14), .ref (ad 15), .int 0, .int 0, .ref (ad 16), .int 0, .int 0, .int 0, .int 0, .int 0, .ref (ad 17), .ref (ad 18), .int 0, .ref (ad 19)]) := (hX 0 (by decide))
      refine xget E hQ 0 (by decide) c_10 rfl 17 (by decide) q1485 rfl dX12_count_124 ?_
      refine lv_iload_n hx hb dX12_count_127 rfl (lv_at hl 2 rfl) ?_
      have c_11 : S2 7 = .inl (g.2 0, 50, .inl zf) := (hX 7 (by decide))
      refine xiald E hQ 7 (by decide) c_11 (vp_in_64 i8 j8 (by decide)) dX12_count_128 ?_
      refine sb_at (P := fun z => W _ _ _ _ _ _ _ _ _ _ _ _ _ _ _ (F0 _ _ _ (.int z :: _))) (show zf (a1 : Int32).toNatClampNeg = 0 from rfl) ?_
      refine lv_goto (tgt := 133) hx hb dX12_count_129 (by decide) ?_
      exact xri E hr hlk hQ (by have hh := tge h_hi (by decide); try simp only [i32_lt, i32_le, i32_eq, i64_lt, i64_le, w64, l_0, l_1, l_2, l_3, l_4, l_60, l_m1, L_0, L_2, L_3, L_9] at i8; try simp only [i32_lt, i32_le, i32_eq, i64_lt, i64_le, w64, l_0, l_1, l_2, l_3, l_4, l_60, l_m1, L_0, L_2, L_3, L_9] at j8; unfold ansCount; (repeat' split) <;> first | rfl | omega) dX12_count_133
    · refine lv_if_eq (tgt := 132) hx hb dX12_count_120 (by decide) (fun k_12 => ?_) (fun k_12 => absurd k_12 (by decide))
      refine lv_iconst (v := (-1)) hx hb dX12_count_132 (by decide) ?_
      exact xri E hr hlk hQ (by have hh := tge h_hi (by decide); try simp only [i32_lt, i32_le, i32_eq, i64_lt, i64_le, w64, l_0, l_1, l_2, l_3, l_4, l_60, l_m1, L_0, L_2, L_3, L_9] at i8; unfold ansCount; (repeat' split) <;> first | rfl | omega) dX12_count_133
  · rcases (show j_1 = 0 ∨ j_1 = 1 ∨ j_1 = 2 ∨ j_1 = 3 ∨ j_1 = 4 ∨ j_1 = 5 ∨ j_1 = 6 ∨ j_1 = 7 ∨ j_1 = 8 ∨ j_1 = 9 ∨ j_1 = 10 ∨ j_1 = 11 ∨ j_1 = 12 by omega) with rfl | rfl | rfl | rfl | rfl | rfl | rfl | rfl | rfl | rfl | rfl | rfl | rfl
    · refine lv_tableOut (tgt := 111) hx hb dX12_count_8 (Or.inl (by rw [h_e]; decide)) (by decide) ?_
      refine lv_iload_n hx hb dX12_count_111 rfl (lv_at hl 2 rfl) ?_
      refine lv_i2l hx hb dX12_count_112 rfl ?_
      refine lv_lconst (v := 0) hx hb dX12_count_113 (by decide) ?_
      refine lv_ldc2 (v := 9) hx hb E.2.2.1 (E.2.2.2.1 _ q2149) dX12_count_114 ?_
      refine xcSi E hs hQ hml hl.1 (uX12_in l g ad _ hD S2 a1.toInt64 0 9) mX12_in q1591 rfl ⟨by decide, by decide⟩ ⟨by decide, by decide⟩ (Nat.le_of_ble_eq_true rfl) rfl dX12_count_117 (fun r13 S13 H locs hp13 hQ => ?_)
      obtain ⟨rfl, hp13⟩ := hp13
      rcases hp13 with ⟨rfl, i13, j13⟩ | ⟨rfl, i13⟩
      · refine lv_if_eq (tgt := 132) hx hb dX12_count_120 (by decide) (fun k_14 => absurd k_14 (by decide)) (fun k_14 => ?_)
        refine lv_aload_n hx hb dX12_count_123 rfl (lv_at hl 1 rfl) ?_
        have c_15 : S2 0 = .inr (12, [.int 0, .ref (ad 1), .ref (ad 2), .ref (ad 3), .ref (ad 4), .ref (ad 5), .int 0, .int 0, .int 0, .int 0, .int 0, .long 0, .int 0, .int 0, .int 0, .int (-1), .ref (ad 6), .ref (ad 7), .ref (ad 8), .ref (ad 9), .ref (ad 10), .ref (ad 11), .ref (ad 12), .ref (ad 13), .ref (ad 14), .ref (ad 15), .int 0, .int 0, .ref (ad 16), .int 0, .int 0, .int 0, .int 0, .int 0, .ref (ad 17), .ref (ad 18), .int 0, .ref (ad 19)]) := (hX 0 (by decide))
        refine xget E hQ 0 (by decide) c_15 rfl 17 (by decide) q1485 rfl dX12_count_124 ?_
        refine lv_iload_n hx hb dX12_count_127 rfl (lv_at hl 2 rfl) ?_
        have c_16 : S2 7 = .inl (g.2 0, 50, .inl zf) := (hX 7 (by decide))
        refine xiald E hQ 7 (by decide) c_16 (vp_in_64 i13 j13 (by decide)) dX12_count_128 ?_
        refine sb_at (P := fun z => W _ _ _ _ _ _ _ _ _ _ _ _ _ _ _ (F0 _ _ _ (.int z :: _))) (show zf (a1 : Int32).toNatClampNeg = 0 from rfl) ?_
        refine lv_goto (tgt := 133) hx hb dX12_count_129 (by decide) ?_
        exact xri E hr hlk hQ (by have hh := congrArg Int32.toInt h_e; rw [nI_toInt (by decide)] at hh; try simp only [i32_lt, i32_le, i32_eq, i64_lt, i64_le, w64, l_0, l_1, l_2, l_3, l_4, l_60, l_m1, L_0, L_2, L_3, L_9] at i13; try simp only [i32_lt, i32_le, i32_eq, i64_lt, i64_le, w64, l_0, l_1, l_2, l_3, l_4, l_60, l_m1, L_0, L_2, L_3, L_9] at j13; unfold ansCount; (repeat' split) <;> first | rfl | omega) dX12_count_133
      · refine lv_if_eq (tgt := 132) hx hb dX12_count_120 (by decide) (fun k_17 => ?_) (fun k_17 => absurd k_17 (by decide))
        refine lv_iconst (v := (-1)) hx hb dX12_count_132 (by decide) ?_
        exact xri E hr hlk hQ (by have hh := congrArg Int32.toInt h_e; rw [nI_toInt (by decide)] at hh; try simp only [i32_lt, i32_le, i32_eq, i64_lt, i64_le, w64, l_0, l_1, l_2, l_3, l_4, l_60, l_m1, L_0, L_2, L_3, L_9] at i13; unfold ansCount; (repeat' split) <;> first | rfl | omega) dX12_count_133
    · refine lv_tableOut (tgt := 111) hx hb dX12_count_8 (Or.inl (by rw [h_e]; decide)) (by decide) ?_
      refine lv_iload_n hx hb dX12_count_111 rfl (lv_at hl 2 rfl) ?_
      refine lv_i2l hx hb dX12_count_112 rfl ?_
      refine lv_lconst (v := 0) hx hb dX12_count_113 (by decide) ?_
      refine lv_ldc2 (v := 9) hx hb E.2.2.1 (E.2.2.2.1 _ q2149) dX12_count_114 ?_
      refine xcSi E hs hQ hml hl.1 (uX12_in l g ad _ hD S2 a1.toInt64 0 9) mX12_in q1591 rfl ⟨by decide, by decide⟩ ⟨by decide, by decide⟩ (Nat.le_of_ble_eq_true rfl) rfl dX12_count_117 (fun r18 S18 H locs hp18 hQ => ?_)
      obtain ⟨rfl, hp18⟩ := hp18
      rcases hp18 with ⟨rfl, i18, j18⟩ | ⟨rfl, i18⟩
      · refine lv_if_eq (tgt := 132) hx hb dX12_count_120 (by decide) (fun k_19 => absurd k_19 (by decide)) (fun k_19 => ?_)
        refine lv_aload_n hx hb dX12_count_123 rfl (lv_at hl 1 rfl) ?_
        have c_20 : S2 0 = .inr (12, [.int 0, .ref (ad 1), .ref (ad 2), .ref (ad 3), .ref (ad 4), .ref (ad 5), .int 0, .int 0, .int 0, .int 0, .int 0, .long 0, .int 0, .int 0, .int 0, .int (-1), .ref (ad 6), .ref (ad 7), .ref (ad 8), .ref (ad 9), .ref (ad 10), .ref (ad 11), .ref (ad 12), .ref (ad 13), .ref (ad 14), .ref (ad 15), .int 0, .int 0, .ref (ad 16), .int 0, .int 0, .int 0, .int 0, .int 0, .ref (ad 17), .ref (ad 18), .int 0, .ref (ad 19)]) := (hX 0 (by decide))
        refine xget E hQ 0 (by decide) c_20 rfl 17 (by decide) q1485 rfl dX12_count_124 ?_
        refine lv_iload_n hx hb dX12_count_127 rfl (lv_at hl 2 rfl) ?_
        have c_21 : S2 7 = .inl (g.2 0, 50, .inl zf) := (hX 7 (by decide))
        refine xiald E hQ 7 (by decide) c_21 (vp_in_64 i18 j18 (by decide)) dX12_count_128 ?_
        refine sb_at (P := fun z => W _ _ _ _ _ _ _ _ _ _ _ _ _ _ _ (F0 _ _ _ (.int z :: _))) (show zf (a1 : Int32).toNatClampNeg = 0 from rfl) ?_
        refine lv_goto (tgt := 133) hx hb dX12_count_129 (by decide) ?_
        exact xri E hr hlk hQ (by have hh := congrArg Int32.toInt h_e; rw [nI_toInt (by decide)] at hh; try simp only [i32_lt, i32_le, i32_eq, i64_lt, i64_le, w64, l_0, l_1, l_2, l_3, l_4, l_60, l_m1, L_0, L_2, L_3, L_9] at i18; try simp only [i32_lt, i32_le, i32_eq, i64_lt, i64_le, w64, l_0, l_1, l_2, l_3, l_4, l_60, l_m1, L_0, L_2, L_3, L_9] at j18; unfold ansCount; (repeat' split) <;> first | rfl | omega) dX12_count_133
      · refine lv_if_eq (tgt := 132) hx hb dX12_count_120 (by decide) (fun k_22 => ?_) (fun k_22 => absurd k_22 (by decide))
        refine lv_iconst (v := (-1)) hx hb dX12_count_132 (by decide) ?_
        exact xri E hr hlk hQ (by have hh := congrArg Int32.toInt h_e; rw [nI_toInt (by decide)] at hh; try simp only [i32_lt, i32_le, i32_eq, i64_lt, i64_le, w64, l_0, l_1, l_2, l_3, l_4, l_60, l_m1, L_0, L_2, L_3, L_9] at i18; unfold ansCount; (repeat' split) <;> first | rfl | omega) dX12_count_133
    · refine lv_tableOut (tgt := 111) hx hb dX12_count_8 (Or.inl (by rw [h_e]; decide)) (by decide) ?_
      refine lv_iload_n hx hb dX12_count_111 rfl (lv_at hl 2 rfl) ?_
      refine lv_i2l hx hb dX12_count_112 rfl ?_
      refine lv_lconst (v := 0) hx hb dX12_count_113 (by decide) ?_
      refine lv_ldc2 (v := 9) hx hb E.2.2.1 (E.2.2.2.1 _ q2149) dX12_count_114 ?_
      refine xcSi E hs hQ hml hl.1 (uX12_in l g ad _ hD S2 a1.toInt64 0 9) mX12_in q1591 rfl ⟨by decide, by decide⟩ ⟨by decide, by decide⟩ (Nat.le_of_ble_eq_true rfl) rfl dX12_count_117 (fun r23 S23 H locs hp23 hQ => ?_)
      obtain ⟨rfl, hp23⟩ := hp23
      rcases hp23 with ⟨rfl, i23, j23⟩ | ⟨rfl, i23⟩
      · refine lv_if_eq (tgt := 132) hx hb dX12_count_120 (by decide) (fun k_24 => absurd k_24 (by decide)) (fun k_24 => ?_)
        refine lv_aload_n hx hb dX12_count_123 rfl (lv_at hl 1 rfl) ?_
        have c_25 : S2 0 = .inr (12, [.int 0, .ref (ad 1), .ref (ad 2), .ref (ad 3), .ref (ad 4), .ref (ad 5), .int 0, .int 0, .int 0, .int 0, .int 0, .long 0, .int 0, .int 0, .int 0, .int (-1), .ref (ad 6), .ref (ad 7), .ref (ad 8), .ref (ad 9), .ref (ad 10), .ref (ad 11), .ref (ad 12), .ref (ad 13), .ref (ad 14), .ref (ad 15), .int 0, .int 0, .ref (ad 16), .int 0, .int 0, .int 0, .int 0, .int 0, .ref (ad 17), .ref (ad 18), .int 0, .ref (ad 19)]) := (hX 0 (by decide))
        refine xget E hQ 0 (by decide) c_25 rfl 17 (by decide) q1485 rfl dX12_count_124 ?_
        refine lv_iload_n hx hb dX12_count_127 rfl (lv_at hl 2 rfl) ?_
        have c_26 : S2 7 = .inl (g.2 0, 50, .inl zf) := (hX 7 (by decide))
        refine xiald E hQ 7 (by decide) c_26 (vp_in_64 i23 j23 (by decide)) dX12_count_128 ?_
        refine sb_at (P := fun z => W _ _ _ _ _ _ _ _ _ _ _ _ _ _ _ (F0 _ _ _ (.int z :: _))) (show zf (a1 : Int32).toNatClampNeg = 0 from rfl) ?_
        refine lv_goto (tgt := 133) hx hb dX12_count_129 (by decide) ?_
        exact xri E hr hlk hQ (by have hh := congrArg Int32.toInt h_e; rw [nI_toInt (by decide)] at hh; try simp only [i32_lt, i32_le, i32_eq, i64_lt, i64_le, w64, l_0, l_1, l_2, l_3, l_4, l_60, l_m1, L_0, L_2, L_3, L_9] at i23; try simp only [i32_lt, i32_le, i32_eq, i64_lt, i64_le, w64, l_0, l_1, l_2, l_3, l_4, l_60, l_m1, L_0, L_2, L_3, L_9] at j23; unfold ansCount; (repeat' split) <;> first | rfl | omega) dX12_count_133
      · refine lv_if_eq (tgt := 132) hx hb dX12_count_120 (by decide) (fun k_27 => ?_) (fun k_27 => absurd k_27 (by decide))
        refine lv_iconst (v := (-1)) hx hb dX12_count_132 (by decide) ?_
        exact xri E hr hlk hQ (by have hh := congrArg Int32.toInt h_e; rw [nI_toInt (by decide)] at hh; try simp only [i32_lt, i32_le, i32_eq, i64_lt, i64_le, w64, l_0, l_1, l_2, l_3, l_4, l_60, l_m1, L_0, L_2, L_3, L_9] at i23; unfold ansCount; (repeat' split) <;> first | rfl | omega) dX12_count_133
    · refine lv_tableOut (tgt := 111) hx hb dX12_count_8 (Or.inl (by rw [h_e]; decide)) (by decide) ?_
      refine lv_iload_n hx hb dX12_count_111 rfl (lv_at hl 2 rfl) ?_
      refine lv_i2l hx hb dX12_count_112 rfl ?_
      refine lv_lconst (v := 0) hx hb dX12_count_113 (by decide) ?_
      refine lv_ldc2 (v := 9) hx hb E.2.2.1 (E.2.2.2.1 _ q2149) dX12_count_114 ?_
      refine xcSi E hs hQ hml hl.1 (uX12_in l g ad _ hD S2 a1.toInt64 0 9) mX12_in q1591 rfl ⟨by decide, by decide⟩ ⟨by decide, by decide⟩ (Nat.le_of_ble_eq_true rfl) rfl dX12_count_117 (fun r28 S28 H locs hp28 hQ => ?_)
      obtain ⟨rfl, hp28⟩ := hp28
      rcases hp28 with ⟨rfl, i28, j28⟩ | ⟨rfl, i28⟩
      · refine lv_if_eq (tgt := 132) hx hb dX12_count_120 (by decide) (fun k_29 => absurd k_29 (by decide)) (fun k_29 => ?_)
        refine lv_aload_n hx hb dX12_count_123 rfl (lv_at hl 1 rfl) ?_
        have c_30 : S2 0 = .inr (12, [.int 0, .ref (ad 1), .ref (ad 2), .ref (ad 3), .ref (ad 4), .ref (ad 5), .int 0, .int 0, .int 0, .int 0, .int 0, .long 0, .int 0, .int 0, .int 0, .int (-1), .ref (ad 6), .ref (ad 7), .ref (ad 8), .ref (ad 9), .ref (ad 10), .ref (ad 11), .ref (ad 12), .ref (ad 13), .ref (ad 14), .ref (ad 15), .int 0, .int 0, .ref (ad 16), .int 0, .int 0, .int 0, .int 0, .int 0, .ref (ad 17), .ref (ad 18), .int 0, .ref (ad 19)]) := (hX 0 (by decide))
        refine xget E hQ 0 (by decide) c_30 rfl 17 (by decide) q1485 rfl dX12_count_124 ?_
        refine lv_iload_n hx hb dX12_count_127 rfl (lv_at hl 2 rfl) ?_
        have c_31 : S2 7 = .inl (g.2 0, 50, .inl zf) := (hX 7 (by decide))
        refine xiald E hQ 7 (by decide) c_31 (vp_in_64 i28 j28 (by decide)) dX12_count_128 ?_
        refine sb_at (P := fun z => W _ _ _ _ _ _ _ _ _ _ _ _ _ _ _ (F0 _ _ _ (.int z :: _))) (show zf (a1 : Int32).toNatClampNeg = 0 from rfl) ?_
        refine lv_goto (tgt := 133) hx hb dX12_count_129 (by decide) ?_
        exact xri E hr hlk hQ (by have hh := congrArg Int32.toInt h_e; rw [nI_toInt (by decide)] at hh; try simp only [i32_lt, i32_le, i32_eq, i64_lt, i64_le, w64, l_0, l_1, l_2, l_3, l_4, l_60, l_m1, L_0, L_2, L_3, L_9] at i28; try simp only [i32_lt, i32_le, i32_eq, i64_lt, i64_le, w64, l_0, l_1, l_2, l_3, l_4, l_60, l_m1, L_0, L_2, L_3, L_9] at j28; unfold ansCount; (repeat' split) <;> first | rfl | omega) dX12_count_133
      · refine lv_if_eq (tgt := 132) hx hb dX12_count_120 (by decide) (fun k_32 => ?_) (fun k_32 => absurd k_32 (by decide))
        refine lv_iconst (v := (-1)) hx hb dX12_count_132 (by decide) ?_
        exact xri E hr hlk hQ (by have hh := congrArg Int32.toInt h_e; rw [nI_toInt (by decide)] at hh; try simp only [i32_lt, i32_le, i32_eq, i64_lt, i64_le, w64, l_0, l_1, l_2, l_3, l_4, l_60, l_m1, L_0, L_2, L_3, L_9] at i28; unfold ansCount; (repeat' split) <;> first | rfl | omega) dX12_count_133
    · refine lv_tableOut (tgt := 111) hx hb dX12_count_8 (Or.inl (by rw [h_e]; decide)) (by decide) ?_
      refine lv_iload_n hx hb dX12_count_111 rfl (lv_at hl 2 rfl) ?_
      refine lv_i2l hx hb dX12_count_112 rfl ?_
      refine lv_lconst (v := 0) hx hb dX12_count_113 (by decide) ?_
      refine lv_ldc2 (v := 9) hx hb E.2.2.1 (E.2.2.2.1 _ q2149) dX12_count_114 ?_
      refine xcSi E hs hQ hml hl.1 (uX12_in l g ad _ hD S2 a1.toInt64 0 9) mX12_in q1591 rfl ⟨by decide, by decide⟩ ⟨by decide, by decide⟩ (Nat.le_of_ble_eq_true rfl) rfl dX12_count_117 (fun r33 S33 H locs hp33 hQ => ?_)
      obtain ⟨rfl, hp33⟩ := hp33
      rcases hp33 with ⟨rfl, i33, j33⟩ | ⟨rfl, i33⟩
      · refine lv_if_eq (tgt := 132) hx hb dX12_count_120 (by decide) (fun k_34 => absurd k_34 (by decide)) (fun k_34 => ?_)
        refine lv_aload_n hx hb dX12_count_123 rfl (lv_at hl 1 rfl) ?_
        have c_35 : S2 0 = .inr (12, [.int 0, .ref (ad 1), .ref (ad 2), .ref (ad 3), .ref (ad 4), .ref (ad 5), .int 0, .int 0, .int 0, .int 0, .int 0, .long 0, .int 0, .int 0, .int 0, .int (-1), .ref (ad 6), .ref (ad 7), .ref (ad 8), .ref (ad 9), .ref (ad 10), .ref (ad 11), .ref (ad 12), .ref (ad 13), .ref (ad 14), .ref (ad 15), .int 0, .int 0, .ref (ad 16), .int 0, .int 0, .int 0, .int 0, .int 0, .ref (ad 17), .ref (ad 18), .int 0, .ref (ad 19)]) := (hX 0 (by decide))
        refine xget E hQ 0 (by decide) c_35 rfl 17 (by decide) q1485 rfl dX12_count_124 ?_
        refine lv_iload_n hx hb dX12_count_127 rfl (lv_at hl 2 rfl) ?_
        have c_36 : S2 7 = .inl (g.2 0, 50, .inl zf) := (hX 7 (by decide))
        refine xiald E hQ 7 (by decide) c_36 (vp_in_64 i33 j33 (by decide)) dX12_count_128 ?_
        refine sb_at (P := fun z => W _ _ _ _ _ _ _ _ _ _ _ _ _ _ _ (F0 _ _ _ (.int z :: _))) (show zf (a1 : Int32).toNatClampNeg = 0 from rfl) ?_
        refine lv_goto (tgt := 133) hx hb dX12_count_129 (by decide) ?_
        exact xri E hr hlk hQ (by have hh := congrArg Int32.toInt h_e; rw [nI_toInt (by decide)] at hh; try simp only [i32_lt, i32_le, i32_eq, i64_lt, i64_le, w64, l_0, l_1, l_2, l_3, l_4, l_60, l_m1, L_0, L_2, L_3, L_9] at i33; try simp only [i32_lt, i32_le, i32_eq, i64_lt, i64_le, w64, l_0, l_1, l_2, l_3, l_4, l_60, l_m1, L_0, L_2, L_3, L_9] at j33; unfold ansCount; (repeat' split) <;> first | rfl | omega) dX12_count_133
      · refine lv_if_eq (tgt := 132) hx hb dX12_count_120 (by decide) (fun k_37 => ?_) (fun k_37 => absurd k_37 (by decide))
        refine lv_iconst (v := (-1)) hx hb dX12_count_132 (by decide) ?_
        exact xri E hr hlk hQ (by have hh := congrArg Int32.toInt h_e; rw [nI_toInt (by decide)] at hh; try simp only [i32_lt, i32_le, i32_eq, i64_lt, i64_le, w64, l_0, l_1, l_2, l_3, l_4, l_60, l_m1, L_0, L_2, L_3, L_9] at i33; unfold ansCount; (repeat' split) <;> first | rfl | omega) dX12_count_133
    · refine lv_tableIn (off := 48) (tgt := 56) hx hb dX12_count_8 (by rw [h_e]; decide) (by rw [h_e]; decide) (by rw [h_e]; rfl) (by decide) ?_
      refine lv_aload_n hx hb dX12_count_56 rfl (lv_at hl 1 rfl) ?_
      have c_38 : S2 0 = .inr (12, [.int 0, .ref (ad 1), .ref (ad 2), .ref (ad 3), .ref (ad 4), .ref (ad 5), .int 0, .int 0, .int 0, .int 0, .int 0, .long 0, .int 0, .int 0, .int 0, .int (-1), .ref (ad 6), .ref (ad 7), .ref (ad 8), .ref (ad 9), .ref (ad 10), .ref (ad 11), .ref (ad 12), .ref (ad 13), .ref (ad 14), .ref (ad 15), .int 0, .int 0, .ref (ad 16), .int 0, .int 0, .int 0, .int 0, .int 0, .ref (ad 17), .ref (ad 18), .int 0, .ref (ad 19)]) := (hX 0 (by decide))
      refine xget E hQ 0 (by decide) c_38 rfl 17 (by decide) q1485 rfl dX12_count_57 ?_
      refine lv_iconst (v := 5) hx hb dX12_count_60 (by decide) ?_
      have c_39 : S2 7 = .inl (g.2 0, 50, .inl zf) := (hX 7 (by decide))
      refine xiald E hQ 7 (by decide) c_39 (vp_in_lit 5 50 (by decide)) dX12_count_61 ?_
      refine sb_at (P := fun z => W _ _ _ _ _ _ _ _ _ _ _ _ _ _ _ (F0 _ _ _ (.int z :: _))) (show zf (5 : Int32).toNatClampNeg = 0 from rfl) ?_
      refine xcSi E hs hQ hml hl.1 (sizeOf_0 l g ad hD S2 ) mX12_sizeOf q1895 rfl ⟨by decide, by decide⟩ ⟨by decide, by decide⟩ (Nat.le_of_ble_eq_true rfl) rfl dX12_count_62 (fun r40 S40 H locs hp40 hQ => ?_)
      obtain ⟨o40, rfl⟩ := hp40
      exact xri E hr hlk hQ (by have hh := congrArg Int32.toInt h_e; rw [nI_toInt (by decide)] at hh; unfold ansCount; (repeat' split) <;> first | rfl | omega) dX12_count_65
    · refine lv_tableIn (off := 103) (tgt := 111) hx hb dX12_count_8 (by rw [h_e]; decide) (by rw [h_e]; decide) (by rw [h_e]; rfl) (by decide) ?_
      refine lv_iload_n hx hb dX12_count_111 rfl (lv_at hl 2 rfl) ?_
      refine lv_i2l hx hb dX12_count_112 rfl ?_
      refine lv_lconst (v := 0) hx hb dX12_count_113 (by decide) ?_
      refine lv_ldc2 (v := 9) hx hb E.2.2.1 (E.2.2.2.1 _ q2149) dX12_count_114 ?_
      refine xcSi E hs hQ hml hl.1 (uX12_in l g ad _ hD S2 a1.toInt64 0 9) mX12_in q1591 rfl ⟨by decide, by decide⟩ ⟨by decide, by decide⟩ (Nat.le_of_ble_eq_true rfl) rfl dX12_count_117 (fun r41 S41 H locs hp41 hQ => ?_)
      obtain ⟨rfl, hp41⟩ := hp41
      rcases hp41 with ⟨rfl, i41, j41⟩ | ⟨rfl, i41⟩
      · refine lv_if_eq (tgt := 132) hx hb dX12_count_120 (by decide) (fun k_42 => absurd k_42 (by decide)) (fun k_42 => ?_)
        refine lv_aload_n hx hb dX12_count_123 rfl (lv_at hl 1 rfl) ?_
        have c_43 : S2 0 = .inr (12, [.int 0, .ref (ad 1), .ref (ad 2), .ref (ad 3), .ref (ad 4), .ref (ad 5), .int 0, .int 0, .int 0, .int 0, .int 0, .long 0, .int 0, .int 0, .int 0, .int (-1), .ref (ad 6), .ref (ad 7), .ref (ad 8), .ref (ad 9), .ref (ad 10), .ref (ad 11), .ref (ad 12), .ref (ad 13), .ref (ad 14), .ref (ad 15), .int 0, .int 0, .ref (ad 16), .int 0, .int 0, .int 0, .int 0, .int 0, .ref (ad 17), .ref (ad 18), .int 0, .ref (ad 19)]) := (hX 0 (by decide))
        refine xget E hQ 0 (by decide) c_43 rfl 17 (by decide) q1485 rfl dX12_count_124 ?_
        refine lv_iload_n hx hb dX12_count_127 rfl (lv_at hl 2 rfl) ?_
        have c_44 : S2 7 = .inl (g.2 0, 50, .inl zf) := (hX 7 (by decide))
        refine xiald E hQ 7 (by decide) c_44 (vp_in_64 i41 j41 (by decide)) dX12_count_128 ?_
        refine sb_at (P := fun z => W _ _ _ _ _ _ _ _ _ _ _ _ _ _ _ (F0 _ _ _ (.int z :: _))) (show zf (a1 : Int32).toNatClampNeg = 0 from rfl) ?_
        refine lv_goto (tgt := 133) hx hb dX12_count_129 (by decide) ?_
        exact xri E hr hlk hQ (by have hh := congrArg Int32.toInt h_e; rw [nI_toInt (by decide)] at hh; try simp only [i32_lt, i32_le, i32_eq, i64_lt, i64_le, w64, l_0, l_1, l_2, l_3, l_4, l_60, l_m1, L_0, L_2, L_3, L_9] at i41; try simp only [i32_lt, i32_le, i32_eq, i64_lt, i64_le, w64, l_0, l_1, l_2, l_3, l_4, l_60, l_m1, L_0, L_2, L_3, L_9] at j41; unfold ansCount; (repeat' split) <;> first | rfl | omega) dX12_count_133
      · refine lv_if_eq (tgt := 132) hx hb dX12_count_120 (by decide) (fun k_45 => ?_) (fun k_45 => absurd k_45 (by decide))
        refine lv_iconst (v := (-1)) hx hb dX12_count_132 (by decide) ?_
        exact xri E hr hlk hQ (by have hh := congrArg Int32.toInt h_e; rw [nI_toInt (by decide)] at hh; try simp only [i32_lt, i32_le, i32_eq, i64_lt, i64_le, w64, l_0, l_1, l_2, l_3, l_4, l_60, l_m1, L_0, L_2, L_3, L_9] at i41; unfold ansCount; (repeat' split) <;> first | rfl | omega) dX12_count_133
    · refine lv_tableIn (off := 103) (tgt := 111) hx hb dX12_count_8 (by rw [h_e]; decide) (by rw [h_e]; decide) (by rw [h_e]; rfl) (by decide) ?_
      refine lv_iload_n hx hb dX12_count_111 rfl (lv_at hl 2 rfl) ?_
      refine lv_i2l hx hb dX12_count_112 rfl ?_
      refine lv_lconst (v := 0) hx hb dX12_count_113 (by decide) ?_
      refine lv_ldc2 (v := 9) hx hb E.2.2.1 (E.2.2.2.1 _ q2149) dX12_count_114 ?_
      refine xcSi E hs hQ hml hl.1 (uX12_in l g ad _ hD S2 a1.toInt64 0 9) mX12_in q1591 rfl ⟨by decide, by decide⟩ ⟨by decide, by decide⟩ (Nat.le_of_ble_eq_true rfl) rfl dX12_count_117 (fun r46 S46 H locs hp46 hQ => ?_)
      obtain ⟨rfl, hp46⟩ := hp46
      rcases hp46 with ⟨rfl, i46, j46⟩ | ⟨rfl, i46⟩
      · refine lv_if_eq (tgt := 132) hx hb dX12_count_120 (by decide) (fun k_47 => absurd k_47 (by decide)) (fun k_47 => ?_)
        refine lv_aload_n hx hb dX12_count_123 rfl (lv_at hl 1 rfl) ?_
        have c_48 : S2 0 = .inr (12, [.int 0, .ref (ad 1), .ref (ad 2), .ref (ad 3), .ref (ad 4), .ref (ad 5), .int 0, .int 0, .int 0, .int 0, .int 0, .long 0, .int 0, .int 0, .int 0, .int (-1), .ref (ad 6), .ref (ad 7), .ref (ad 8), .ref (ad 9), .ref (ad 10), .ref (ad 11), .ref (ad 12), .ref (ad 13), .ref (ad 14), .ref (ad 15), .int 0, .int 0, .ref (ad 16), .int 0, .int 0, .int 0, .int 0, .int 0, .ref (ad 17), .ref (ad 18), .int 0, .ref (ad 19)]) := (hX 0 (by decide))
        refine xget E hQ 0 (by decide) c_48 rfl 17 (by decide) q1485 rfl dX12_count_124 ?_
        refine lv_iload_n hx hb dX12_count_127 rfl (lv_at hl 2 rfl) ?_
        have c_49 : S2 7 = .inl (g.2 0, 50, .inl zf) := (hX 7 (by decide))
        refine xiald E hQ 7 (by decide) c_49 (vp_in_64 i46 j46 (by decide)) dX12_count_128 ?_
        refine sb_at (P := fun z => W _ _ _ _ _ _ _ _ _ _ _ _ _ _ _ (F0 _ _ _ (.int z :: _))) (show zf (a1 : Int32).toNatClampNeg = 0 from rfl) ?_
        refine lv_goto (tgt := 133) hx hb dX12_count_129 (by decide) ?_
        exact xri E hr hlk hQ (by have hh := congrArg Int32.toInt h_e; rw [nI_toInt (by decide)] at hh; try simp only [i32_lt, i32_le, i32_eq, i64_lt, i64_le, w64, l_0, l_1, l_2, l_3, l_4, l_60, l_m1, L_0, L_2, L_3, L_9] at i46; try simp only [i32_lt, i32_le, i32_eq, i64_lt, i64_le, w64, l_0, l_1, l_2, l_3, l_4, l_60, l_m1, L_0, L_2, L_3, L_9] at j46; unfold ansCount; (repeat' split) <;> first | rfl | omega) dX12_count_133
      · refine lv_if_eq (tgt := 132) hx hb dX12_count_120 (by decide) (fun k_50 => ?_) (fun k_50 => absurd k_50 (by decide))
        refine lv_iconst (v := (-1)) hx hb dX12_count_132 (by decide) ?_
        exact xri E hr hlk hQ (by have hh := congrArg Int32.toInt h_e; rw [nI_toInt (by decide)] at hh; try simp only [i32_lt, i32_le, i32_eq, i64_lt, i64_le, w64, l_0, l_1, l_2, l_3, l_4, l_60, l_m1, L_0, L_2, L_3, L_9] at i46; unfold ansCount; (repeat' split) <;> first | rfl | omega) dX12_count_133
    · refine lv_tableIn (off := 103) (tgt := 111) hx hb dX12_count_8 (by rw [h_e]; decide) (by rw [h_e]; decide) (by rw [h_e]; rfl) (by decide) ?_
      refine lv_iload_n hx hb dX12_count_111 rfl (lv_at hl 2 rfl) ?_
      refine lv_i2l hx hb dX12_count_112 rfl ?_
      refine lv_lconst (v := 0) hx hb dX12_count_113 (by decide) ?_
      refine lv_ldc2 (v := 9) hx hb E.2.2.1 (E.2.2.2.1 _ q2149) dX12_count_114 ?_
      refine xcSi E hs hQ hml hl.1 (uX12_in l g ad _ hD S2 a1.toInt64 0 9) mX12_in q1591 rfl ⟨by decide, by decide⟩ ⟨by decide, by decide⟩ (Nat.le_of_ble_eq_true rfl) rfl dX12_count_117 (fun r51 S51 H locs hp51 hQ => ?_)
      obtain ⟨rfl, hp51⟩ := hp51
      rcases hp51 with ⟨rfl, i51, j51⟩ | ⟨rfl, i51⟩
      · refine lv_if_eq (tgt := 132) hx hb dX12_count_120 (by decide) (fun k_52 => absurd k_52 (by decide)) (fun k_52 => ?_)
        refine lv_aload_n hx hb dX12_count_123 rfl (lv_at hl 1 rfl) ?_
        have c_53 : S2 0 = .inr (12, [.int 0, .ref (ad 1), .ref (ad 2), .ref (ad 3), .ref (ad 4), .ref (ad 5), .int 0, .int 0, .int 0, .int 0, .int 0, .long 0, .int 0, .int 0, .int 0, .int (-1), .ref (ad 6), .ref (ad 7), .ref (ad 8), .ref (ad 9), .ref (ad 10), .ref (ad 11), .ref (ad 12), .ref (ad 13), .ref (ad 14), .ref (ad 15), .int 0, .int 0, .ref (ad 16), .int 0, .int 0, .int 0, .int 0, .int 0, .ref (ad 17), .ref (ad 18), .int 0, .ref (ad 19)]) := (hX 0 (by decide))
        refine xget E hQ 0 (by decide) c_53 rfl 17 (by decide) q1485 rfl dX12_count_124 ?_
        refine lv_iload_n hx hb dX12_count_127 rfl (lv_at hl 2 rfl) ?_
        have c_54 : S2 7 = .inl (g.2 0, 50, .inl zf) := (hX 7 (by decide))
        refine xiald E hQ 7 (by decide) c_54 (vp_in_64 i51 j51 (by decide)) dX12_count_128 ?_
        refine sb_at (P := fun z => W _ _ _ _ _ _ _ _ _ _ _ _ _ _ _ (F0 _ _ _ (.int z :: _))) (show zf (a1 : Int32).toNatClampNeg = 0 from rfl) ?_
        refine lv_goto (tgt := 133) hx hb dX12_count_129 (by decide) ?_
        exact xri E hr hlk hQ (by have hh := congrArg Int32.toInt h_e; rw [nI_toInt (by decide)] at hh; try simp only [i32_lt, i32_le, i32_eq, i64_lt, i64_le, w64, l_0, l_1, l_2, l_3, l_4, l_60, l_m1, L_0, L_2, L_3, L_9] at i51; try simp only [i32_lt, i32_le, i32_eq, i64_lt, i64_le, w64, l_0, l_1, l_2, l_3, l_4, l_60, l_m1, L_0, L_2, L_3, L_9] at j51; unfold ansCount; (repeat' split) <;> first | rfl | omega) dX12_count_133
      · refine lv_if_eq (tgt := 132) hx hb dX12_count_120 (by decide) (fun k_55 => ?_) (fun k_55 => absurd k_55 (by decide))
        refine lv_iconst (v := (-1)) hx hb dX12_count_132 (by decide) ?_
        exact xri E hr hlk hQ (by have hh := congrArg Int32.toInt h_e; rw [nI_toInt (by decide)] at hh; try simp only [i32_lt, i32_le, i32_eq, i64_lt, i64_le, w64, l_0, l_1, l_2, l_3, l_4, l_60, l_m1, L_0, L_2, L_3, L_9] at i51; unfold ansCount; (repeat' split) <;> first | rfl | omega) dX12_count_133
    · refine lv_tableIn (off := 103) (tgt := 111) hx hb dX12_count_8 (by rw [h_e]; decide) (by rw [h_e]; decide) (by rw [h_e]; rfl) (by decide) ?_
      refine lv_iload_n hx hb dX12_count_111 rfl (lv_at hl 2 rfl) ?_
      refine lv_i2l hx hb dX12_count_112 rfl ?_
      refine lv_lconst (v := 0) hx hb dX12_count_113 (by decide) ?_
      refine lv_ldc2 (v := 9) hx hb E.2.2.1 (E.2.2.2.1 _ q2149) dX12_count_114 ?_
      refine xcSi E hs hQ hml hl.1 (uX12_in l g ad _ hD S2 a1.toInt64 0 9) mX12_in q1591 rfl ⟨by decide, by decide⟩ ⟨by decide, by decide⟩ (Nat.le_of_ble_eq_true rfl) rfl dX12_count_117 (fun r56 S56 H locs hp56 hQ => ?_)
      obtain ⟨rfl, hp56⟩ := hp56
      rcases hp56 with ⟨rfl, i56, j56⟩ | ⟨rfl, i56⟩
      · refine lv_if_eq (tgt := 132) hx hb dX12_count_120 (by decide) (fun k_57 => absurd k_57 (by decide)) (fun k_57 => ?_)
        refine lv_aload_n hx hb dX12_count_123 rfl (lv_at hl 1 rfl) ?_
        have c_58 : S2 0 = .inr (12, [.int 0, .ref (ad 1), .ref (ad 2), .ref (ad 3), .ref (ad 4), .ref (ad 5), .int 0, .int 0, .int 0, .int 0, .int 0, .long 0, .int 0, .int 0, .int 0, .int (-1), .ref (ad 6), .ref (ad 7), .ref (ad 8), .ref (ad 9), .ref (ad 10), .ref (ad 11), .ref (ad 12), .ref (ad 13), .ref (ad 14), .ref (ad 15), .int 0, .int 0, .ref (ad 16), .int 0, .int 0, .int 0, .int 0, .int 0, .ref (ad 17), .ref (ad 18), .int 0, .ref (ad 19)]) := (hX 0 (by decide))
        refine xget E hQ 0 (by decide) c_58 rfl 17 (by decide) q1485 rfl dX12_count_124 ?_
        refine lv_iload_n hx hb dX12_count_127 rfl (lv_at hl 2 rfl) ?_
        have c_59 : S2 7 = .inl (g.2 0, 50, .inl zf) := (hX 7 (by decide))
        refine xiald E hQ 7 (by decide) c_59 (vp_in_64 i56 j56 (by decide)) dX12_count_128 ?_
        refine sb_at (P := fun z => W _ _ _ _ _ _ _ _ _ _ _ _ _ _ _ (F0 _ _ _ (.int z :: _))) (show zf (a1 : Int32).toNatClampNeg = 0 from rfl) ?_
        refine lv_goto (tgt := 133) hx hb dX12_count_129 (by decide) ?_
        exact xri E hr hlk hQ (by have hh := congrArg Int32.toInt h_e; rw [nI_toInt (by decide)] at hh; try simp only [i32_lt, i32_le, i32_eq, i64_lt, i64_le, w64, l_0, l_1, l_2, l_3, l_4, l_60, l_m1, L_0, L_2, L_3, L_9] at i56; try simp only [i32_lt, i32_le, i32_eq, i64_lt, i64_le, w64, l_0, l_1, l_2, l_3, l_4, l_60, l_m1, L_0, L_2, L_3, L_9] at j56; unfold ansCount; (repeat' split) <;> first | rfl | omega) dX12_count_133
      · refine lv_if_eq (tgt := 132) hx hb dX12_count_120 (by decide) (fun k_60 => ?_) (fun k_60 => absurd k_60 (by decide))
        refine lv_iconst (v := (-1)) hx hb dX12_count_132 (by decide) ?_
        exact xri E hr hlk hQ (by have hh := congrArg Int32.toInt h_e; rw [nI_toInt (by decide)] at hh; try simp only [i32_lt, i32_le, i32_eq, i64_lt, i64_le, w64, l_0, l_1, l_2, l_3, l_4, l_60, l_m1, L_0, L_2, L_3, L_9] at i56; unfold ansCount; (repeat' split) <;> first | rfl | omega) dX12_count_133
    · refine lv_tableIn (off := 58) (tgt := 66) hx hb dX12_count_8 (by rw [h_e]; decide) (by rw [h_e]; decide) (by rw [h_e]; rfl) (by decide) ?_
      refine lv_aload_n hx hb dX12_count_66 rfl (lv_at hl 1 rfl) ?_
      have c_61 : S2 0 = .inr (12, [.int 0, .ref (ad 1), .ref (ad 2), .ref (ad 3), .ref (ad 4), .ref (ad 5), .int 0, .int 0, .int 0, .int 0, .int 0, .long 0, .int 0, .int 0, .int 0, .int (-1), .ref (ad 6), .ref (ad 7), .ref (ad 8), .ref (ad 9), .ref (ad 10), .ref (ad 11), .ref (ad 12), .ref (ad 13), .ref (ad 14), .ref (ad 15), .int 0, .int 0, .ref (ad 16), .int 0, .int 0, .int 0, .int 0, .int 0, .ref (ad 17), .ref (ad 18), .int 0, .ref (ad 19)]) := (hX 0 (by decide))
      refine xget E hQ 0 (by decide) c_61 rfl 16 (by decide) q1484 rfl dX12_count_67 ?_
      refine lv_iconst (v := 0) hx hb dX12_count_70 (by decide) ?_
      have c_62 : S2 6 = .inl (g.2 0, 5, .inl zf) := (hX 6 (by decide))
      refine xiald E hQ 6 (by decide) c_62 (vp_in_lit 0 5 (by decide)) dX12_count_71 ?_
      refine sb_at (P := fun z => W _ _ _ _ _ _ _ _ _ _ _ _ _ _ _ (F0 _ _ _ (.int z :: _))) (show zf (0 : Int32).toNatClampNeg = 0 from rfl) ?_
      exact xri E hr hlk hQ (by have hh := congrArg Int32.toInt h_e; rw [nI_toInt (by decide)] at hh; unfold ansCount; (repeat' split) <;> first | rfl | omega) dX12_count_72
    · refine lv_tableIn (off := 65) (tgt := 73) hx hb dX12_count_8 (by rw [h_e]; decide) (by rw [h_e]; decide) (by rw [h_e]; rfl) (by decide) ?_
      refine lv_aload_n hx hb dX12_count_73 rfl (lv_at hl 1 rfl) ?_
      have c_63 : S2 0 = .inr (12, [.int 0, .ref (ad 1), .ref (ad 2), .ref (ad 3), .ref (ad 4), .ref (ad 5), .int 0, .int 0, .int 0, .int 0, .int 0, .long 0, .int 0, .int 0, .int 0, .int (-1), .ref (ad 6), .ref (ad 7), .ref (ad 8), .ref (ad 9), .ref (ad 10), .ref (ad 11), .ref (ad 12), .ref (ad 13), .ref (ad 14), .ref (ad 15), .int 0, .int 0, .ref (ad 16), .int 0, .int 0, .int 0, .int 0, .int 0, .ref (ad 17), .ref (ad 18), .int 0, .ref (ad 19)]) := (hX 0 (by decide))
      refine xget E hQ 0 (by decide) c_63 rfl 6 (by decide) q1474 rfl dX12_count_74 ?_
      exact xri E hr hlk hQ (by have hh := congrArg Int32.toInt h_e; rw [nI_toInt (by decide)] at hh; unfold ansCount; (repeat' split) <;> first | rfl | omega) dX12_count_77
    · refine lv_tableIn (off := 70) (tgt := 78) hx hb dX12_count_8 (by rw [h_e]; decide) (by rw [h_e]; decide) (by rw [h_e]; rfl) (by decide) ?_
      refine lv_iconst (v := 0) hx hb dX12_count_78 (by decide) ?_
      refine lv_istore_n (lv' := [(3, .int 0), (2, .int 0), (0, .ref (ad 0)), (1, .int a1)]) hx hb dX12_count_79 rfl hl (by decide) rfl (fun ls hl => ?_)
      refine lv_iload_n hx hb dX12_count_80 rfl (lv_at hl 0 rfl) ?_
      refine lv_iconst (v := 4) hx hb dX12_count_81 (by decide) ?_
      refine lv_icmp_ge (tgt := 109) hx hb dX12_count_82 (by decide) (fun k_64 => absurd k_64 (by decide)) (fun k_64 => ?_)
      refine lv_iload_n hx hb dX12_count_85 rfl (lv_at hl 1 rfl) ?_
      refine lv_aload_n hx hb dX12_count_86 rfl (lv_at hl 2 rfl) ?_
      have c_65 : S2 0 = .inr (12, [.int 0, .ref (ad 1), .ref (ad 2), .ref (ad 3), .ref (ad 4), .ref (ad 5), .int 0, .int 0, .int 0, .int 0, .int 0, .long 0, .int 0, .int 0, .int 0, .int (-1), .ref (ad 6), .ref (ad 7), .ref (ad 8), .ref (ad 9), .ref (ad 10), .ref (ad 11), .ref (ad 12), .ref (ad 13), .ref (ad 14), .ref (ad 15), .int 0, .int 0, .ref (ad 16), .int 0, .int 0, .int 0, .int 0, .int 0, .ref (ad 17), .ref (ad 18), .int 0, .ref (ad 19)]) := (hX 0 (by decide))
      refine xget E hQ 0 (by decide) c_65 rfl 1 (by decide) q1469 rfl dX12_count_87 ?_
      refine lv_iload_n hx hb dX12_count_90 rfl (lv_at hl 0 rfl) ?_
      have c_66 : S2 1 = .inl (g.2 0, 4, .inl wdF) := (hX 1 (by decide))
      refine xiald E hQ 1 (by decide) c_66 (vp_in_lit 0 4 (by decide)) dX12_count_91 ?_
      refine sb_at (P := fun z => W _ _ _ _ _ _ _ _ _ _ _ _ _ _ _ (F0 _ _ _ (.int z :: _))) (show wdF (0 : Int32).toNatClampNeg = (-1) from wdF_at (vp_in_lit 0 4 (by decide))) ?_
      refine lv_iconst (v := (-1)) hx hb dX12_count_92 (by decide) ?_
      refine lv_icmp_ne (tgt := 100) hx hb dX12_count_93 (by decide) (fun k_67 => absurd k_67 (by decide)) (fun k_67 => ?_)
      refine lv_iconst (v := 0) hx hb dX12_count_96 (by decide) ?_
      refine lv_goto (tgt := 101) hx hb dX12_count_97 (by decide) ?_
      refine lv_iadd hx hb dX12_count_101 ?_
      refine sb_at (P := fun z => W _ _ _ _ _ _ _ _ _ _ _ _ _ _ _ (F0 _ _ _ (.int z :: _))) (show (0 : Int32) + 0 = 0 by decide) ?_
      refine lv_istore_n (lv' := [(2, .int 0), (3, .int 0), (0, .ref (ad 0)), (1, .int a1)]) hx hb dX12_count_102 rfl hl (by decide) rfl (fun ls hl => ?_)
      refine lv_iinc (v := 1) (lv' := [(3, .int 1), (2, .int 0), (0, .ref (ad 0)), (1, .int a1)]) hx hb dX12_count_103 hl (k := 1) rfl (by decide) (by decide) rfl (fun ls hl => ?_)
      refine lv_goto (tgt := 80) hx hb dX12_count_106 (by decide) ?_
      refine lv_iload_n hx hb dX12_count_80 rfl (lv_at hl 0 rfl) ?_
      refine lv_iconst (v := 4) hx hb dX12_count_81 (by decide) ?_
      refine lv_icmp_ge (tgt := 109) hx hb dX12_count_82 (by decide) (fun k_68 => absurd k_68 (by decide)) (fun k_68 => ?_)
      refine lv_iload_n hx hb dX12_count_85 rfl (lv_at hl 1 rfl) ?_
      refine lv_aload_n hx hb dX12_count_86 rfl (lv_at hl 2 rfl) ?_
      refine xget E hQ 0 (by decide) c_65 rfl 1 (by decide) q1469 rfl dX12_count_87 ?_
      refine lv_iload_n hx hb dX12_count_90 rfl (lv_at hl 0 rfl) ?_
      refine xiald E hQ 1 (by decide) c_66 (vp_in_lit 1 4 (by decide)) dX12_count_91 ?_
      refine sb_at (P := fun z => W _ _ _ _ _ _ _ _ _ _ _ _ _ _ _ (F0 _ _ _ (.int z :: _))) (show wdF (1 : Int32).toNatClampNeg = (-1) from wdF_at (vp_in_lit 1 4 (by decide))) ?_
      refine lv_iconst (v := (-1)) hx hb dX12_count_92 (by decide) ?_
      refine lv_icmp_ne (tgt := 100) hx hb dX12_count_93 (by decide) (fun k_69 => absurd k_69 (by decide)) (fun k_69 => ?_)
      refine lv_iconst (v := 0) hx hb dX12_count_96 (by decide) ?_
      refine lv_goto (tgt := 101) hx hb dX12_count_97 (by decide) ?_
      refine lv_iadd hx hb dX12_count_101 ?_
      refine sb_at (P := fun z => W _ _ _ _ _ _ _ _ _ _ _ _ _ _ _ (F0 _ _ _ (.int z :: _))) (show (0 : Int32) + 0 = 0 by decide) ?_
      refine lv_istore_n (lv' := [(2, .int 0), (3, .int 1), (0, .ref (ad 0)), (1, .int a1)]) hx hb dX12_count_102 rfl hl (by decide) rfl (fun ls hl => ?_)
      refine lv_iinc (v := 2) (lv' := [(3, .int 2), (2, .int 0), (0, .ref (ad 0)), (1, .int a1)]) hx hb dX12_count_103 hl (k := 1) rfl (by decide) (by decide) rfl (fun ls hl => ?_)
      refine lv_goto (tgt := 80) hx hb dX12_count_106 (by decide) ?_
      refine lv_iload_n hx hb dX12_count_80 rfl (lv_at hl 0 rfl) ?_
      refine lv_iconst (v := 4) hx hb dX12_count_81 (by decide) ?_
      refine lv_icmp_ge (tgt := 109) hx hb dX12_count_82 (by decide) (fun k_70 => absurd k_70 (by decide)) (fun k_70 => ?_)
      refine lv_iload_n hx hb dX12_count_85 rfl (lv_at hl 1 rfl) ?_
      refine lv_aload_n hx hb dX12_count_86 rfl (lv_at hl 2 rfl) ?_
      refine xget E hQ 0 (by decide) c_65 rfl 1 (by decide) q1469 rfl dX12_count_87 ?_
      refine lv_iload_n hx hb dX12_count_90 rfl (lv_at hl 0 rfl) ?_
      refine xiald E hQ 1 (by decide) c_66 (vp_in_lit 2 4 (by decide)) dX12_count_91 ?_
      refine sb_at (P := fun z => W _ _ _ _ _ _ _ _ _ _ _ _ _ _ _ (F0 _ _ _ (.int z :: _))) (show wdF (2 : Int32).toNatClampNeg = (-1) from wdF_at (vp_in_lit 2 4 (by decide))) ?_
      refine lv_iconst (v := (-1)) hx hb dX12_count_92 (by decide) ?_
      refine lv_icmp_ne (tgt := 100) hx hb dX12_count_93 (by decide) (fun k_71 => absurd k_71 (by decide)) (fun k_71 => ?_)
      refine lv_iconst (v := 0) hx hb dX12_count_96 (by decide) ?_
      refine lv_goto (tgt := 101) hx hb dX12_count_97 (by decide) ?_
      refine lv_iadd hx hb dX12_count_101 ?_
      refine sb_at (P := fun z => W _ _ _ _ _ _ _ _ _ _ _ _ _ _ _ (F0 _ _ _ (.int z :: _))) (show (0 : Int32) + 0 = 0 by decide) ?_
      refine lv_istore_n (lv' := [(2, .int 0), (3, .int 2), (0, .ref (ad 0)), (1, .int a1)]) hx hb dX12_count_102 rfl hl (by decide) rfl (fun ls hl => ?_)
      refine lv_iinc (v := 3) (lv' := [(3, .int 3), (2, .int 0), (0, .ref (ad 0)), (1, .int a1)]) hx hb dX12_count_103 hl (k := 1) rfl (by decide) (by decide) rfl (fun ls hl => ?_)
      refine lv_goto (tgt := 80) hx hb dX12_count_106 (by decide) ?_
      refine lv_iload_n hx hb dX12_count_80 rfl (lv_at hl 0 rfl) ?_
      refine lv_iconst (v := 4) hx hb dX12_count_81 (by decide) ?_
      refine lv_icmp_ge (tgt := 109) hx hb dX12_count_82 (by decide) (fun k_72 => absurd k_72 (by decide)) (fun k_72 => ?_)
      refine lv_iload_n hx hb dX12_count_85 rfl (lv_at hl 1 rfl) ?_
      refine lv_aload_n hx hb dX12_count_86 rfl (lv_at hl 2 rfl) ?_
      refine xget E hQ 0 (by decide) c_65 rfl 1 (by decide) q1469 rfl dX12_count_87 ?_
      refine lv_iload_n hx hb dX12_count_90 rfl (lv_at hl 0 rfl) ?_
      refine xiald E hQ 1 (by decide) c_66 (vp_in_lit 3 4 (by decide)) dX12_count_91 ?_
      refine sb_at (P := fun z => W _ _ _ _ _ _ _ _ _ _ _ _ _ _ _ (F0 _ _ _ (.int z :: _))) (show wdF (3 : Int32).toNatClampNeg = (-1) from wdF_at (vp_in_lit 3 4 (by decide))) ?_
      refine lv_iconst (v := (-1)) hx hb dX12_count_92 (by decide) ?_
      refine lv_icmp_ne (tgt := 100) hx hb dX12_count_93 (by decide) (fun k_73 => absurd k_73 (by decide)) (fun k_73 => ?_)
      refine lv_iconst (v := 0) hx hb dX12_count_96 (by decide) ?_
      refine lv_goto (tgt := 101) hx hb dX12_count_97 (by decide) ?_
      refine lv_iadd hx hb dX12_count_101 ?_
      refine sb_at (P := fun z => W _ _ _ _ _ _ _ _ _ _ _ _ _ _ _ (F0 _ _ _ (.int z :: _))) (show (0 : Int32) + 0 = 0 by decide) ?_
      refine lv_istore_n (lv' := [(2, .int 0), (3, .int 3), (0, .ref (ad 0)), (1, .int a1)]) hx hb dX12_count_102 rfl hl (by decide) rfl (fun ls hl => ?_)
      refine lv_iinc (v := 4) (lv' := [(3, .int 4), (2, .int 0), (0, .ref (ad 0)), (1, .int a1)]) hx hb dX12_count_103 hl (k := 1) rfl (by decide) (by decide) rfl (fun ls hl => ?_)
      refine lv_goto (tgt := 80) hx hb dX12_count_106 (by decide) ?_
      refine lv_iload_n hx hb dX12_count_80 rfl (lv_at hl 0 rfl) ?_
      refine lv_iconst (v := 4) hx hb dX12_count_81 (by decide) ?_
      refine lv_icmp_ge (tgt := 109) hx hb dX12_count_82 (by decide) (fun k_74 => ?_) (fun k_74 => absurd k_74 (by decide))
      refine lv_iload_n hx hb dX12_count_109 rfl (lv_at hl 1 rfl) ?_
      exact xri E hr hlk hQ (by have hh := congrArg Int32.toInt h_e; rw [nI_toInt (by decide)] at hh; unfold ansCount; (repeat' split) <;> first | rfl | omega) dX12_count_110
set_option maxHeartbeats 4000000 in
set_option maxRecDepth 100000 in
theorem four_0 (l : Launch) (g : GG) (ad : Nat → Nat) (hD : Dj ad 20) (S : SS) (a1 : Int32) (f1 : Nat → Int32) (h0 : S 0 = .inr (12, [.int 0, .ref (ad 1), .ref (ad 2), .ref (ad 3), .ref (ad 4), .ref (ad 5), .int 0, .int 0, .int 0, .int 0, .int 0, .long 0, .int 0, .int 0, .int 0, .int (-1), .ref (ad 6), .ref (ad 7), .ref (ad 8), .ref (ad 9), .ref (ad 10), .ref (ad 11), .ref (ad 12), .ref (ad 13), .ref (ad 14), .ref (ad 15), .int 0, .int 0, .ref (ad 16), .int 0, .int 0, .int 0, .int 0, .int 0, .ref (ad 17), .ref (ad 18), .int 0, .ref (ad 19)])) (h5 : S 5 = .inl (g.2 1, 1200, .inl f1)) : Met l yX12_four (wG (.code yX12_four cX12_four 3 none)) (Rm 0) (XPre g ad 20 S [.ref (ad 0), .int a1]) (va_Qv (fun S' => (∀ j, j ∉ ([5, 0] : List Nat) → S' j = S j) ∧ (∃ f : Nat → Int32, S' 5 = .inl (g.2 1, 1200, .inl f)) ∧ S' 0 = .inr (12, [.int 0, .ref (ad 1), .ref (ad 2), .ref (ad 3), .ref (ad 4), .ref (ad 5), .int 4, .int 0, .int 0, .int 0, .int 0, .long 0, .int 0, .int 0, .int 0, .int (-1), .ref (ad 6), .ref (ad 7), .ref (ad 8), .ref (ad 9), .ref (ad 10), .ref (ad 11), .ref (ad 12), .ref (ad 13), .ref (ad 14), .ref (ad 15), .int 0, .int 0, .ref (ad 16), .int 0, .int 0, .int 0, .int 0, .int 0, .ref (ad 17), .ref (ad 18), .int 0, .ref (ad 19)])) (QB g ad 20) (FA ad 20)) 0 0 (FA ad 20) := by
  refine xmet cX12_four "EbbWreckModel" (by decide) rfl (Nat.le_of_ble_eq_true rfl) (fun p e s m below meth c E hr hlk hml hQ ls hl => ?_)
  have hx := E.1
  have hb := E.2.1
  have hs : Sp ad 20 (FA ad 20) := Sp.fa hD
  have hl : lv_has ls 3 [(0, .ref (ad 0)), (1, .int a1)] := hl
  refine lv_bipush (v := 24) hx hb dX12_four_0 (by decide) ?_
  refine lv_istore_n (lv' := [(2, .int 24), (0, .ref (ad 0)), (1, .int a1)]) hx hb dX12_four_2 rfl hl (by decide) rfl (fun ls hl => ?_)
  refine lv_iload_n hx hb dX12_four_3 rfl (lv_at hl 0 rfl) ?_
  refine lv_if_lt (tgt := 36) hx hb dX12_four_4 (by decide) (fun k_1 => absurd k_1 (by decide)) (fun k_1 => ?_)
  refine lv_aload_n hx hb dX12_four_7 rfl (lv_at hl 1 rfl) ?_
  refine xget E hQ 0 (by decide) h0 rfl 5 (by decide) q1473 rfl dX12_four_8 ?_
  refine lv_aload_n hx hb dX12_four_11 rfl (lv_at hl 1 rfl) ?_
  refine xget E hQ 0 (by decide) h0 rfl 6 (by decide) q1474 rfl dX12_four_12 ?_
  refine lv_iload_n hx hb dX12_four_15 rfl (lv_at hl 2 rfl) ?_
  refine lv_iload_n hx hb dX12_four_16 rfl (lv_at hl 0 rfl) ?_
  refine lv_ishr hx hb dX12_four_17 ?_
  refine lv_i2b hx hb dX12_four_18 rfl ?_
  refine xbast E hs hQ 5 (by decide) h5 (vp_in_lit 0 1200 (by decide)) dX12_four_19 (fun H locs S2 e2 hQ => ?_)
  have u2 : S2 5 = .inl (g.2 1, 1200, .inl (upd f1 (0 : Int32).toNatClampNeg (vp_nar .byte ((a1 >>> (24 &&& 31)).toInt8.toInt32)))) := up_at e2 rfl
  refine lv_aload_n hx hb dX12_four_20 rfl (lv_at hl 1 rfl) ?_
  refine lv_dup hx hb dX12_four_21 rfl ?_
  have c_3 : S2 0 = .inr (12, [.int 0, .ref (ad 1), .ref (ad 2), .ref (ad 3), .ref (ad 4), .ref (ad 5), .int 0, .int 0, .int 0, .int 0, .int 0, .long 0, .int 0, .int 0, .int 0, .int (-1), .ref (ad 6), .ref (ad 7), .ref (ad 8), .ref (ad 9), .ref (ad 10), .ref (ad 11), .ref (ad 12), .ref (ad 13), .ref (ad 14), .ref (ad 15), .int 0, .int 0, .ref (ad 16), .int 0, .int 0, .int 0, .int 0, .int 0, .ref (ad 17), .ref (ad 18), .int 0, .ref (ad 19)]) := (up_ne e2 (by decide) h0)
  refine xget E hQ 0 (by decide) c_3 rfl 6 (by decide) q1474 rfl dX12_four_22 ?_
  refine lv_iconst (v := 1) hx hb dX12_four_25 (by decide) ?_
  refine lv_iadd hx hb dX12_four_26 ?_
  refine sb_at (P := fun z => W _ _ _ _ _ _ _ _ _ _ _ _ _ _ _ (F0 _ _ _ (.int z :: _))) (show (0 : Int32) + 1 = 1 by decide) ?_
  refine xputi E hs hQ 0 (by decide) c_3 rfl 6 (by decide) q1474 rfl rfl (Nat.le_of_ble_eq_true rfl) dX12_four_27 (fun H locs S4 e4 hQ => ?_)
  have u4 : S4 0 = .inr (12, [.int 0, .ref (ad 1), .ref (ad 2), .ref (ad 3), .ref (ad 4), .ref (ad 5), .int 1, .int 0, .int 0, .int 0, .int 0, .long 0, .int 0, .int 0, .int 0, .int (-1), .ref (ad 6), .ref (ad 7), .ref (ad 8), .ref (ad 9), .ref (ad 10), .ref (ad 11), .ref (ad 12), .ref (ad 13), .ref (ad 14), .ref (ad 15), .int 0, .int 0, .ref (ad 16), .int 0, .int 0, .int 0, .int 0, .int 0, .ref (ad 17), .ref (ad 18), .int 0, .ref (ad 19)]) := up_at e4 rfl
  refine lv_iinc (v := 16) (lv' := [(2, .int 16), (0, .ref (ad 0)), (1, .int a1)]) hx hb dX12_four_30 hl (k := 0) rfl (by decide) (by decide) rfl (fun ls hl => ?_)
  refine lv_goto (tgt := 3) hx hb dX12_four_33 (by decide) ?_
  refine lv_iload_n hx hb dX12_four_3 rfl (lv_at hl 0 rfl) ?_
  refine lv_if_lt (tgt := 36) hx hb dX12_four_4 (by decide) (fun k_5 => absurd k_5 (by decide)) (fun k_5 => ?_)
  refine lv_aload_n hx hb dX12_four_7 rfl (lv_at hl 1 rfl) ?_
  refine xget E hQ 0 (by decide) u4 rfl 5 (by decide) q1473 rfl dX12_four_8 ?_
  refine lv_aload_n hx hb dX12_four_11 rfl (lv_at hl 1 rfl) ?_
  refine xget E hQ 0 (by decide) u4 rfl 6 (by decide) q1474 rfl dX12_four_12 ?_
  refine lv_iload_n hx hb dX12_four_15 rfl (lv_at hl 2 rfl) ?_
  refine lv_iload_n hx hb dX12_four_16 rfl (lv_at hl 0 rfl) ?_
  refine lv_ishr hx hb dX12_four_17 ?_
  refine lv_i2b hx hb dX12_four_18 rfl ?_
  have c_6 : S4 5 = .inl (g.2 1, 1200, .inl (upd f1 (0 : Int32).toNatClampNeg (vp_nar .byte ((a1 >>> (24 &&& 31)).toInt8.toInt32)))) := (up_ne e4 (by decide) u2)
  refine xbast E hs hQ 5 (by decide) c_6 (vp_in_lit 1 1200 (by decide)) dX12_four_19 (fun H locs S7 e7 hQ => ?_)
  have u7 : S7 5 = .inl (g.2 1, 1200, .inl (upd (upd f1 (0 : Int32).toNatClampNeg (vp_nar .byte ((a1 >>> (24 &&& 31)).toInt8.toInt32))) (1 : Int32).toNatClampNeg (vp_nar .byte ((a1 >>> (16 &&& 31)).toInt8.toInt32)))) := up_at e7 rfl
  refine lv_aload_n hx hb dX12_four_20 rfl (lv_at hl 1 rfl) ?_
  refine lv_dup hx hb dX12_four_21 rfl ?_
  have c_8 : S7 0 = .inr (12, [.int 0, .ref (ad 1), .ref (ad 2), .ref (ad 3), .ref (ad 4), .ref (ad 5), .int 1, .int 0, .int 0, .int 0, .int 0, .long 0, .int 0, .int 0, .int 0, .int (-1), .ref (ad 6), .ref (ad 7), .ref (ad 8), .ref (ad 9), .ref (ad 10), .ref (ad 11), .ref (ad 12), .ref (ad 13), .ref (ad 14), .ref (ad 15), .int 0, .int 0, .ref (ad 16), .int 0, .int 0, .int 0, .int 0, .int 0, .ref (ad 17), .ref (ad 18), .int 0, .ref (ad 19)]) := (up_ne e7 (by decide) u4)
  refine xget E hQ 0 (by decide) c_8 rfl 6 (by decide) q1474 rfl dX12_four_22 ?_
  refine lv_iconst (v := 1) hx hb dX12_four_25 (by decide) ?_
  refine lv_iadd hx hb dX12_four_26 ?_
  refine sb_at (P := fun z => W _ _ _ _ _ _ _ _ _ _ _ _ _ _ _ (F0 _ _ _ (.int z :: _))) (show (1 : Int32) + 1 = 2 by decide) ?_
  refine xputi E hs hQ 0 (by decide) c_8 rfl 6 (by decide) q1474 rfl rfl (Nat.le_of_ble_eq_true rfl) dX12_four_27 (fun H locs S9 e9 hQ => ?_)
  have u9 : S9 0 = .inr (12, [.int 0, .ref (ad 1), .ref (ad 2), .ref (ad 3), .ref (ad 4), .ref (ad 5), .int 2, .int 0, .int 0, .int 0, .int 0, .long 0, .int 0, .int 0, .int 0, .int (-1), .ref (ad 6), .ref (ad 7), .ref (ad 8), .ref (ad 9), .ref (ad 10), .ref (ad 11), .ref (ad 12), .ref (ad 13), .ref (ad 14), .ref (ad 15), .int 0, .int 0, .ref (ad 16), .int 0, .int 0, .int 0, .int 0, .int 0, .ref (ad 17), .ref (ad 18), .int 0, .ref (ad 19)]) := up_at e9 rfl
  refine lv_iinc (v := 8) (lv' := [(2, .int 8), (0, .ref (ad 0)), (1, .int a1)]) hx hb dX12_four_30 hl (k := 0) rfl (by decide) (by decide) rfl (fun ls hl => ?_)
  refine lv_goto (tgt := 3) hx hb dX12_four_33 (by decide) ?_
  refine lv_iload_n hx hb dX12_four_3 rfl (lv_at hl 0 rfl) ?_
  refine lv_if_lt (tgt := 36) hx hb dX12_four_4 (by decide) (fun k_10 => absurd k_10 (by decide)) (fun k_10 => ?_)
  refine lv_aload_n hx hb dX12_four_7 rfl (lv_at hl 1 rfl) ?_
  refine xget E hQ 0 (by decide) u9 rfl 5 (by decide) q1473 rfl dX12_four_8 ?_
  refine lv_aload_n hx hb dX12_four_11 rfl (lv_at hl 1 rfl) ?_
  refine xget E hQ 0 (by decide) u9 rfl 6 (by decide) q1474 rfl dX12_four_12 ?_
  refine lv_iload_n hx hb dX12_four_15 rfl (lv_at hl 2 rfl) ?_
  refine lv_iload_n hx hb dX12_four_16 rfl (lv_at hl 0 rfl) ?_
  refine lv_ishr hx hb dX12_four_17 ?_
  refine lv_i2b hx hb dX12_four_18 rfl ?_
  have c_11 : S9 5 = .inl (g.2 1, 1200, .inl (upd (upd f1 (0 : Int32).toNatClampNeg (vp_nar .byte ((a1 >>> (24 &&& 31)).toInt8.toInt32))) (1 : Int32).toNatClampNeg (vp_nar .byte ((a1 >>> (16 &&& 31)).toInt8.toInt32)))) := (up_ne e9 (by decide) u7)
  refine xbast E hs hQ 5 (by decide) c_11 (vp_in_lit 2 1200 (by decide)) dX12_four_19 (fun H locs S12 e12 hQ => ?_)
  have u12 : S12 5 = .inl (g.2 1, 1200, .inl (upd (upd (upd f1 (0 : Int32).toNatClampNeg (vp_nar .byte ((a1 >>> (24 &&& 31)).toInt8.toInt32))) (1 : Int32).toNatClampNeg (vp_nar .byte ((a1 >>> (16 &&& 31)).toInt8.toInt32))) (2 : Int32).toNatClampNeg (vp_nar .byte ((a1 >>> (8 &&& 31)).toInt8.toInt32)))) := up_at e12 rfl
  refine lv_aload_n hx hb dX12_four_20 rfl (lv_at hl 1 rfl) ?_
  refine lv_dup hx hb dX12_four_21 rfl ?_
  have c_13 : S12 0 = .inr (12, [.int 0, .ref (ad 1), .ref (ad 2), .ref (ad 3), .ref (ad 4), .ref (ad 5), .int 2, .int 0, .int 0, .int 0, .int 0, .long 0, .int 0, .int 0, .int 0, .int (-1), .ref (ad 6), .ref (ad 7), .ref (ad 8), .ref (ad 9), .ref (ad 10), .ref (ad 11), .ref (ad 12), .ref (ad 13), .ref (ad 14), .ref (ad 15), .int 0, .int 0, .ref (ad 16), .int 0, .int 0, .int 0, .int 0, .int 0, .ref (ad 17), .ref (ad 18), .int 0, .ref (ad 19)]) := (up_ne e12 (by decide) u9)
  refine xget E hQ 0 (by decide) c_13 rfl 6 (by decide) q1474 rfl dX12_four_22 ?_
  refine lv_iconst (v := 1) hx hb dX12_four_25 (by decide) ?_
  refine lv_iadd hx hb dX12_four_26 ?_
  refine sb_at (P := fun z => W _ _ _ _ _ _ _ _ _ _ _ _ _ _ _ (F0 _ _ _ (.int z :: _))) (show (2 : Int32) + 1 = 3 by decide) ?_
  refine xputi E hs hQ 0 (by decide) c_13 rfl 6 (by decide) q1474 rfl rfl (Nat.le_of_ble_eq_true rfl) dX12_four_27 (fun H locs S14 e14 hQ => ?_)
  have u14 : S14 0 = .inr (12, [.int 0, .ref (ad 1), .ref (ad 2), .ref (ad 3), .ref (ad 4), .ref (ad 5), .int 3, .int 0, .int 0, .int 0, .int 0, .long 0, .int 0, .int 0, .int 0, .int (-1), .ref (ad 6), .ref (ad 7), .ref (ad 8), .ref (ad 9), .ref (ad 10), .ref (ad 11), .ref (ad 12), .ref (ad 13), .ref (ad 14), .ref (ad 15), .int 0, .int 0, .ref (ad 16), .int 0, .int 0, .int 0, .int 0, .int 0, .ref (ad 17), .ref (ad 18), .int 0, .ref (ad 19)]) := up_at e14 rfl
  refine lv_iinc (v := 0) (lv' := [(2, .int 0), (0, .ref (ad 0)), (1, .int a1)]) hx hb dX12_four_30 hl (k := 0) rfl (by decide) (by decide) rfl (fun ls hl => ?_)
  refine lv_goto (tgt := 3) hx hb dX12_four_33 (by decide) ?_
  refine lv_iload_n hx hb dX12_four_3 rfl (lv_at hl 0 rfl) ?_
  refine lv_if_lt (tgt := 36) hx hb dX12_four_4 (by decide) (fun k_15 => absurd k_15 (by decide)) (fun k_15 => ?_)
  refine lv_aload_n hx hb dX12_four_7 rfl (lv_at hl 1 rfl) ?_
  refine xget E hQ 0 (by decide) u14 rfl 5 (by decide) q1473 rfl dX12_four_8 ?_
  refine lv_aload_n hx hb dX12_four_11 rfl (lv_at hl 1 rfl) ?_
  refine xget E hQ 0 (by decide) u14 rfl 6 (by decide) q1474 rfl dX12_four_12 ?_
  refine lv_iload_n hx hb dX12_four_15 rfl (lv_at hl 2 rfl) ?_
  refine lv_iload_n hx hb dX12_four_16 rfl (lv_at hl 0 rfl) ?_
  refine lv_ishr hx hb dX12_four_17 ?_
  refine lv_i2b hx hb dX12_four_18 rfl ?_
  have c_16 : S14 5 = .inl (g.2 1, 1200, .inl (upd (upd (upd f1 (0 : Int32).toNatClampNeg (vp_nar .byte ((a1 >>> (24 &&& 31)).toInt8.toInt32))) (1 : Int32).toNatClampNeg (vp_nar .byte ((a1 >>> (16 &&& 31)).toInt8.toInt32))) (2 : Int32).toNatClampNeg (vp_nar .byte ((a1 >>> (8 &&& 31)).toInt8.toInt32)))) := (up_ne e14 (by decide) u12)
  refine xbast E hs hQ 5 (by decide) c_16 (vp_in_lit 3 1200 (by decide)) dX12_four_19 (fun H locs S17 e17 hQ => ?_)
  have u17 : S17 5 = .inl (g.2 1, 1200, .inl (upd (upd (upd (upd f1 (0 : Int32).toNatClampNeg (vp_nar .byte ((a1 >>> (24 &&& 31)).toInt8.toInt32))) (1 : Int32).toNatClampNeg (vp_nar .byte ((a1 >>> (16 &&& 31)).toInt8.toInt32))) (2 : Int32).toNatClampNeg (vp_nar .byte ((a1 >>> (8 &&& 31)).toInt8.toInt32))) (3 : Int32).toNatClampNeg (vp_nar .byte ((a1 >>> (0 &&& 31)).toInt8.toInt32)))) := up_at e17 rfl
  refine lv_aload_n hx hb dX12_four_20 rfl (lv_at hl 1 rfl) ?_
  refine lv_dup hx hb dX12_four_21 rfl ?_
  have c_18 : S17 0 = .inr (12, [.int 0, .ref (ad 1), .ref (ad 2), .ref (ad 3), .ref (ad 4), .ref (ad 5), .int 3, .int 0, .int 0, .int 0, .int 0, .long 0, .int 0, .int 0, .int 0, .int (-1), .ref (ad 6), .ref (ad 7), .ref (ad 8), .ref (ad 9), .ref (ad 10), .ref (ad 11), .ref (ad 12), .ref (ad 13), .ref (ad 14), .ref (ad 15), .int 0, .int 0, .ref (ad 16), .int 0, .int 0, .int 0, .int 0, .int 0, .ref (ad 17), .ref (ad 18), .int 0, .ref (ad 19)]) := (up_ne e17 (by decide) u14)
  refine xget E hQ 0 (by decide) c_18 rfl 6 (by decide) q1474 rfl dX12_four_22 ?_
  refine lv_iconst (v := 1) hx hb dX12_four_25 (by decide) ?_
  refine lv_iadd hx hb dX12_four_26 ?_
  refine sb_at (P := fun z => W _ _ _ _ _ _ _ _ _ _ _ _ _ _ _ (F0 _ _ _ (.int z :: _))) (show (3 : Int32) + 1 = 4 by decide) ?_
  refine xputi E hs hQ 0 (by decide) c_18 rfl 6 (by decide) q1474 rfl rfl (Nat.le_of_ble_eq_true rfl) dX12_four_27 (fun H locs S19 e19 hQ => ?_)
  have u19 : S19 0 = .inr (12, [.int 0, .ref (ad 1), .ref (ad 2), .ref (ad 3), .ref (ad 4), .ref (ad 5), .int 4, .int 0, .int 0, .int 0, .int 0, .long 0, .int 0, .int 0, .int 0, .int (-1), .ref (ad 6), .ref (ad 7), .ref (ad 8), .ref (ad 9), .ref (ad 10), .ref (ad 11), .ref (ad 12), .ref (ad 13), .ref (ad 14), .ref (ad 15), .int 0, .int 0, .ref (ad 16), .int 0, .int 0, .int 0, .int 0, .int 0, .ref (ad 17), .ref (ad 18), .int 0, .ref (ad 19)]) := up_at e19 rfl
  refine lv_iinc (v := (-8)) (lv' := [(2, .int (-8)), (0, .ref (ad 0)), (1, .int a1)]) hx hb dX12_four_30 hl (k := 0) rfl (by decide) (by decide) rfl (fun ls hl => ?_)
  refine lv_goto (tgt := 3) hx hb dX12_four_33 (by decide) ?_
  refine lv_iload_n hx hb dX12_four_3 rfl (lv_at hl 0 rfl) ?_
  refine lv_if_lt (tgt := 36) hx hb dX12_four_4 (by decide) (fun k_20 => ?_) (fun k_20 => absurd k_20 (by decide))
  have c_21 : S19 5 = .inl (g.2 1, 1200, .inl (upd (upd (upd (upd f1 (0 : Int32).toNatClampNeg (vp_nar .byte ((a1 >>> (24 &&& 31)).toInt8.toInt32))) (1 : Int32).toNatClampNeg (vp_nar .byte ((a1 >>> (16 &&& 31)).toInt8.toInt32))) (2 : Int32).toNatClampNeg (vp_nar .byte ((a1 >>> (8 &&& 31)).toInt8.toInt32))) (3 : Int32).toNatClampNeg (vp_nar .byte ((a1 >>> (0 &&& 31)).toInt8.toInt32)))) := (up_ne e19 (by decide) u17)
  exact xrv E hr hlk hQ (⟨fun j hj => (up_ne e19 (fun h => hj (by subst h; decide)) (up_ne e17 (fun h => hj (by subst h; decide)) (up_ne e14 (fun h => hj (by subst h; decide)) (up_ne e12 (fun h => hj (by subst h; decide)) (up_ne e9 (fun h => hj (by subst h; decide)) (up_ne e7 (fun h => hj (by subst h; decide)) (up_ne e4 (fun h => hj (by subst h; decide)) (up_ne e2 (fun h => hj (by subst h; decide)) rfl)))))))), ⟨_, c_21⟩, u19⟩) dX12_four_36
set_option maxHeartbeats 4000000 in
set_option maxRecDepth 100000 in
theorem four_4 (l : Launch) (g : GG) (ad : Nat → Nat) (hD : Dj ad 20) (S : SS) (a1 : Int32) (f1 : Nat → Int32) (h0 : S 0 = .inr (12, [.int 0, .ref (ad 1), .ref (ad 2), .ref (ad 3), .ref (ad 4), .ref (ad 5), .int 4, .int 0, .int 0, .int 0, .int 0, .long 0, .int 0, .int 0, .int 0, .int (-1), .ref (ad 6), .ref (ad 7), .ref (ad 8), .ref (ad 9), .ref (ad 10), .ref (ad 11), .ref (ad 12), .ref (ad 13), .ref (ad 14), .ref (ad 15), .int 0, .int 0, .ref (ad 16), .int 0, .int 0, .int 0, .int 0, .int 0, .ref (ad 17), .ref (ad 18), .int 0, .ref (ad 19)])) (h5 : S 5 = .inl (g.2 1, 1200, .inl f1)) : Met l yX12_four (wG (.code yX12_four cX12_four 3 none)) (Rm 0) (XPre g ad 20 S [.ref (ad 0), .int a1]) (va_Qv (fun S' => (∀ j, j ∉ ([5, 0] : List Nat) → S' j = S j) ∧ (∃ f : Nat → Int32, S' 5 = .inl (g.2 1, 1200, .inl f)) ∧ S' 0 = .inr (12, [.int 0, .ref (ad 1), .ref (ad 2), .ref (ad 3), .ref (ad 4), .ref (ad 5), .int 8, .int 0, .int 0, .int 0, .int 0, .long 0, .int 0, .int 0, .int 0, .int (-1), .ref (ad 6), .ref (ad 7), .ref (ad 8), .ref (ad 9), .ref (ad 10), .ref (ad 11), .ref (ad 12), .ref (ad 13), .ref (ad 14), .ref (ad 15), .int 0, .int 0, .ref (ad 16), .int 0, .int 0, .int 0, .int 0, .int 0, .ref (ad 17), .ref (ad 18), .int 0, .ref (ad 19)])) (QB g ad 20) (FA ad 20)) 0 0 (FA ad 20) := by
  refine xmet cX12_four "EbbWreckModel" (by decide) rfl (Nat.le_of_ble_eq_true rfl) (fun p e s m below meth c E hr hlk hml hQ ls hl => ?_)
  have hx := E.1
  have hb := E.2.1
  have hs : Sp ad 20 (FA ad 20) := Sp.fa hD
  have hl : lv_has ls 3 [(0, .ref (ad 0)), (1, .int a1)] := hl
  refine lv_bipush (v := 24) hx hb dX12_four_0 (by decide) ?_
  refine lv_istore_n (lv' := [(2, .int 24), (0, .ref (ad 0)), (1, .int a1)]) hx hb dX12_four_2 rfl hl (by decide) rfl (fun ls hl => ?_)
  refine lv_iload_n hx hb dX12_four_3 rfl (lv_at hl 0 rfl) ?_
  refine lv_if_lt (tgt := 36) hx hb dX12_four_4 (by decide) (fun k_1 => absurd k_1 (by decide)) (fun k_1 => ?_)
  refine lv_aload_n hx hb dX12_four_7 rfl (lv_at hl 1 rfl) ?_
  refine xget E hQ 0 (by decide) h0 rfl 5 (by decide) q1473 rfl dX12_four_8 ?_
  refine lv_aload_n hx hb dX12_four_11 rfl (lv_at hl 1 rfl) ?_
  refine xget E hQ 0 (by decide) h0 rfl 6 (by decide) q1474 rfl dX12_four_12 ?_
  refine lv_iload_n hx hb dX12_four_15 rfl (lv_at hl 2 rfl) ?_
  refine lv_iload_n hx hb dX12_four_16 rfl (lv_at hl 0 rfl) ?_
  refine lv_ishr hx hb dX12_four_17 ?_
  refine lv_i2b hx hb dX12_four_18 rfl ?_
  refine xbast E hs hQ 5 (by decide) h5 (vp_in_lit 4 1200 (by decide)) dX12_four_19 (fun H locs S2 e2 hQ => ?_)
  have u2 : S2 5 = .inl (g.2 1, 1200, .inl (upd f1 (4 : Int32).toNatClampNeg (vp_nar .byte ((a1 >>> (24 &&& 31)).toInt8.toInt32)))) := up_at e2 rfl
  refine lv_aload_n hx hb dX12_four_20 rfl (lv_at hl 1 rfl) ?_
  refine lv_dup hx hb dX12_four_21 rfl ?_
  have c_3 : S2 0 = .inr (12, [.int 0, .ref (ad 1), .ref (ad 2), .ref (ad 3), .ref (ad 4), .ref (ad 5), .int 4, .int 0, .int 0, .int 0, .int 0, .long 0, .int 0, .int 0, .int 0, .int (-1), .ref (ad 6), .ref (ad 7), .ref (ad 8), .ref (ad 9), .ref (ad 10), .ref (ad 11), .ref (ad 12), .ref (ad 13), .ref (ad 14), .ref (ad 15), .int 0, .int 0, .ref (ad 16), .int 0, .int 0, .int 0, .int 0, .int 0, .ref (ad 17), .ref (ad 18), .int 0, .ref (ad 19)]) := (up_ne e2 (by decide) h0)
  refine xget E hQ 0 (by decide) c_3 rfl 6 (by decide) q1474 rfl dX12_four_22 ?_
  refine lv_iconst (v := 1) hx hb dX12_four_25 (by decide) ?_
  refine lv_iadd hx hb dX12_four_26 ?_
  refine sb_at (P := fun z => W _ _ _ _ _ _ _ _ _ _ _ _ _ _ _ (F0 _ _ _ (.int z :: _))) (show (4 : Int32) + 1 = 5 by decide) ?_
  refine xputi E hs hQ 0 (by decide) c_3 rfl 6 (by decide) q1474 rfl rfl (Nat.le_of_ble_eq_true rfl) dX12_four_27 (fun H locs S4 e4 hQ => ?_)
  have u4 : S4 0 = .inr (12, [.int 0, .ref (ad 1), .ref (ad 2), .ref (ad 3), .ref (ad 4), .ref (ad 5), .int 5, .int 0, .int 0, .int 0, .int 0, .long 0, .int 0, .int 0, .int 0, .int (-1), .ref (ad 6), .ref (ad 7), .ref (ad 8), .ref (ad 9), .ref (ad 10), .ref (ad 11), .ref (ad 12), .ref (ad 13), .ref (ad 14), .ref (ad 15), .int 0, .int 0, .ref (ad 16), .int 0, .int 0, .int 0, .int 0, .int 0, .ref (ad 17), .ref (ad 18), .int 0, .ref (ad 19)]) := up_at e4 rfl
  refine lv_iinc (v := 16) (lv' := [(2, .int 16), (0, .ref (ad 0)), (1, .int a1)]) hx hb dX12_four_30 hl (k := 0) rfl (by decide) (by decide) rfl (fun ls hl => ?_)
  refine lv_goto (tgt := 3) hx hb dX12_four_33 (by decide) ?_
  refine lv_iload_n hx hb dX12_four_3 rfl (lv_at hl 0 rfl) ?_
  refine lv_if_lt (tgt := 36) hx hb dX12_four_4 (by decide) (fun k_5 => absurd k_5 (by decide)) (fun k_5 => ?_)
  refine lv_aload_n hx hb dX12_four_7 rfl (lv_at hl 1 rfl) ?_
  refine xget E hQ 0 (by decide) u4 rfl 5 (by decide) q1473 rfl dX12_four_8 ?_
  refine lv_aload_n hx hb dX12_four_11 rfl (lv_at hl 1 rfl) ?_
  refine xget E hQ 0 (by decide) u4 rfl 6 (by decide) q1474 rfl dX12_four_12 ?_
  refine lv_iload_n hx hb dX12_four_15 rfl (lv_at hl 2 rfl) ?_
  refine lv_iload_n hx hb dX12_four_16 rfl (lv_at hl 0 rfl) ?_
  refine lv_ishr hx hb dX12_four_17 ?_
  refine lv_i2b hx hb dX12_four_18 rfl ?_
  have c_6 : S4 5 = .inl (g.2 1, 1200, .inl (upd f1 (4 : Int32).toNatClampNeg (vp_nar .byte ((a1 >>> (24 &&& 31)).toInt8.toInt32)))) := (up_ne e4 (by decide) u2)
  refine xbast E hs hQ 5 (by decide) c_6 (vp_in_lit 5 1200 (by decide)) dX12_four_19 (fun H locs S7 e7 hQ => ?_)
  have u7 : S7 5 = .inl (g.2 1, 1200, .inl (upd (upd f1 (4 : Int32).toNatClampNeg (vp_nar .byte ((a1 >>> (24 &&& 31)).toInt8.toInt32))) (5 : Int32).toNatClampNeg (vp_nar .byte ((a1 >>> (16 &&& 31)).toInt8.toInt32)))) := up_at e7 rfl
  refine lv_aload_n hx hb dX12_four_20 rfl (lv_at hl 1 rfl) ?_
  refine lv_dup hx hb dX12_four_21 rfl ?_
  have c_8 : S7 0 = .inr (12, [.int 0, .ref (ad 1), .ref (ad 2), .ref (ad 3), .ref (ad 4), .ref (ad 5), .int 5, .int 0, .int 0, .int 0, .int 0, .long 0, .int 0, .int 0, .int 0, .int (-1), .ref (ad 6), .ref (ad 7), .ref (ad 8), .ref (ad 9), .ref (ad 10), .ref (ad 11), .ref (ad 12), .ref (ad 13), .ref (ad 14), .ref (ad 15), .int 0, .int 0, .ref (ad 16), .int 0, .int 0, .int 0, .int 0, .int 0, .ref (ad 17), .ref (ad 18), .int 0, .ref (ad 19)]) := (up_ne e7 (by decide) u4)
  refine xget E hQ 0 (by decide) c_8 rfl 6 (by decide) q1474 rfl dX12_four_22 ?_
  refine lv_iconst (v := 1) hx hb dX12_four_25 (by decide) ?_
  refine lv_iadd hx hb dX12_four_26 ?_
  refine sb_at (P := fun z => W _ _ _ _ _ _ _ _ _ _ _ _ _ _ _ (F0 _ _ _ (.int z :: _))) (show (5 : Int32) + 1 = 6 by decide) ?_
  refine xputi E hs hQ 0 (by decide) c_8 rfl 6 (by decide) q1474 rfl rfl (Nat.le_of_ble_eq_true rfl) dX12_four_27 (fun H locs S9 e9 hQ => ?_)
  have u9 : S9 0 = .inr (12, [.int 0, .ref (ad 1), .ref (ad 2), .ref (ad 3), .ref (ad 4), .ref (ad 5), .int 6, .int 0, .int 0, .int 0, .int 0, .long 0, .int 0, .int 0, .int 0, .int (-1), .ref (ad 6), .ref (ad 7), .ref (ad 8), .ref (ad 9), .ref (ad 10), .ref (ad 11), .ref (ad 12), .ref (ad 13), .ref (ad 14), .ref (ad 15), .int 0, .int 0, .ref (ad 16), .int 0, .int 0, .int 0, .int 0, .int 0, .ref (ad 17), .ref (ad 18), .int 0, .ref (ad 19)]) := up_at e9 rfl
  refine lv_iinc (v := 8) (lv' := [(2, .int 8), (0, .ref (ad 0)), (1, .int a1)]) hx hb dX12_four_30 hl (k := 0) rfl (by decide) (by decide) rfl (fun ls hl => ?_)
  refine lv_goto (tgt := 3) hx hb dX12_four_33 (by decide) ?_
  refine lv_iload_n hx hb dX12_four_3 rfl (lv_at hl 0 rfl) ?_
  refine lv_if_lt (tgt := 36) hx hb dX12_four_4 (by decide) (fun k_10 => absurd k_10 (by decide)) (fun k_10 => ?_)
  refine lv_aload_n hx hb dX12_four_7 rfl (lv_at hl 1 rfl) ?_
  refine xget E hQ 0 (by decide) u9 rfl 5 (by decide) q1473 rfl dX12_four_8 ?_
  refine lv_aload_n hx hb dX12_four_11 rfl (lv_at hl 1 rfl) ?_
  refine xget E hQ 0 (by decide) u9 rfl 6 (by decide) q1474 rfl dX12_four_12 ?_
  refine lv_iload_n hx hb dX12_four_15 rfl (lv_at hl 2 rfl) ?_
  refine lv_iload_n hx hb dX12_four_16 rfl (lv_at hl 0 rfl) ?_
  refine lv_ishr hx hb dX12_four_17 ?_
  refine lv_i2b hx hb dX12_four_18 rfl ?_
  have c_11 : S9 5 = .inl (g.2 1, 1200, .inl (upd (upd f1 (4 : Int32).toNatClampNeg (vp_nar .byte ((a1 >>> (24 &&& 31)).toInt8.toInt32))) (5 : Int32).toNatClampNeg (vp_nar .byte ((a1 >>> (16 &&& 31)).toInt8.toInt32)))) := (up_ne e9 (by decide) u7)
  refine xbast E hs hQ 5 (by decide) c_11 (vp_in_lit 6 1200 (by decide)) dX12_four_19 (fun H locs S12 e12 hQ => ?_)
  have u12 : S12 5 = .inl (g.2 1, 1200, .inl (upd (upd (upd f1 (4 : Int32).toNatClampNeg (vp_nar .byte ((a1 >>> (24 &&& 31)).toInt8.toInt32))) (5 : Int32).toNatClampNeg (vp_nar .byte ((a1 >>> (16 &&& 31)).toInt8.toInt32))) (6 : Int32).toNatClampNeg (vp_nar .byte ((a1 >>> (8 &&& 31)).toInt8.toInt32)))) := up_at e12 rfl
  refine lv_aload_n hx hb dX12_four_20 rfl (lv_at hl 1 rfl) ?_
  refine lv_dup hx hb dX12_four_21 rfl ?_
  have c_13 : S12 0 = .inr (12, [.int 0, .ref (ad 1), .ref (ad 2), .ref (ad 3), .ref (ad 4), .ref (ad 5), .int 6, .int 0, .int 0, .int 0, .int 0, .long 0, .int 0, .int 0, .int 0, .int (-1), .ref (ad 6), .ref (ad 7), .ref (ad 8), .ref (ad 9), .ref (ad 10), .ref (ad 11), .ref (ad 12), .ref (ad 13), .ref (ad 14), .ref (ad 15), .int 0, .int 0, .ref (ad 16), .int 0, .int 0, .int 0, .int 0, .int 0, .ref (ad 17), .ref (ad 18), .int 0, .ref (ad 19)]) := (up_ne e12 (by decide) u9)
  refine xget E hQ 0 (by decide) c_13 rfl 6 (by decide) q1474 rfl dX12_four_22 ?_
  refine lv_iconst (v := 1) hx hb dX12_four_25 (by decide) ?_
  refine lv_iadd hx hb dX12_four_26 ?_
  refine sb_at (P := fun z => W _ _ _ _ _ _ _ _ _ _ _ _ _ _ _ (F0 _ _ _ (.int z :: _))) (show (6 : Int32) + 1 = 7 by decide) ?_
  refine xputi E hs hQ 0 (by decide) c_13 rfl 6 (by decide) q1474 rfl rfl (Nat.le_of_ble_eq_true rfl) dX12_four_27 (fun H locs S14 e14 hQ => ?_)
  have u14 : S14 0 = .inr (12, [.int 0, .ref (ad 1), .ref (ad 2), .ref (ad 3), .ref (ad 4), .ref (ad 5), .int 7, .int 0, .int 0, .int 0, .int 0, .long 0, .int 0, .int 0, .int 0, .int (-1), .ref (ad 6), .ref (ad 7), .ref (ad 8), .ref (ad 9), .ref (ad 10), .ref (ad 11), .ref (ad 12), .ref (ad 13), .ref (ad 14), .ref (ad 15), .int 0, .int 0, .ref (ad 16), .int 0, .int 0, .int 0, .int 0, .int 0, .ref (ad 17), .ref (ad 18), .int 0, .ref (ad 19)]) := up_at e14 rfl
  refine lv_iinc (v := 0) (lv' := [(2, .int 0), (0, .ref (ad 0)), (1, .int a1)]) hx hb dX12_four_30 hl (k := 0) rfl (by decide) (by decide) rfl (fun ls hl => ?_)
  refine lv_goto (tgt := 3) hx hb dX12_four_33 (by decide) ?_
  refine lv_iload_n hx hb dX12_four_3 rfl (lv_at hl 0 rfl) ?_
  refine lv_if_lt (tgt := 36) hx hb dX12_four_4 (by decide) (fun k_15 => absurd k_15 (by decide)) (fun k_15 => ?_)
  refine lv_aload_n hx hb dX12_four_7 rfl (lv_at hl 1 rfl) ?_
  refine xget E hQ 0 (by decide) u14 rfl 5 (by decide) q1473 rfl dX12_four_8 ?_
  refine lv_aload_n hx hb dX12_four_11 rfl (lv_at hl 1 rfl) ?_
  refine xget E hQ 0 (by decide) u14 rfl 6 (by decide) q1474 rfl dX12_four_12 ?_
  refine lv_iload_n hx hb dX12_four_15 rfl (lv_at hl 2 rfl) ?_
  refine lv_iload_n hx hb dX12_four_16 rfl (lv_at hl 0 rfl) ?_
  refine lv_ishr hx hb dX12_four_17 ?_
  refine lv_i2b hx hb dX12_four_18 rfl ?_
  have c_16 : S14 5 = .inl (g.2 1, 1200, .inl (upd (upd (upd f1 (4 : Int32).toNatClampNeg (vp_nar .byte ((a1 >>> (24 &&& 31)).toInt8.toInt32))) (5 : Int32).toNatClampNeg (vp_nar .byte ((a1 >>> (16 &&& 31)).toInt8.toInt32))) (6 : Int32).toNatClampNeg (vp_nar .byte ((a1 >>> (8 &&& 31)).toInt8.toInt32)))) := (up_ne e14 (by decide) u12)
  refine xbast E hs hQ 5 (by decide) c_16 (vp_in_lit 7 1200 (by decide)) dX12_four_19 (fun H locs S17 e17 hQ => ?_)
  have u17 : S17 5 = .inl (g.2 1, 1200, .inl (upd (upd (upd (upd f1 (4 : Int32).toNatClampNeg (vp_nar .byte ((a1 >>> (24 &&& 31)).toInt8.toInt32))) (5 : Int32).toNatClampNeg (vp_nar .byte ((a1 >>> (16 &&& 31)).toInt8.toInt32))) (6 : Int32).toNatClampNeg (vp_nar .byte ((a1 >>> (8 &&& 31)).toInt8.toInt32))) (7 : Int32).toNatClampNeg (vp_nar .byte ((a1 >>> (0 &&& 31)).toInt8.toInt32)))) := up_at e17 rfl
  refine lv_aload_n hx hb dX12_four_20 rfl (lv_at hl 1 rfl) ?_
  refine lv_dup hx hb dX12_four_21 rfl ?_
  have c_18 : S17 0 = .inr (12, [.int 0, .ref (ad 1), .ref (ad 2), .ref (ad 3), .ref (ad 4), .ref (ad 5), .int 7, .int 0, .int 0, .int 0, .int 0, .long 0, .int 0, .int 0, .int 0, .int (-1), .ref (ad 6), .ref (ad 7), .ref (ad 8), .ref (ad 9), .ref (ad 10), .ref (ad 11), .ref (ad 12), .ref (ad 13), .ref (ad 14), .ref (ad 15), .int 0, .int 0, .ref (ad 16), .int 0, .int 0, .int 0, .int 0, .int 0, .ref (ad 17), .ref (ad 18), .int 0, .ref (ad 19)]) := (up_ne e17 (by decide) u14)
  refine xget E hQ 0 (by decide) c_18 rfl 6 (by decide) q1474 rfl dX12_four_22 ?_
  refine lv_iconst (v := 1) hx hb dX12_four_25 (by decide) ?_
  refine lv_iadd hx hb dX12_four_26 ?_
  refine sb_at (P := fun z => W _ _ _ _ _ _ _ _ _ _ _ _ _ _ _ (F0 _ _ _ (.int z :: _))) (show (7 : Int32) + 1 = 8 by decide) ?_
  refine xputi E hs hQ 0 (by decide) c_18 rfl 6 (by decide) q1474 rfl rfl (Nat.le_of_ble_eq_true rfl) dX12_four_27 (fun H locs S19 e19 hQ => ?_)
  have u19 : S19 0 = .inr (12, [.int 0, .ref (ad 1), .ref (ad 2), .ref (ad 3), .ref (ad 4), .ref (ad 5), .int 8, .int 0, .int 0, .int 0, .int 0, .long 0, .int 0, .int 0, .int 0, .int (-1), .ref (ad 6), .ref (ad 7), .ref (ad 8), .ref (ad 9), .ref (ad 10), .ref (ad 11), .ref (ad 12), .ref (ad 13), .ref (ad 14), .ref (ad 15), .int 0, .int 0, .ref (ad 16), .int 0, .int 0, .int 0, .int 0, .int 0, .ref (ad 17), .ref (ad 18), .int 0, .ref (ad 19)]) := up_at e19 rfl
  refine lv_iinc (v := (-8)) (lv' := [(2, .int (-8)), (0, .ref (ad 0)), (1, .int a1)]) hx hb dX12_four_30 hl (k := 0) rfl (by decide) (by decide) rfl (fun ls hl => ?_)
  refine lv_goto (tgt := 3) hx hb dX12_four_33 (by decide) ?_
  refine lv_iload_n hx hb dX12_four_3 rfl (lv_at hl 0 rfl) ?_
  refine lv_if_lt (tgt := 36) hx hb dX12_four_4 (by decide) (fun k_20 => ?_) (fun k_20 => absurd k_20 (by decide))
  have c_21 : S19 5 = .inl (g.2 1, 1200, .inl (upd (upd (upd (upd f1 (4 : Int32).toNatClampNeg (vp_nar .byte ((a1 >>> (24 &&& 31)).toInt8.toInt32))) (5 : Int32).toNatClampNeg (vp_nar .byte ((a1 >>> (16 &&& 31)).toInt8.toInt32))) (6 : Int32).toNatClampNeg (vp_nar .byte ((a1 >>> (8 &&& 31)).toInt8.toInt32))) (7 : Int32).toNatClampNeg (vp_nar .byte ((a1 >>> (0 &&& 31)).toInt8.toInt32)))) := (up_ne e19 (by decide) u17)
  exact xrv E hr hlk hQ (⟨fun j hj => (up_ne e19 (fun h => hj (by subst h; decide)) (up_ne e17 (fun h => hj (by subst h; decide)) (up_ne e14 (fun h => hj (by subst h; decide)) (up_ne e12 (fun h => hj (by subst h; decide)) (up_ne e9 (fun h => hj (by subst h; decide)) (up_ne e7 (fun h => hj (by subst h; decide)) (up_ne e4 (fun h => hj (by subst h; decide)) (up_ne e2 (fun h => hj (by subst h; decide)) rfl)))))))), ⟨_, c_21⟩, u19⟩) dX12_four_36
set_option maxHeartbeats 4000000 in
set_option maxRecDepth 100000 in
theorem four_8 (l : Launch) (g : GG) (ad : Nat → Nat) (hD : Dj ad 20) (S : SS) (a1 : Int32) (f1 : Nat → Int32) (h0 : S 0 = .inr (12, [.int 0, .ref (ad 1), .ref (ad 2), .ref (ad 3), .ref (ad 4), .ref (ad 5), .int 8, .int 0, .int 0, .int 0, .int 0, .long 0, .int 0, .int 0, .int 0, .int (-1), .ref (ad 6), .ref (ad 7), .ref (ad 8), .ref (ad 9), .ref (ad 10), .ref (ad 11), .ref (ad 12), .ref (ad 13), .ref (ad 14), .ref (ad 15), .int 0, .int 0, .ref (ad 16), .int 0, .int 0, .int 0, .int 0, .int 0, .ref (ad 17), .ref (ad 18), .int 0, .ref (ad 19)])) (h5 : S 5 = .inl (g.2 1, 1200, .inl f1)) : Met l yX12_four (wG (.code yX12_four cX12_four 3 none)) (Rm 0) (XPre g ad 20 S [.ref (ad 0), .int a1]) (va_Qv (fun S' => (∀ j, j ∉ ([5, 0] : List Nat) → S' j = S j) ∧ (∃ f : Nat → Int32, S' 5 = .inl (g.2 1, 1200, .inl f)) ∧ S' 0 = .inr (12, [.int 0, .ref (ad 1), .ref (ad 2), .ref (ad 3), .ref (ad 4), .ref (ad 5), .int 12, .int 0, .int 0, .int 0, .int 0, .long 0, .int 0, .int 0, .int 0, .int (-1), .ref (ad 6), .ref (ad 7), .ref (ad 8), .ref (ad 9), .ref (ad 10), .ref (ad 11), .ref (ad 12), .ref (ad 13), .ref (ad 14), .ref (ad 15), .int 0, .int 0, .ref (ad 16), .int 0, .int 0, .int 0, .int 0, .int 0, .ref (ad 17), .ref (ad 18), .int 0, .ref (ad 19)])) (QB g ad 20) (FA ad 20)) 0 0 (FA ad 20) := by
  refine xmet cX12_four "EbbWreckModel" (by decide) rfl (Nat.le_of_ble_eq_true rfl) (fun p e s m below meth c E hr hlk hml hQ ls hl => ?_)
  have hx := E.1
  have hb := E.2.1
  have hs : Sp ad 20 (FA ad 20) := Sp.fa hD
  have hl : lv_has ls 3 [(0, .ref (ad 0)), (1, .int a1)] := hl
  refine lv_bipush (v := 24) hx hb dX12_four_0 (by decide) ?_
  refine lv_istore_n (lv' := [(2, .int 24), (0, .ref (ad 0)), (1, .int a1)]) hx hb dX12_four_2 rfl hl (by decide) rfl (fun ls hl => ?_)
  refine lv_iload_n hx hb dX12_four_3 rfl (lv_at hl 0 rfl) ?_
  refine lv_if_lt (tgt := 36) hx hb dX12_four_4 (by decide) (fun k_1 => absurd k_1 (by decide)) (fun k_1 => ?_)
  refine lv_aload_n hx hb dX12_four_7 rfl (lv_at hl 1 rfl) ?_
  refine xget E hQ 0 (by decide) h0 rfl 5 (by decide) q1473 rfl dX12_four_8 ?_
  refine lv_aload_n hx hb dX12_four_11 rfl (lv_at hl 1 rfl) ?_
  refine xget E hQ 0 (by decide) h0 rfl 6 (by decide) q1474 rfl dX12_four_12 ?_
  refine lv_iload_n hx hb dX12_four_15 rfl (lv_at hl 2 rfl) ?_
  refine lv_iload_n hx hb dX12_four_16 rfl (lv_at hl 0 rfl) ?_
  refine lv_ishr hx hb dX12_four_17 ?_
  refine lv_i2b hx hb dX12_four_18 rfl ?_
  refine xbast E hs hQ 5 (by decide) h5 (vp_in_lit 8 1200 (by decide)) dX12_four_19 (fun H locs S2 e2 hQ => ?_)
  have u2 : S2 5 = .inl (g.2 1, 1200, .inl (upd f1 (8 : Int32).toNatClampNeg (vp_nar .byte ((a1 >>> (24 &&& 31)).toInt8.toInt32)))) := up_at e2 rfl
  refine lv_aload_n hx hb dX12_four_20 rfl (lv_at hl 1 rfl) ?_
  refine lv_dup hx hb dX12_four_21 rfl ?_
  have c_3 : S2 0 = .inr (12, [.int 0, .ref (ad 1), .ref (ad 2), .ref (ad 3), .ref (ad 4), .ref (ad 5), .int 8, .int 0, .int 0, .int 0, .int 0, .long 0, .int 0, .int 0, .int 0, .int (-1), .ref (ad 6), .ref (ad 7), .ref (ad 8), .ref (ad 9), .ref (ad 10), .ref (ad 11), .ref (ad 12), .ref (ad 13), .ref (ad 14), .ref (ad 15), .int 0, .int 0, .ref (ad 16), .int 0, .int 0, .int 0, .int 0, .int 0, .ref (ad 17), .ref (ad 18), .int 0, .ref (ad 19)]) := (up_ne e2 (by decide) h0)
  refine xget E hQ 0 (by decide) c_3 rfl 6 (by decide) q1474 rfl dX12_four_22 ?_
  refine lv_iconst (v := 1) hx hb dX12_four_25 (by decide) ?_
  refine lv_iadd hx hb dX12_four_26 ?_
  refine sb_at (P := fun z => W _ _ _ _ _ _ _ _ _ _ _ _ _ _ _ (F0 _ _ _ (.int z :: _))) (show (8 : Int32) + 1 = 9 by decide) ?_
  refine xputi E hs hQ 0 (by decide) c_3 rfl 6 (by decide) q1474 rfl rfl (Nat.le_of_ble_eq_true rfl) dX12_four_27 (fun H locs S4 e4 hQ => ?_)
  have u4 : S4 0 = .inr (12, [.int 0, .ref (ad 1), .ref (ad 2), .ref (ad 3), .ref (ad 4), .ref (ad 5), .int 9, .int 0, .int 0, .int 0, .int 0, .long 0, .int 0, .int 0, .int 0, .int (-1), .ref (ad 6), .ref (ad 7), .ref (ad 8), .ref (ad 9), .ref (ad 10), .ref (ad 11), .ref (ad 12), .ref (ad 13), .ref (ad 14), .ref (ad 15), .int 0, .int 0, .ref (ad 16), .int 0, .int 0, .int 0, .int 0, .int 0, .ref (ad 17), .ref (ad 18), .int 0, .ref (ad 19)]) := up_at e4 rfl
  refine lv_iinc (v := 16) (lv' := [(2, .int 16), (0, .ref (ad 0)), (1, .int a1)]) hx hb dX12_four_30 hl (k := 0) rfl (by decide) (by decide) rfl (fun ls hl => ?_)
  refine lv_goto (tgt := 3) hx hb dX12_four_33 (by decide) ?_
  refine lv_iload_n hx hb dX12_four_3 rfl (lv_at hl 0 rfl) ?_
  refine lv_if_lt (tgt := 36) hx hb dX12_four_4 (by decide) (fun k_5 => absurd k_5 (by decide)) (fun k_5 => ?_)
  refine lv_aload_n hx hb dX12_four_7 rfl (lv_at hl 1 rfl) ?_
  refine xget E hQ 0 (by decide) u4 rfl 5 (by decide) q1473 rfl dX12_four_8 ?_
  refine lv_aload_n hx hb dX12_four_11 rfl (lv_at hl 1 rfl) ?_
  refine xget E hQ 0 (by decide) u4 rfl 6 (by decide) q1474 rfl dX12_four_12 ?_
  refine lv_iload_n hx hb dX12_four_15 rfl (lv_at hl 2 rfl) ?_
  refine lv_iload_n hx hb dX12_four_16 rfl (lv_at hl 0 rfl) ?_
  refine lv_ishr hx hb dX12_four_17 ?_
  refine lv_i2b hx hb dX12_four_18 rfl ?_
  have c_6 : S4 5 = .inl (g.2 1, 1200, .inl (upd f1 (8 : Int32).toNatClampNeg (vp_nar .byte ((a1 >>> (24 &&& 31)).toInt8.toInt32)))) := (up_ne e4 (by decide) u2)
  refine xbast E hs hQ 5 (by decide) c_6 (vp_in_lit 9 1200 (by decide)) dX12_four_19 (fun H locs S7 e7 hQ => ?_)
  have u7 : S7 5 = .inl (g.2 1, 1200, .inl (upd (upd f1 (8 : Int32).toNatClampNeg (vp_nar .byte ((a1 >>> (24 &&& 31)).toInt8.toInt32))) (9 : Int32).toNatClampNeg (vp_nar .byte ((a1 >>> (16 &&& 31)).toInt8.toInt32)))) := up_at e7 rfl
  refine lv_aload_n hx hb dX12_four_20 rfl (lv_at hl 1 rfl) ?_
  refine lv_dup hx hb dX12_four_21 rfl ?_
  have c_8 : S7 0 = .inr (12, [.int 0, .ref (ad 1), .ref (ad 2), .ref (ad 3), .ref (ad 4), .ref (ad 5), .int 9, .int 0, .int 0, .int 0, .int 0, .long 0, .int 0, .int 0, .int 0, .int (-1), .ref (ad 6), .ref (ad 7), .ref (ad 8), .ref (ad 9), .ref (ad 10), .ref (ad 11), .ref (ad 12), .ref (ad 13), .ref (ad 14), .ref (ad 15), .int 0, .int 0, .ref (ad 16), .int 0, .int 0, .int 0, .int 0, .int 0, .ref (ad 17), .ref (ad 18), .int 0, .ref (ad 19)]) := (up_ne e7 (by decide) u4)
  refine xget E hQ 0 (by decide) c_8 rfl 6 (by decide) q1474 rfl dX12_four_22 ?_
  refine lv_iconst (v := 1) hx hb dX12_four_25 (by decide) ?_
  refine lv_iadd hx hb dX12_four_26 ?_
  refine sb_at (P := fun z => W _ _ _ _ _ _ _ _ _ _ _ _ _ _ _ (F0 _ _ _ (.int z :: _))) (show (9 : Int32) + 1 = 10 by decide) ?_
  refine xputi E hs hQ 0 (by decide) c_8 rfl 6 (by decide) q1474 rfl rfl (Nat.le_of_ble_eq_true rfl) dX12_four_27 (fun H locs S9 e9 hQ => ?_)
  have u9 : S9 0 = .inr (12, [.int 0, .ref (ad 1), .ref (ad 2), .ref (ad 3), .ref (ad 4), .ref (ad 5), .int 10, .int 0, .int 0, .int 0, .int 0, .long 0, .int 0, .int 0, .int 0, .int (-1), .ref (ad 6), .ref (ad 7), .ref (ad 8), .ref (ad 9), .ref (ad 10), .ref (ad 11), .ref (ad 12), .ref (ad 13), .ref (ad 14), .ref (ad 15), .int 0, .int 0, .ref (ad 16), .int 0, .int 0, .int 0, .int 0, .int 0, .ref (ad 17), .ref (ad 18), .int 0, .ref (ad 19)]) := up_at e9 rfl
  refine lv_iinc (v := 8) (lv' := [(2, .int 8), (0, .ref (ad 0)), (1, .int a1)]) hx hb dX12_four_30 hl (k := 0) rfl (by decide) (by decide) rfl (fun ls hl => ?_)
  refine lv_goto (tgt := 3) hx hb dX12_four_33 (by decide) ?_
  refine lv_iload_n hx hb dX12_four_3 rfl (lv_at hl 0 rfl) ?_
  refine lv_if_lt (tgt := 36) hx hb dX12_four_4 (by decide) (fun k_10 => absurd k_10 (by decide)) (fun k_10 => ?_)
  refine lv_aload_n hx hb dX12_four_7 rfl (lv_at hl 1 rfl) ?_
  refine xget E hQ 0 (by decide) u9 rfl 5 (by decide) q1473 rfl dX12_four_8 ?_
  refine lv_aload_n hx hb dX12_four_11 rfl (lv_at hl 1 rfl) ?_
  refine xget E hQ 0 (by decide) u9 rfl 6 (by decide) q1474 rfl dX12_four_12 ?_
  refine lv_iload_n hx hb dX12_four_15 rfl (lv_at hl 2 rfl) ?_
  refine lv_iload_n hx hb dX12_four_16 rfl (lv_at hl 0 rfl) ?_
  refine lv_ishr hx hb dX12_four_17 ?_
  refine lv_i2b hx hb dX12_four_18 rfl ?_
  have c_11 : S9 5 = .inl (g.2 1, 1200, .inl (upd (upd f1 (8 : Int32).toNatClampNeg (vp_nar .byte ((a1 >>> (24 &&& 31)).toInt8.toInt32))) (9 : Int32).toNatClampNeg (vp_nar .byte ((a1 >>> (16 &&& 31)).toInt8.toInt32)))) := (up_ne e9 (by decide) u7)
  refine xbast E hs hQ 5 (by decide) c_11 (vp_in_lit 10 1200 (by decide)) dX12_four_19 (fun H locs S12 e12 hQ => ?_)
  have u12 : S12 5 = .inl (g.2 1, 1200, .inl (upd (upd (upd f1 (8 : Int32).toNatClampNeg (vp_nar .byte ((a1 >>> (24 &&& 31)).toInt8.toInt32))) (9 : Int32).toNatClampNeg (vp_nar .byte ((a1 >>> (16 &&& 31)).toInt8.toInt32))) (10 : Int32).toNatClampNeg (vp_nar .byte ((a1 >>> (8 &&& 31)).toInt8.toInt32)))) := up_at e12 rfl
  refine lv_aload_n hx hb dX12_four_20 rfl (lv_at hl 1 rfl) ?_
  refine lv_dup hx hb dX12_four_21 rfl ?_
  have c_13 : S12 0 = .inr (12, [.int 0, .ref (ad 1), .ref (ad 2), .ref (ad 3), .ref (ad 4), .ref (ad 5), .int 10, .int 0, .int 0, .int 0, .int 0, .long 0, .int 0, .int 0, .int 0, .int (-1), .ref (ad 6), .ref (ad 7), .ref (ad 8), .ref (ad 9), .ref (ad 10), .ref (ad 11), .ref (ad 12), .ref (ad 13), .ref (ad 14), .ref (ad 15), .int 0, .int 0, .ref (ad 16), .int 0, .int 0, .int 0, .int 0, .int 0, .ref (ad 17), .ref (ad 18), .int 0, .ref (ad 19)]) := (up_ne e12 (by decide) u9)
  refine xget E hQ 0 (by decide) c_13 rfl 6 (by decide) q1474 rfl dX12_four_22 ?_
  refine lv_iconst (v := 1) hx hb dX12_four_25 (by decide) ?_
  refine lv_iadd hx hb dX12_four_26 ?_
  refine sb_at (P := fun z => W _ _ _ _ _ _ _ _ _ _ _ _ _ _ _ (F0 _ _ _ (.int z :: _))) (show (10 : Int32) + 1 = 11 by decide) ?_
  refine xputi E hs hQ 0 (by decide) c_13 rfl 6 (by decide) q1474 rfl rfl (Nat.le_of_ble_eq_true rfl) dX12_four_27 (fun H locs S14 e14 hQ => ?_)
  have u14 : S14 0 = .inr (12, [.int 0, .ref (ad 1), .ref (ad 2), .ref (ad 3), .ref (ad 4), .ref (ad 5), .int 11, .int 0, .int 0, .int 0, .int 0, .long 0, .int 0, .int 0, .int 0, .int (-1), .ref (ad 6), .ref (ad 7), .ref (ad 8), .ref (ad 9), .ref (ad 10), .ref (ad 11), .ref (ad 12), .ref (ad 13), .ref (ad 14), .ref (ad 15), .int 0, .int 0, .ref (ad 16), .int 0, .int 0, .int 0, .int 0, .int 0, .ref (ad 17), .ref (ad 18), .int 0, .ref (ad 19)]) := up_at e14 rfl
  refine lv_iinc (v := 0) (lv' := [(2, .int 0), (0, .ref (ad 0)), (1, .int a1)]) hx hb dX12_four_30 hl (k := 0) rfl (by decide) (by decide) rfl (fun ls hl => ?_)
  refine lv_goto (tgt := 3) hx hb dX12_four_33 (by decide) ?_
  refine lv_iload_n hx hb dX12_four_3 rfl (lv_at hl 0 rfl) ?_
  refine lv_if_lt (tgt := 36) hx hb dX12_four_4 (by decide) (fun k_15 => absurd k_15 (by decide)) (fun k_15 => ?_)
  refine lv_aload_n hx hb dX12_four_7 rfl (lv_at hl 1 rfl) ?_
  refine xget E hQ 0 (by decide) u14 rfl 5 (by decide) q1473 rfl dX12_four_8 ?_
  refine lv_aload_n hx hb dX12_four_11 rfl (lv_at hl 1 rfl) ?_
  refine xget E hQ 0 (by decide) u14 rfl 6 (by decide) q1474 rfl dX12_four_12 ?_
  refine lv_iload_n hx hb dX12_four_15 rfl (lv_at hl 2 rfl) ?_
  refine lv_iload_n hx hb dX12_four_16 rfl (lv_at hl 0 rfl) ?_
  refine lv_ishr hx hb dX12_four_17 ?_
  refine lv_i2b hx hb dX12_four_18 rfl ?_
  have c_16 : S14 5 = .inl (g.2 1, 1200, .inl (upd (upd (upd f1 (8 : Int32).toNatClampNeg (vp_nar .byte ((a1 >>> (24 &&& 31)).toInt8.toInt32))) (9 : Int32).toNatClampNeg (vp_nar .byte ((a1 >>> (16 &&& 31)).toInt8.toInt32))) (10 : Int32).toNatClampNeg (vp_nar .byte ((a1 >>> (8 &&& 31)).toInt8.toInt32)))) := (up_ne e14 (by decide) u12)
  refine xbast E hs hQ 5 (by decide) c_16 (vp_in_lit 11 1200 (by decide)) dX12_four_19 (fun H locs S17 e17 hQ => ?_)
  have u17 : S17 5 = .inl (g.2 1, 1200, .inl (upd (upd (upd (upd f1 (8 : Int32).toNatClampNeg (vp_nar .byte ((a1 >>> (24 &&& 31)).toInt8.toInt32))) (9 : Int32).toNatClampNeg (vp_nar .byte ((a1 >>> (16 &&& 31)).toInt8.toInt32))) (10 : Int32).toNatClampNeg (vp_nar .byte ((a1 >>> (8 &&& 31)).toInt8.toInt32))) (11 : Int32).toNatClampNeg (vp_nar .byte ((a1 >>> (0 &&& 31)).toInt8.toInt32)))) := up_at e17 rfl
  refine lv_aload_n hx hb dX12_four_20 rfl (lv_at hl 1 rfl) ?_
  refine lv_dup hx hb dX12_four_21 rfl ?_
  have c_18 : S17 0 = .inr (12, [.int 0, .ref (ad 1), .ref (ad 2), .ref (ad 3), .ref (ad 4), .ref (ad 5), .int 11, .int 0, .int 0, .int 0, .int 0, .long 0, .int 0, .int 0, .int 0, .int (-1), .ref (ad 6), .ref (ad 7), .ref (ad 8), .ref (ad 9), .ref (ad 10), .ref (ad 11), .ref (ad 12), .ref (ad 13), .ref (ad 14), .ref (ad 15), .int 0, .int 0, .ref (ad 16), .int 0, .int 0, .int 0, .int 0, .int 0, .ref (ad 17), .ref (ad 18), .int 0, .ref (ad 19)]) := (up_ne e17 (by decide) u14)
  refine xget E hQ 0 (by decide) c_18 rfl 6 (by decide) q1474 rfl dX12_four_22 ?_
  refine lv_iconst (v := 1) hx hb dX12_four_25 (by decide) ?_
  refine lv_iadd hx hb dX12_four_26 ?_
  refine sb_at (P := fun z => W _ _ _ _ _ _ _ _ _ _ _ _ _ _ _ (F0 _ _ _ (.int z :: _))) (show (11 : Int32) + 1 = 12 by decide) ?_
  refine xputi E hs hQ 0 (by decide) c_18 rfl 6 (by decide) q1474 rfl rfl (Nat.le_of_ble_eq_true rfl) dX12_four_27 (fun H locs S19 e19 hQ => ?_)
  have u19 : S19 0 = .inr (12, [.int 0, .ref (ad 1), .ref (ad 2), .ref (ad 3), .ref (ad 4), .ref (ad 5), .int 12, .int 0, .int 0, .int 0, .int 0, .long 0, .int 0, .int 0, .int 0, .int (-1), .ref (ad 6), .ref (ad 7), .ref (ad 8), .ref (ad 9), .ref (ad 10), .ref (ad 11), .ref (ad 12), .ref (ad 13), .ref (ad 14), .ref (ad 15), .int 0, .int 0, .ref (ad 16), .int 0, .int 0, .int 0, .int 0, .int 0, .ref (ad 17), .ref (ad 18), .int 0, .ref (ad 19)]) := up_at e19 rfl
  refine lv_iinc (v := (-8)) (lv' := [(2, .int (-8)), (0, .ref (ad 0)), (1, .int a1)]) hx hb dX12_four_30 hl (k := 0) rfl (by decide) (by decide) rfl (fun ls hl => ?_)
  refine lv_goto (tgt := 3) hx hb dX12_four_33 (by decide) ?_
  refine lv_iload_n hx hb dX12_four_3 rfl (lv_at hl 0 rfl) ?_
  refine lv_if_lt (tgt := 36) hx hb dX12_four_4 (by decide) (fun k_20 => ?_) (fun k_20 => absurd k_20 (by decide))
  have c_21 : S19 5 = .inl (g.2 1, 1200, .inl (upd (upd (upd (upd f1 (8 : Int32).toNatClampNeg (vp_nar .byte ((a1 >>> (24 &&& 31)).toInt8.toInt32))) (9 : Int32).toNatClampNeg (vp_nar .byte ((a1 >>> (16 &&& 31)).toInt8.toInt32))) (10 : Int32).toNatClampNeg (vp_nar .byte ((a1 >>> (8 &&& 31)).toInt8.toInt32))) (11 : Int32).toNatClampNeg (vp_nar .byte ((a1 >>> (0 &&& 31)).toInt8.toInt32)))) := (up_ne e19 (by decide) u17)
  exact xrv E hr hlk hQ (⟨fun j hj => (up_ne e19 (fun h => hj (by subst h; decide)) (up_ne e17 (fun h => hj (by subst h; decide)) (up_ne e14 (fun h => hj (by subst h; decide)) (up_ne e12 (fun h => hj (by subst h; decide)) (up_ne e9 (fun h => hj (by subst h; decide)) (up_ne e7 (fun h => hj (by subst h; decide)) (up_ne e4 (fun h => hj (by subst h; decide)) (up_ne e2 (fun h => hj (by subst h; decide)) rfl)))))))), ⟨_, c_21⟩, u19⟩) dX12_four_36
set_option maxHeartbeats 4000000 in
set_option maxRecDepth 100000 in
theorem four_12 (l : Launch) (g : GG) (ad : Nat → Nat) (hD : Dj ad 20) (S : SS) (a1 : Int32) (f1 : Nat → Int32) (h0 : S 0 = .inr (12, [.int 0, .ref (ad 1), .ref (ad 2), .ref (ad 3), .ref (ad 4), .ref (ad 5), .int 12, .int 0, .int 0, .int 0, .int 0, .long 0, .int 0, .int 0, .int 0, .int (-1), .ref (ad 6), .ref (ad 7), .ref (ad 8), .ref (ad 9), .ref (ad 10), .ref (ad 11), .ref (ad 12), .ref (ad 13), .ref (ad 14), .ref (ad 15), .int 0, .int 0, .ref (ad 16), .int 0, .int 0, .int 0, .int 0, .int 0, .ref (ad 17), .ref (ad 18), .int 0, .ref (ad 19)])) (h5 : S 5 = .inl (g.2 1, 1200, .inl f1)) : Met l yX12_four (wG (.code yX12_four cX12_four 3 none)) (Rm 0) (XPre g ad 20 S [.ref (ad 0), .int a1]) (va_Qv (fun S' => (∀ j, j ∉ ([5, 0] : List Nat) → S' j = S j) ∧ (∃ f : Nat → Int32, S' 5 = .inl (g.2 1, 1200, .inl f)) ∧ S' 0 = .inr (12, [.int 0, .ref (ad 1), .ref (ad 2), .ref (ad 3), .ref (ad 4), .ref (ad 5), .int 16, .int 0, .int 0, .int 0, .int 0, .long 0, .int 0, .int 0, .int 0, .int (-1), .ref (ad 6), .ref (ad 7), .ref (ad 8), .ref (ad 9), .ref (ad 10), .ref (ad 11), .ref (ad 12), .ref (ad 13), .ref (ad 14), .ref (ad 15), .int 0, .int 0, .ref (ad 16), .int 0, .int 0, .int 0, .int 0, .int 0, .ref (ad 17), .ref (ad 18), .int 0, .ref (ad 19)])) (QB g ad 20) (FA ad 20)) 0 0 (FA ad 20) := by
  refine xmet cX12_four "EbbWreckModel" (by decide) rfl (Nat.le_of_ble_eq_true rfl) (fun p e s m below meth c E hr hlk hml hQ ls hl => ?_)
  have hx := E.1
  have hb := E.2.1
  have hs : Sp ad 20 (FA ad 20) := Sp.fa hD
  have hl : lv_has ls 3 [(0, .ref (ad 0)), (1, .int a1)] := hl
  refine lv_bipush (v := 24) hx hb dX12_four_0 (by decide) ?_
  refine lv_istore_n (lv' := [(2, .int 24), (0, .ref (ad 0)), (1, .int a1)]) hx hb dX12_four_2 rfl hl (by decide) rfl (fun ls hl => ?_)
  refine lv_iload_n hx hb dX12_four_3 rfl (lv_at hl 0 rfl) ?_
  refine lv_if_lt (tgt := 36) hx hb dX12_four_4 (by decide) (fun k_1 => absurd k_1 (by decide)) (fun k_1 => ?_)
  refine lv_aload_n hx hb dX12_four_7 rfl (lv_at hl 1 rfl) ?_
  refine xget E hQ 0 (by decide) h0 rfl 5 (by decide) q1473 rfl dX12_four_8 ?_
  refine lv_aload_n hx hb dX12_four_11 rfl (lv_at hl 1 rfl) ?_
  refine xget E hQ 0 (by decide) h0 rfl 6 (by decide) q1474 rfl dX12_four_12 ?_
  refine lv_iload_n hx hb dX12_four_15 rfl (lv_at hl 2 rfl) ?_
  refine lv_iload_n hx hb dX12_four_16 rfl (lv_at hl 0 rfl) ?_
  refine lv_ishr hx hb dX12_four_17 ?_
  refine lv_i2b hx hb dX12_four_18 rfl ?_
  refine xbast E hs hQ 5 (by decide) h5 (vp_in_lit 12 1200 (by decide)) dX12_four_19 (fun H locs S2 e2 hQ => ?_)
  have u2 : S2 5 = .inl (g.2 1, 1200, .inl (upd f1 (12 : Int32).toNatClampNeg (vp_nar .byte ((a1 >>> (24 &&& 31)).toInt8.toInt32)))) := up_at e2 rfl
  refine lv_aload_n hx hb dX12_four_20 rfl (lv_at hl 1 rfl) ?_
  refine lv_dup hx hb dX12_four_21 rfl ?_
  have c_3 : S2 0 = .inr (12, [.int 0, .ref (ad 1), .ref (ad 2), .ref (ad 3), .ref (ad 4), .ref (ad 5), .int 12, .int 0, .int 0, .int 0, .int 0, .long 0, .int 0, .int 0, .int 0, .int (-1), .ref (ad 6), .ref (ad 7), .ref (ad 8), .ref (ad 9), .ref (ad 10), .ref (ad 11), .ref (ad 12), .ref (ad 13), .ref (ad 14), .ref (ad 15), .int 0, .int 0, .ref (ad 16), .int 0, .int 0, .int 0, .int 0, .int 0, .ref (ad 17), .ref (ad 18), .int 0, .ref (ad 19)]) := (up_ne e2 (by decide) h0)
  refine xget E hQ 0 (by decide) c_3 rfl 6 (by decide) q1474 rfl dX12_four_22 ?_
  refine lv_iconst (v := 1) hx hb dX12_four_25 (by decide) ?_
  refine lv_iadd hx hb dX12_four_26 ?_
  refine sb_at (P := fun z => W _ _ _ _ _ _ _ _ _ _ _ _ _ _ _ (F0 _ _ _ (.int z :: _))) (show (12 : Int32) + 1 = 13 by decide) ?_
  refine xputi E hs hQ 0 (by decide) c_3 rfl 6 (by decide) q1474 rfl rfl (Nat.le_of_ble_eq_true rfl) dX12_four_27 (fun H locs S4 e4 hQ => ?_)
  have u4 : S4 0 = .inr (12, [.int 0, .ref (ad 1), .ref (ad 2), .ref (ad 3), .ref (ad 4), .ref (ad 5), .int 13, .int 0, .int 0, .int 0, .int 0, .long 0, .int 0, .int 0, .int 0, .int (-1), .ref (ad 6), .ref (ad 7), .ref (ad 8), .ref (ad 9), .ref (ad 10), .ref (ad 11), .ref (ad 12), .ref (ad 13), .ref (ad 14), .ref (ad 15), .int 0, .int 0, .ref (ad 16), .int 0, .int 0, .int 0, .int 0, .int 0, .ref (ad 17), .ref (ad 18), .int 0, .ref (ad 19)]) := up_at e4 rfl
  refine lv_iinc (v := 16) (lv' := [(2, .int 16), (0, .ref (ad 0)), (1, .int a1)]) hx hb dX12_four_30 hl (k := 0) rfl (by decide) (by decide) rfl (fun ls hl => ?_)
  refine lv_goto (tgt := 3) hx hb dX12_four_33 (by decide) ?_
  refine lv_iload_n hx hb dX12_four_3 rfl (lv_at hl 0 rfl) ?_
  refine lv_if_lt (tgt := 36) hx hb dX12_four_4 (by decide) (fun k_5 => absurd k_5 (by decide)) (fun k_5 => ?_)
  refine lv_aload_n hx hb dX12_four_7 rfl (lv_at hl 1 rfl) ?_
  refine xget E hQ 0 (by decide) u4 rfl 5 (by decide) q1473 rfl dX12_four_8 ?_
  refine lv_aload_n hx hb dX12_four_11 rfl (lv_at hl 1 rfl) ?_
  refine xget E hQ 0 (by decide) u4 rfl 6 (by decide) q1474 rfl dX12_four_12 ?_
  refine lv_iload_n hx hb dX12_four_15 rfl (lv_at hl 2 rfl) ?_
  refine lv_iload_n hx hb dX12_four_16 rfl (lv_at hl 0 rfl) ?_
  refine lv_ishr hx hb dX12_four_17 ?_
  refine lv_i2b hx hb dX12_four_18 rfl ?_
  have c_6 : S4 5 = .inl (g.2 1, 1200, .inl (upd f1 (12 : Int32).toNatClampNeg (vp_nar .byte ((a1 >>> (24 &&& 31)).toInt8.toInt32)))) := (up_ne e4 (by decide) u2)
  refine xbast E hs hQ 5 (by decide) c_6 (vp_in_lit 13 1200 (by decide)) dX12_four_19 (fun H locs S7 e7 hQ => ?_)
  have u7 : S7 5 = .inl (g.2 1, 1200, .inl (upd (upd f1 (12 : Int32).toNatClampNeg (vp_nar .byte ((a1 >>> (24 &&& 31)).toInt8.toInt32))) (13 : Int32).toNatClampNeg (vp_nar .byte ((a1 >>> (16 &&& 31)).toInt8.toInt32)))) := up_at e7 rfl
  refine lv_aload_n hx hb dX12_four_20 rfl (lv_at hl 1 rfl) ?_
  refine lv_dup hx hb dX12_four_21 rfl ?_
  have c_8 : S7 0 = .inr (12, [.int 0, .ref (ad 1), .ref (ad 2), .ref (ad 3), .ref (ad 4), .ref (ad 5), .int 13, .int 0, .int 0, .int 0, .int 0, .long 0, .int 0, .int 0, .int 0, .int (-1), .ref (ad 6), .ref (ad 7), .ref (ad 8), .ref (ad 9), .ref (ad 10), .ref (ad 11), .ref (ad 12), .ref (ad 13), .ref (ad 14), .ref (ad 15), .int 0, .int 0, .ref (ad 16), .int 0, .int 0, .int 0, .int 0, .int 0, .ref (ad 17), .ref (ad 18), .int 0, .ref (ad 19)]) := (up_ne e7 (by decide) u4)
  refine xget E hQ 0 (by decide) c_8 rfl 6 (by decide) q1474 rfl dX12_four_22 ?_
  refine lv_iconst (v := 1) hx hb dX12_four_25 (by decide) ?_
  refine lv_iadd hx hb dX12_four_26 ?_
  refine sb_at (P := fun z => W _ _ _ _ _ _ _ _ _ _ _ _ _ _ _ (F0 _ _ _ (.int z :: _))) (show (13 : Int32) + 1 = 14 by decide) ?_
  refine xputi E hs hQ 0 (by decide) c_8 rfl 6 (by decide) q1474 rfl rfl (Nat.le_of_ble_eq_true rfl) dX12_four_27 (fun H locs S9 e9 hQ => ?_)
  have u9 : S9 0 = .inr (12, [.int 0, .ref (ad 1), .ref (ad 2), .ref (ad 3), .ref (ad 4), .ref (ad 5), .int 14, .int 0, .int 0, .int 0, .int 0, .long 0, .int 0, .int 0, .int 0, .int (-1), .ref (ad 6), .ref (ad 7), .ref (ad 8), .ref (ad 9), .ref (ad 10), .ref (ad 11), .ref (ad 12), .ref (ad 13), .ref (ad 14), .ref (ad 15), .int 0, .int 0, .ref (ad 16), .int 0, .int 0, .int 0, .int 0, .int 0, .ref (ad 17), .ref (ad 18), .int 0, .ref (ad 19)]) := up_at e9 rfl
  refine lv_iinc (v := 8) (lv' := [(2, .int 8), (0, .ref (ad 0)), (1, .int a1)]) hx hb dX12_four_30 hl (k := 0) rfl (by decide) (by decide) rfl (fun ls hl => ?_)
  refine lv_goto (tgt := 3) hx hb dX12_four_33 (by decide) ?_
  refine lv_iload_n hx hb dX12_four_3 rfl (lv_at hl 0 rfl) ?_
  refine lv_if_lt (tgt := 36) hx hb dX12_four_4 (by decide) (fun k_10 => absurd k_10 (by decide)) (fun k_10 => ?_)
  refine lv_aload_n hx hb dX12_four_7 rfl (lv_at hl 1 rfl) ?_
  refine xget E hQ 0 (by decide) u9 rfl 5 (by decide) q1473 rfl dX12_four_8 ?_
  refine lv_aload_n hx hb dX12_four_11 rfl (lv_at hl 1 rfl) ?_
  refine xget E hQ 0 (by decide) u9 rfl 6 (by decide) q1474 rfl dX12_four_12 ?_
  refine lv_iload_n hx hb dX12_four_15 rfl (lv_at hl 2 rfl) ?_
  refine lv_iload_n hx hb dX12_four_16 rfl (lv_at hl 0 rfl) ?_
  refine lv_ishr hx hb dX12_four_17 ?_
  refine lv_i2b hx hb dX12_four_18 rfl ?_
  have c_11 : S9 5 = .inl (g.2 1, 1200, .inl (upd (upd f1 (12 : Int32).toNatClampNeg (vp_nar .byte ((a1 >>> (24 &&& 31)).toInt8.toInt32))) (13 : Int32).toNatClampNeg (vp_nar .byte ((a1 >>> (16 &&& 31)).toInt8.toInt32)))) := (up_ne e9 (by decide) u7)
  refine xbast E hs hQ 5 (by decide) c_11 (vp_in_lit 14 1200 (by decide)) dX12_four_19 (fun H locs S12 e12 hQ => ?_)
  have u12 : S12 5 = .inl (g.2 1, 1200, .inl (upd (upd (upd f1 (12 : Int32).toNatClampNeg (vp_nar .byte ((a1 >>> (24 &&& 31)).toInt8.toInt32))) (13 : Int32).toNatClampNeg (vp_nar .byte ((a1 >>> (16 &&& 31)).toInt8.toInt32))) (14 : Int32).toNatClampNeg (vp_nar .byte ((a1 >>> (8 &&& 31)).toInt8.toInt32)))) := up_at e12 rfl
  refine lv_aload_n hx hb dX12_four_20 rfl (lv_at hl 1 rfl) ?_
  refine lv_dup hx hb dX12_four_21 rfl ?_
  have c_13 : S12 0 = .inr (12, [.int 0, .ref (ad 1), .ref (ad 2), .ref (ad 3), .ref (ad 4), .ref (ad 5), .int 14, .int 0, .int 0, .int 0, .int 0, .long 0, .int 0, .int 0, .int 0, .int (-1), .ref (ad 6), .ref (ad 7), .ref (ad 8), .ref (ad 9), .ref (ad 10), .ref (ad 11), .ref (ad 12), .ref (ad 13), .ref (ad 14), .ref (ad 15), .int 0, .int 0, .ref (ad 16), .int 0, .int 0, .int 0, .int 0, .int 0, .ref (ad 17), .ref (ad 18), .int 0, .ref (ad 19)]) := (up_ne e12 (by decide) u9)
  refine xget E hQ 0 (by decide) c_13 rfl 6 (by decide) q1474 rfl dX12_four_22 ?_
  refine lv_iconst (v := 1) hx hb dX12_four_25 (by decide) ?_
  refine lv_iadd hx hb dX12_four_26 ?_
  refine sb_at (P := fun z => W _ _ _ _ _ _ _ _ _ _ _ _ _ _ _ (F0 _ _ _ (.int z :: _))) (show (14 : Int32) + 1 = 15 by decide) ?_
  refine xputi E hs hQ 0 (by decide) c_13 rfl 6 (by decide) q1474 rfl rfl (Nat.le_of_ble_eq_true rfl) dX12_four_27 (fun H locs S14 e14 hQ => ?_)
  have u14 : S14 0 = .inr (12, [.int 0, .ref (ad 1), .ref (ad 2), .ref (ad 3), .ref (ad 4), .ref (ad 5), .int 15, .int 0, .int 0, .int 0, .int 0, .long 0, .int 0, .int 0, .int 0, .int (-1), .ref (ad 6), .ref (ad 7), .ref (ad 8), .ref (ad 9), .ref (ad 10), .ref (ad 11), .ref (ad 12), .ref (ad 13), .ref (ad 14), .ref (ad 15), .int 0, .int 0, .ref (ad 16), .int 0, .int 0, .int 0, .int 0, .int 0, .ref (ad 17), .ref (ad 18), .int 0, .ref (ad 19)]) := up_at e14 rfl
  refine lv_iinc (v := 0) (lv' := [(2, .int 0), (0, .ref (ad 0)), (1, .int a1)]) hx hb dX12_four_30 hl (k := 0) rfl (by decide) (by decide) rfl (fun ls hl => ?_)
  refine lv_goto (tgt := 3) hx hb dX12_four_33 (by decide) ?_
  refine lv_iload_n hx hb dX12_four_3 rfl (lv_at hl 0 rfl) ?_
  refine lv_if_lt (tgt := 36) hx hb dX12_four_4 (by decide) (fun k_15 => absurd k_15 (by decide)) (fun k_15 => ?_)
  refine lv_aload_n hx hb dX12_four_7 rfl (lv_at hl 1 rfl) ?_
  refine xget E hQ 0 (by decide) u14 rfl 5 (by decide) q1473 rfl dX12_four_8 ?_
  refine lv_aload_n hx hb dX12_four_11 rfl (lv_at hl 1 rfl) ?_
  refine xget E hQ 0 (by decide) u14 rfl 6 (by decide) q1474 rfl dX12_four_12 ?_
  refine lv_iload_n hx hb dX12_four_15 rfl (lv_at hl 2 rfl) ?_
  refine lv_iload_n hx hb dX12_four_16 rfl (lv_at hl 0 rfl) ?_
  refine lv_ishr hx hb dX12_four_17 ?_
  refine lv_i2b hx hb dX12_four_18 rfl ?_
  have c_16 : S14 5 = .inl (g.2 1, 1200, .inl (upd (upd (upd f1 (12 : Int32).toNatClampNeg (vp_nar .byte ((a1 >>> (24 &&& 31)).toInt8.toInt32))) (13 : Int32).toNatClampNeg (vp_nar .byte ((a1 >>> (16 &&& 31)).toInt8.toInt32))) (14 : Int32).toNatClampNeg (vp_nar .byte ((a1 >>> (8 &&& 31)).toInt8.toInt32)))) := (up_ne e14 (by decide) u12)
  refine xbast E hs hQ 5 (by decide) c_16 (vp_in_lit 15 1200 (by decide)) dX12_four_19 (fun H locs S17 e17 hQ => ?_)
  have u17 : S17 5 = .inl (g.2 1, 1200, .inl (upd (upd (upd (upd f1 (12 : Int32).toNatClampNeg (vp_nar .byte ((a1 >>> (24 &&& 31)).toInt8.toInt32))) (13 : Int32).toNatClampNeg (vp_nar .byte ((a1 >>> (16 &&& 31)).toInt8.toInt32))) (14 : Int32).toNatClampNeg (vp_nar .byte ((a1 >>> (8 &&& 31)).toInt8.toInt32))) (15 : Int32).toNatClampNeg (vp_nar .byte ((a1 >>> (0 &&& 31)).toInt8.toInt32)))) := up_at e17 rfl
  refine lv_aload_n hx hb dX12_four_20 rfl (lv_at hl 1 rfl) ?_
  refine lv_dup hx hb dX12_four_21 rfl ?_
  have c_18 : S17 0 = .inr (12, [.int 0, .ref (ad 1), .ref (ad 2), .ref (ad 3), .ref (ad 4), .ref (ad 5), .int 15, .int 0, .int 0, .int 0, .int 0, .long 0, .int 0, .int 0, .int 0, .int (-1), .ref (ad 6), .ref (ad 7), .ref (ad 8), .ref (ad 9), .ref (ad 10), .ref (ad 11), .ref (ad 12), .ref (ad 13), .ref (ad 14), .ref (ad 15), .int 0, .int 0, .ref (ad 16), .int 0, .int 0, .int 0, .int 0, .int 0, .ref (ad 17), .ref (ad 18), .int 0, .ref (ad 19)]) := (up_ne e17 (by decide) u14)
  refine xget E hQ 0 (by decide) c_18 rfl 6 (by decide) q1474 rfl dX12_four_22 ?_
  refine lv_iconst (v := 1) hx hb dX12_four_25 (by decide) ?_
  refine lv_iadd hx hb dX12_four_26 ?_
  refine sb_at (P := fun z => W _ _ _ _ _ _ _ _ _ _ _ _ _ _ _ (F0 _ _ _ (.int z :: _))) (show (15 : Int32) + 1 = 16 by decide) ?_
  refine xputi E hs hQ 0 (by decide) c_18 rfl 6 (by decide) q1474 rfl rfl (Nat.le_of_ble_eq_true rfl) dX12_four_27 (fun H locs S19 e19 hQ => ?_)
  have u19 : S19 0 = .inr (12, [.int 0, .ref (ad 1), .ref (ad 2), .ref (ad 3), .ref (ad 4), .ref (ad 5), .int 16, .int 0, .int 0, .int 0, .int 0, .long 0, .int 0, .int 0, .int 0, .int (-1), .ref (ad 6), .ref (ad 7), .ref (ad 8), .ref (ad 9), .ref (ad 10), .ref (ad 11), .ref (ad 12), .ref (ad 13), .ref (ad 14), .ref (ad 15), .int 0, .int 0, .ref (ad 16), .int 0, .int 0, .int 0, .int 0, .int 0, .ref (ad 17), .ref (ad 18), .int 0, .ref (ad 19)]) := up_at e19 rfl
  refine lv_iinc (v := (-8)) (lv' := [(2, .int (-8)), (0, .ref (ad 0)), (1, .int a1)]) hx hb dX12_four_30 hl (k := 0) rfl (by decide) (by decide) rfl (fun ls hl => ?_)
  refine lv_goto (tgt := 3) hx hb dX12_four_33 (by decide) ?_
  refine lv_iload_n hx hb dX12_four_3 rfl (lv_at hl 0 rfl) ?_
  refine lv_if_lt (tgt := 36) hx hb dX12_four_4 (by decide) (fun k_20 => ?_) (fun k_20 => absurd k_20 (by decide))
  have c_21 : S19 5 = .inl (g.2 1, 1200, .inl (upd (upd (upd (upd f1 (12 : Int32).toNatClampNeg (vp_nar .byte ((a1 >>> (24 &&& 31)).toInt8.toInt32))) (13 : Int32).toNatClampNeg (vp_nar .byte ((a1 >>> (16 &&& 31)).toInt8.toInt32))) (14 : Int32).toNatClampNeg (vp_nar .byte ((a1 >>> (8 &&& 31)).toInt8.toInt32))) (15 : Int32).toNatClampNeg (vp_nar .byte ((a1 >>> (0 &&& 31)).toInt8.toInt32)))) := (up_ne e19 (by decide) u17)
  exact xrv E hr hlk hQ (⟨fun j hj => (up_ne e19 (fun h => hj (by subst h; decide)) (up_ne e17 (fun h => hj (by subst h; decide)) (up_ne e14 (fun h => hj (by subst h; decide)) (up_ne e12 (fun h => hj (by subst h; decide)) (up_ne e9 (fun h => hj (by subst h; decide)) (up_ne e7 (fun h => hj (by subst h; decide)) (up_ne e4 (fun h => hj (by subst h; decide)) (up_ne e2 (fun h => hj (by subst h; decide)) rfl)))))))), ⟨_, c_21⟩, u19⟩) dX12_four_36
set_option maxHeartbeats 4000000 in
set_option maxRecDepth 100000 in
theorem four_16 (l : Launch) (g : GG) (ad : Nat → Nat) (hD : Dj ad 20) (S : SS) (a1 : Int32) (f1 : Nat → Int32) (h0 : S 0 = .inr (12, [.int 0, .ref (ad 1), .ref (ad 2), .ref (ad 3), .ref (ad 4), .ref (ad 5), .int 16, .int 0, .int 0, .int 0, .int 0, .long 0, .int 0, .int 0, .int 0, .int (-1), .ref (ad 6), .ref (ad 7), .ref (ad 8), .ref (ad 9), .ref (ad 10), .ref (ad 11), .ref (ad 12), .ref (ad 13), .ref (ad 14), .ref (ad 15), .int 0, .int 0, .ref (ad 16), .int 0, .int 0, .int 0, .int 0, .int 0, .ref (ad 17), .ref (ad 18), .int 0, .ref (ad 19)])) (h5 : S 5 = .inl (g.2 1, 1200, .inl f1)) : Met l yX12_four (wG (.code yX12_four cX12_four 3 none)) (Rm 0) (XPre g ad 20 S [.ref (ad 0), .int a1]) (va_Qv (fun S' => (∀ j, j ∉ ([5, 0] : List Nat) → S' j = S j) ∧ (∃ f : Nat → Int32, S' 5 = .inl (g.2 1, 1200, .inl f)) ∧ S' 0 = .inr (12, [.int 0, .ref (ad 1), .ref (ad 2), .ref (ad 3), .ref (ad 4), .ref (ad 5), .int 20, .int 0, .int 0, .int 0, .int 0, .long 0, .int 0, .int 0, .int 0, .int (-1), .ref (ad 6), .ref (ad 7), .ref (ad 8), .ref (ad 9), .ref (ad 10), .ref (ad 11), .ref (ad 12), .ref (ad 13), .ref (ad 14), .ref (ad 15), .int 0, .int 0, .ref (ad 16), .int 0, .int 0, .int 0, .int 0, .int 0, .ref (ad 17), .ref (ad 18), .int 0, .ref (ad 19)])) (QB g ad 20) (FA ad 20)) 0 0 (FA ad 20) := by
  refine xmet cX12_four "EbbWreckModel" (by decide) rfl (Nat.le_of_ble_eq_true rfl) (fun p e s m below meth c E hr hlk hml hQ ls hl => ?_)
  have hx := E.1
  have hb := E.2.1
  have hs : Sp ad 20 (FA ad 20) := Sp.fa hD
  have hl : lv_has ls 3 [(0, .ref (ad 0)), (1, .int a1)] := hl
  refine lv_bipush (v := 24) hx hb dX12_four_0 (by decide) ?_
  refine lv_istore_n (lv' := [(2, .int 24), (0, .ref (ad 0)), (1, .int a1)]) hx hb dX12_four_2 rfl hl (by decide) rfl (fun ls hl => ?_)
  refine lv_iload_n hx hb dX12_four_3 rfl (lv_at hl 0 rfl) ?_
  refine lv_if_lt (tgt := 36) hx hb dX12_four_4 (by decide) (fun k_1 => absurd k_1 (by decide)) (fun k_1 => ?_)
  refine lv_aload_n hx hb dX12_four_7 rfl (lv_at hl 1 rfl) ?_
  refine xget E hQ 0 (by decide) h0 rfl 5 (by decide) q1473 rfl dX12_four_8 ?_
  refine lv_aload_n hx hb dX12_four_11 rfl (lv_at hl 1 rfl) ?_
  refine xget E hQ 0 (by decide) h0 rfl 6 (by decide) q1474 rfl dX12_four_12 ?_
  refine lv_iload_n hx hb dX12_four_15 rfl (lv_at hl 2 rfl) ?_
  refine lv_iload_n hx hb dX12_four_16 rfl (lv_at hl 0 rfl) ?_
  refine lv_ishr hx hb dX12_four_17 ?_
  refine lv_i2b hx hb dX12_four_18 rfl ?_
  refine xbast E hs hQ 5 (by decide) h5 (vp_in_lit 16 1200 (by decide)) dX12_four_19 (fun H locs S2 e2 hQ => ?_)
  have u2 : S2 5 = .inl (g.2 1, 1200, .inl (upd f1 (16 : Int32).toNatClampNeg (vp_nar .byte ((a1 >>> (24 &&& 31)).toInt8.toInt32)))) := up_at e2 rfl
  refine lv_aload_n hx hb dX12_four_20 rfl (lv_at hl 1 rfl) ?_
  refine lv_dup hx hb dX12_four_21 rfl ?_
  have c_3 : S2 0 = .inr (12, [.int 0, .ref (ad 1), .ref (ad 2), .ref (ad 3), .ref (ad 4), .ref (ad 5), .int 16, .int 0, .int 0, .int 0, .int 0, .long 0, .int 0, .int 0, .int 0, .int (-1), .ref (ad 6), .ref (ad 7), .ref (ad 8), .ref (ad 9), .ref (ad 10), .ref (ad 11), .ref (ad 12), .ref (ad 13), .ref (ad 14), .ref (ad 15), .int 0, .int 0, .ref (ad 16), .int 0, .int 0, .int 0, .int 0, .int 0, .ref (ad 17), .ref (ad 18), .int 0, .ref (ad 19)]) := (up_ne e2 (by decide) h0)
  refine xget E hQ 0 (by decide) c_3 rfl 6 (by decide) q1474 rfl dX12_four_22 ?_
  refine lv_iconst (v := 1) hx hb dX12_four_25 (by decide) ?_
  refine lv_iadd hx hb dX12_four_26 ?_
  refine sb_at (P := fun z => W _ _ _ _ _ _ _ _ _ _ _ _ _ _ _ (F0 _ _ _ (.int z :: _))) (show (16 : Int32) + 1 = 17 by decide) ?_
  refine xputi E hs hQ 0 (by decide) c_3 rfl 6 (by decide) q1474 rfl rfl (Nat.le_of_ble_eq_true rfl) dX12_four_27 (fun H locs S4 e4 hQ => ?_)
  have u4 : S4 0 = .inr (12, [.int 0, .ref (ad 1), .ref (ad 2), .ref (ad 3), .ref (ad 4), .ref (ad 5), .int 17, .int 0, .int 0, .int 0, .int 0, .long 0, .int 0, .int 0, .int 0, .int (-1), .ref (ad 6), .ref (ad 7), .ref (ad 8), .ref (ad 9), .ref (ad 10), .ref (ad 11), .ref (ad 12), .ref (ad 13), .ref (ad 14), .ref (ad 15), .int 0, .int 0, .ref (ad 16), .int 0, .int 0, .int 0, .int 0, .int 0, .ref (ad 17), .ref (ad 18), .int 0, .ref (ad 19)]) := up_at e4 rfl
  refine lv_iinc (v := 16) (lv' := [(2, .int 16), (0, .ref (ad 0)), (1, .int a1)]) hx hb dX12_four_30 hl (k := 0) rfl (by decide) (by decide) rfl (fun ls hl => ?_)
  refine lv_goto (tgt := 3) hx hb dX12_four_33 (by decide) ?_
  refine lv_iload_n hx hb dX12_four_3 rfl (lv_at hl 0 rfl) ?_
  refine lv_if_lt (tgt := 36) hx hb dX12_four_4 (by decide) (fun k_5 => absurd k_5 (by decide)) (fun k_5 => ?_)
  refine lv_aload_n hx hb dX12_four_7 rfl (lv_at hl 1 rfl) ?_
  refine xget E hQ 0 (by decide) u4 rfl 5 (by decide) q1473 rfl dX12_four_8 ?_
  refine lv_aload_n hx hb dX12_four_11 rfl (lv_at hl 1 rfl) ?_
  refine xget E hQ 0 (by decide) u4 rfl 6 (by decide) q1474 rfl dX12_four_12 ?_
  refine lv_iload_n hx hb dX12_four_15 rfl (lv_at hl 2 rfl) ?_
  refine lv_iload_n hx hb dX12_four_16 rfl (lv_at hl 0 rfl) ?_
  refine lv_ishr hx hb dX12_four_17 ?_
  refine lv_i2b hx hb dX12_four_18 rfl ?_
  have c_6 : S4 5 = .inl (g.2 1, 1200, .inl (upd f1 (16 : Int32).toNatClampNeg (vp_nar .byte ((a1 >>> (24 &&& 31)).toInt8.toInt32)))) := (up_ne e4 (by decide) u2)
  refine xbast E hs hQ 5 (by decide) c_6 (vp_in_lit 17 1200 (by decide)) dX12_four_19 (fun H locs S7 e7 hQ => ?_)
  have u7 : S7 5 = .inl (g.2 1, 1200, .inl (upd (upd f1 (16 : Int32).toNatClampNeg (vp_nar .byte ((a1 >>> (24 &&& 31)).toInt8.toInt32))) (17 : Int32).toNatClampNeg (vp_nar .byte ((a1 >>> (16 &&& 31)).toInt8.toInt32)))) := up_at e7 rfl
  refine lv_aload_n hx hb dX12_four_20 rfl (lv_at hl 1 rfl) ?_
  refine lv_dup hx hb dX12_four_21 rfl ?_
  have c_8 : S7 0 = .inr (12, [.int 0, .ref (ad 1), .ref (ad 2), .ref (ad 3), .ref (ad 4), .ref (ad 5), .int 17, .int 0, .int 0, .int 0, .int 0, .long 0, .int 0, .int 0, .int 0, .int (-1), .ref (ad 6), .ref (ad 7), .ref (ad 8), .ref (ad 9), .ref (ad 10), .ref (ad 11), .ref (ad 12), .ref (ad 13), .ref (ad 14), .ref (ad 15), .int 0, .int 0, .ref (ad 16), .int 0, .int 0, .int 0, .int 0, .int 0, .ref (ad 17), .ref (ad 18), .int 0, .ref (ad 19)]) := (up_ne e7 (by decide) u4)
  refine xget E hQ 0 (by decide) c_8 rfl 6 (by decide) q1474 rfl dX12_four_22 ?_
  refine lv_iconst (v := 1) hx hb dX12_four_25 (by decide) ?_
  refine lv_iadd hx hb dX12_four_26 ?_
  refine sb_at (P := fun z => W _ _ _ _ _ _ _ _ _ _ _ _ _ _ _ (F0 _ _ _ (.int z :: _))) (show (17 : Int32) + 1 = 18 by decide) ?_
  refine xputi E hs hQ 0 (by decide) c_8 rfl 6 (by decide) q1474 rfl rfl (Nat.le_of_ble_eq_true rfl) dX12_four_27 (fun H locs S9 e9 hQ => ?_)
  have u9 : S9 0 = .inr (12, [.int 0, .ref (ad 1), .ref (ad 2), .ref (ad 3), .ref (ad 4), .ref (ad 5), .int 18, .int 0, .int 0, .int 0, .int 0, .long 0, .int 0, .int 0, .int 0, .int (-1), .ref (ad 6), .ref (ad 7), .ref (ad 8), .ref (ad 9), .ref (ad 10), .ref (ad 11), .ref (ad 12), .ref (ad 13), .ref (ad 14), .ref (ad 15), .int 0, .int 0, .ref (ad 16), .int 0, .int 0, .int 0, .int 0, .int 0, .ref (ad 17), .ref (ad 18), .int 0, .ref (ad 19)]) := up_at e9 rfl
  refine lv_iinc (v := 8) (lv' := [(2, .int 8), (0, .ref (ad 0)), (1, .int a1)]) hx hb dX12_four_30 hl (k := 0) rfl (by decide) (by decide) rfl (fun ls hl => ?_)
  refine lv_goto (tgt := 3) hx hb dX12_four_33 (by decide) ?_
  refine lv_iload_n hx hb dX12_four_3 rfl (lv_at hl 0 rfl) ?_
  refine lv_if_lt (tgt := 36) hx hb dX12_four_4 (by decide) (fun k_10 => absurd k_10 (by decide)) (fun k_10 => ?_)
  refine lv_aload_n hx hb dX12_four_7 rfl (lv_at hl 1 rfl) ?_
  refine xget E hQ 0 (by decide) u9 rfl 5 (by decide) q1473 rfl dX12_four_8 ?_
  refine lv_aload_n hx hb dX12_four_11 rfl (lv_at hl 1 rfl) ?_
  refine xget E hQ 0 (by decide) u9 rfl 6 (by decide) q1474 rfl dX12_four_12 ?_
  refine lv_iload_n hx hb dX12_four_15 rfl (lv_at hl 2 rfl) ?_
  refine lv_iload_n hx hb dX12_four_16 rfl (lv_at hl 0 rfl) ?_
  refine lv_ishr hx hb dX12_four_17 ?_
  refine lv_i2b hx hb dX12_four_18 rfl ?_
  have c_11 : S9 5 = .inl (g.2 1, 1200, .inl (upd (upd f1 (16 : Int32).toNatClampNeg (vp_nar .byte ((a1 >>> (24 &&& 31)).toInt8.toInt32))) (17 : Int32).toNatClampNeg (vp_nar .byte ((a1 >>> (16 &&& 31)).toInt8.toInt32)))) := (up_ne e9 (by decide) u7)
  refine xbast E hs hQ 5 (by decide) c_11 (vp_in_lit 18 1200 (by decide)) dX12_four_19 (fun H locs S12 e12 hQ => ?_)
  have u12 : S12 5 = .inl (g.2 1, 1200, .inl (upd (upd (upd f1 (16 : Int32).toNatClampNeg (vp_nar .byte ((a1 >>> (24 &&& 31)).toInt8.toInt32))) (17 : Int32).toNatClampNeg (vp_nar .byte ((a1 >>> (16 &&& 31)).toInt8.toInt32))) (18 : Int32).toNatClampNeg (vp_nar .byte ((a1 >>> (8 &&& 31)).toInt8.toInt32)))) := up_at e12 rfl
  refine lv_aload_n hx hb dX12_four_20 rfl (lv_at hl 1 rfl) ?_
  refine lv_dup hx hb dX12_four_21 rfl ?_
  have c_13 : S12 0 = .inr (12, [.int 0, .ref (ad 1), .ref (ad 2), .ref (ad 3), .ref (ad 4), .ref (ad 5), .int 18, .int 0, .int 0, .int 0, .int 0, .long 0, .int 0, .int 0, .int 0, .int (-1), .ref (ad 6), .ref (ad 7), .ref (ad 8), .ref (ad 9), .ref (ad 10), .ref (ad 11), .ref (ad 12), .ref (ad 13), .ref (ad 14), .ref (ad 15), .int 0, .int 0, .ref (ad 16), .int 0, .int 0, .int 0, .int 0, .int 0, .ref (ad 17), .ref (ad 18), .int 0, .ref (ad 19)]) := (up_ne e12 (by decide) u9)
  refine xget E hQ 0 (by decide) c_13 rfl 6 (by decide) q1474 rfl dX12_four_22 ?_
  refine lv_iconst (v := 1) hx hb dX12_four_25 (by decide) ?_
  refine lv_iadd hx hb dX12_four_26 ?_
  refine sb_at (P := fun z => W _ _ _ _ _ _ _ _ _ _ _ _ _ _ _ (F0 _ _ _ (.int z :: _))) (show (18 : Int32) + 1 = 19 by decide) ?_
  refine xputi E hs hQ 0 (by decide) c_13 rfl 6 (by decide) q1474 rfl rfl (Nat.le_of_ble_eq_true rfl) dX12_four_27 (fun H locs S14 e14 hQ => ?_)
  have u14 : S14 0 = .inr (12, [.int 0, .ref (ad 1), .ref (ad 2), .ref (ad 3), .ref (ad 4), .ref (ad 5), .int 19, .int 0, .int 0, .int 0, .int 0, .long 0, .int 0, .int 0, .int 0, .int (-1), .ref (ad 6), .ref (ad 7), .ref (ad 8), .ref (ad 9), .ref (ad 10), .ref (ad 11), .ref (ad 12), .ref (ad 13), .ref (ad 14), .ref (ad 15), .int 0, .int 0, .ref (ad 16), .int 0, .int 0, .int 0, .int 0, .int 0, .ref (ad 17), .ref (ad 18), .int 0, .ref (ad 19)]) := up_at e14 rfl
  refine lv_iinc (v := 0) (lv' := [(2, .int 0), (0, .ref (ad 0)), (1, .int a1)]) hx hb dX12_four_30 hl (k := 0) rfl (by decide) (by decide) rfl (fun ls hl => ?_)
  refine lv_goto (tgt := 3) hx hb dX12_four_33 (by decide) ?_
  refine lv_iload_n hx hb dX12_four_3 rfl (lv_at hl 0 rfl) ?_
  refine lv_if_lt (tgt := 36) hx hb dX12_four_4 (by decide) (fun k_15 => absurd k_15 (by decide)) (fun k_15 => ?_)
  refine lv_aload_n hx hb dX12_four_7 rfl (lv_at hl 1 rfl) ?_
  refine xget E hQ 0 (by decide) u14 rfl 5 (by decide) q1473 rfl dX12_four_8 ?_
  refine lv_aload_n hx hb dX12_four_11 rfl (lv_at hl 1 rfl) ?_
  refine xget E hQ 0 (by decide) u14 rfl 6 (by decide) q1474 rfl dX12_four_12 ?_
  refine lv_iload_n hx hb dX12_four_15 rfl (lv_at hl 2 rfl) ?_
  refine lv_iload_n hx hb dX12_four_16 rfl (lv_at hl 0 rfl) ?_
  refine lv_ishr hx hb dX12_four_17 ?_
  refine lv_i2b hx hb dX12_four_18 rfl ?_
  have c_16 : S14 5 = .inl (g.2 1, 1200, .inl (upd (upd (upd f1 (16 : Int32).toNatClampNeg (vp_nar .byte ((a1 >>> (24 &&& 31)).toInt8.toInt32))) (17 : Int32).toNatClampNeg (vp_nar .byte ((a1 >>> (16 &&& 31)).toInt8.toInt32))) (18 : Int32).toNatClampNeg (vp_nar .byte ((a1 >>> (8 &&& 31)).toInt8.toInt32)))) := (up_ne e14 (by decide) u12)
  refine xbast E hs hQ 5 (by decide) c_16 (vp_in_lit 19 1200 (by decide)) dX12_four_19 (fun H locs S17 e17 hQ => ?_)
  have u17 : S17 5 = .inl (g.2 1, 1200, .inl (upd (upd (upd (upd f1 (16 : Int32).toNatClampNeg (vp_nar .byte ((a1 >>> (24 &&& 31)).toInt8.toInt32))) (17 : Int32).toNatClampNeg (vp_nar .byte ((a1 >>> (16 &&& 31)).toInt8.toInt32))) (18 : Int32).toNatClampNeg (vp_nar .byte ((a1 >>> (8 &&& 31)).toInt8.toInt32))) (19 : Int32).toNatClampNeg (vp_nar .byte ((a1 >>> (0 &&& 31)).toInt8.toInt32)))) := up_at e17 rfl
  refine lv_aload_n hx hb dX12_four_20 rfl (lv_at hl 1 rfl) ?_
  refine lv_dup hx hb dX12_four_21 rfl ?_
  have c_18 : S17 0 = .inr (12, [.int 0, .ref (ad 1), .ref (ad 2), .ref (ad 3), .ref (ad 4), .ref (ad 5), .int 19, .int 0, .int 0, .int 0, .int 0, .long 0, .int 0, .int 0, .int 0, .int (-1), .ref (ad 6), .ref (ad 7), .ref (ad 8), .ref (ad 9), .ref (ad 10), .ref (ad 11), .ref (ad 12), .ref (ad 13), .ref (ad 14), .ref (ad 15), .int 0, .int 0, .ref (ad 16), .int 0, .int 0, .int 0, .int 0, .int 0, .ref (ad 17), .ref (ad 18), .int 0, .ref (ad 19)]) := (up_ne e17 (by decide) u14)
  refine xget E hQ 0 (by decide) c_18 rfl 6 (by decide) q1474 rfl dX12_four_22 ?_
  refine lv_iconst (v := 1) hx hb dX12_four_25 (by decide) ?_
  refine lv_iadd hx hb dX12_four_26 ?_
  refine sb_at (P := fun z => W _ _ _ _ _ _ _ _ _ _ _ _ _ _ _ (F0 _ _ _ (.int z :: _))) (show (19 : Int32) + 1 = 20 by decide) ?_
  refine xputi E hs hQ 0 (by decide) c_18 rfl 6 (by decide) q1474 rfl rfl (Nat.le_of_ble_eq_true rfl) dX12_four_27 (fun H locs S19 e19 hQ => ?_)
  have u19 : S19 0 = .inr (12, [.int 0, .ref (ad 1), .ref (ad 2), .ref (ad 3), .ref (ad 4), .ref (ad 5), .int 20, .int 0, .int 0, .int 0, .int 0, .long 0, .int 0, .int 0, .int 0, .int (-1), .ref (ad 6), .ref (ad 7), .ref (ad 8), .ref (ad 9), .ref (ad 10), .ref (ad 11), .ref (ad 12), .ref (ad 13), .ref (ad 14), .ref (ad 15), .int 0, .int 0, .ref (ad 16), .int 0, .int 0, .int 0, .int 0, .int 0, .ref (ad 17), .ref (ad 18), .int 0, .ref (ad 19)]) := up_at e19 rfl
  refine lv_iinc (v := (-8)) (lv' := [(2, .int (-8)), (0, .ref (ad 0)), (1, .int a1)]) hx hb dX12_four_30 hl (k := 0) rfl (by decide) (by decide) rfl (fun ls hl => ?_)
  refine lv_goto (tgt := 3) hx hb dX12_four_33 (by decide) ?_
  refine lv_iload_n hx hb dX12_four_3 rfl (lv_at hl 0 rfl) ?_
  refine lv_if_lt (tgt := 36) hx hb dX12_four_4 (by decide) (fun k_20 => ?_) (fun k_20 => absurd k_20 (by decide))
  have c_21 : S19 5 = .inl (g.2 1, 1200, .inl (upd (upd (upd (upd f1 (16 : Int32).toNatClampNeg (vp_nar .byte ((a1 >>> (24 &&& 31)).toInt8.toInt32))) (17 : Int32).toNatClampNeg (vp_nar .byte ((a1 >>> (16 &&& 31)).toInt8.toInt32))) (18 : Int32).toNatClampNeg (vp_nar .byte ((a1 >>> (8 &&& 31)).toInt8.toInt32))) (19 : Int32).toNatClampNeg (vp_nar .byte ((a1 >>> (0 &&& 31)).toInt8.toInt32)))) := (up_ne e19 (by decide) u17)
  exact xrv E hr hlk hQ (⟨fun j hj => (up_ne e19 (fun h => hj (by subst h; decide)) (up_ne e17 (fun h => hj (by subst h; decide)) (up_ne e14 (fun h => hj (by subst h; decide)) (up_ne e12 (fun h => hj (by subst h; decide)) (up_ne e9 (fun h => hj (by subst h; decide)) (up_ne e7 (fun h => hj (by subst h; decide)) (up_ne e4 (fun h => hj (by subst h; decide)) (up_ne e2 (fun h => hj (by subst h; decide)) rfl)))))))), ⟨_, c_21⟩, u19⟩) dX12_four_36
set_option maxHeartbeats 4000000 in
set_option maxRecDepth 100000 in
theorem fX12_feed (l : Launch) (g : GG) (ad : Nat → Nat) (hD : Dj ad 20) (S : SS) (a1 : Int32) (a2 : Int32) (a3 : Int32) (a4 : Int32) (a5 : Int32) (hX : ∀ i, i < 20 → S i = M0 g ad i) : Met l yX12_feed (wG (.code yX12_feed cX12_feed 6 (some .int))) (Rm 1) (XPre g ad 20 S [.ref (ad 0), .int a1, .int a2, .int a3, .int a4, .int a5]) (va_Qi (fun r _ => r = 20) (QB g ad 20) (FA ad 20)) 0 0 (FA ad 20) := by
  refine xmet cX12_feed "EbbWreckModel" (by decide) rfl (Nat.le_of_ble_eq_true rfl) (fun p e s m below meth c E hr hlk hml hQ ls hl => ?_)
  have hx := E.1
  have hb := E.2.1
  have hs : Sp ad 20 (FA ad 20) := Sp.fa hD
  have hl : lv_has ls 6 [(0, .ref (ad 0)), (1, .int a1), (2, .int a2), (3, .int a3), (4, .int a4), (5, .int a5)] := hl
  refine lv_aload_n hx hb dX12_feed_0 rfl (lv_at hl 0 rfl) ?_
  refine lv_iconst (v := 0) hx hb dX12_feed_1 (by decide) ?_
  have c_1 : S 0 = .inr (12, [.int 0, .ref (ad 1), .ref (ad 2), .ref (ad 3), .ref (ad 4), .ref (ad 5), .int 0, .int 0, .int 0, .int 0, .int 0, .long 0, .int 0, .int 0, .int 0, .int (-1), .ref (ad 6), .ref (ad 7), .ref (ad 8), .ref (ad 9), .ref (ad 10), .ref (ad 11), .ref (ad 12), .ref (ad 13), .ref (ad 14), .ref (ad 15), .int 0, .int 0, .ref (ad 16), .int 0, .int 0, .int 0, .int 0, .int 0, .ref (ad 17), .ref (ad 18), .int 0, .ref (ad 19)]) := (hX 0 (by decide))
  refine xputi E hs hQ 0 (by decide) c_1 rfl 0 (by decide) q1468 rfl rfl (Nat.le_of_ble_eq_true rfl) dX12_feed_2 (fun H locs S2 e2 hQ => ?_)
  have hX : ∀ i, i < 20 → S2 i = M0 g ad i := same_up hX e2 rfl
  refine lv_aload_n hx hb dX12_feed_5 rfl (lv_at hl 0 rfl) ?_
  have c_3 : S2 0 = .inr (12, [.int 0, .ref (ad 1), .ref (ad 2), .ref (ad 3), .ref (ad 4), .ref (ad 5), .int 0, .int 0, .int 0, .int 0, .int 0, .long 0, .int 0, .int 0, .int 0, .int (-1), .ref (ad 6), .ref (ad 7), .ref (ad 8), .ref (ad 9), .ref (ad 10), .ref (ad 11), .ref (ad 12), .ref (ad 13), .ref (ad 14), .ref (ad 15), .int 0, .int 0, .ref (ad 16), .int 0, .int 0, .int 0, .int 0, .int 0, .ref (ad 17), .ref (ad 18), .int 0, .ref (ad 19)]) := (hX 0 (by decide))
  refine xget E hQ 0 (by decide) c_3 rfl 6 (by decide) q1474 rfl dX12_feed_6 ?_
  refine lv_bipush (v := 20) hx hb dX12_feed_9 (by decide) ?_
  refine lv_iadd hx hb dX12_feed_11 ?_
  refine sb_at (P := fun z => W _ _ _ _ _ _ _ _ _ _ _ _ _ _ _ (F0 _ _ _ (.int z :: _))) (show (0 : Int32) + 20 = 20 by decide) ?_
  refine lv_sipush (v := 1200) hx hb dX12_feed_12 (by decide) ?_
  refine lv_icmp_le (tgt := 20) hx hb dX12_feed_15 (by decide) (fun k_4 => ?_) (fun k_4 => absurd k_4 (by decide))
  refine lv_aload_n hx hb dX12_feed_20 rfl (lv_at hl 0 rfl) ?_
  refine lv_iload_n hx hb dX12_feed_21 rfl (lv_at hl 1 rfl) ?_
  have c_5 : S2 5 = .inl (g.2 1, 1200, .inl zf) := (hX 5 (by decide))
  refine xcVv E hs hQ hml hl.1 0 (four_0 l g ad hD S2 a1 zf c_3 c_5) mX12_four q1609 (by decide) c_3 rfl rfl ⟨by decide, by decide⟩ ⟨by decide, by decide⟩ (Nat.le_of_ble_eq_true rfl) rfl dX12_feed_22 (fun S6 H locs hp6 hQ _ => ?_)
  obtain ⟨o6, ⟨f6_5, v6_5⟩, v6_0⟩ := hp6
  refine lv_aload_n hx hb dX12_feed_25 rfl (lv_at hl 0 rfl) ?_
  refine lv_iload_n hx hb dX12_feed_26 rfl (lv_at hl 2 rfl) ?_
  refine xcVv E hs hQ hml hl.1 0 (four_4 l g ad hD S6 a2 f6_5 v6_0 v6_5) mX12_four q1609 (by decide) v6_0 rfl rfl ⟨by decide, by decide⟩ ⟨by decide, by decide⟩ (Nat.le_of_ble_eq_true rfl) rfl dX12_feed_27 (fun S7 H locs hp7 hQ _ => ?_)
  obtain ⟨o7, ⟨f7_5, v7_5⟩, v7_0⟩ := hp7
  refine lv_aload_n hx hb dX12_feed_30 rfl (lv_at hl 0 rfl) ?_
  refine lv_iload_n hx hb dX12_feed_31 rfl (lv_at hl 3 rfl) ?_
  refine xcVv E hs hQ hml hl.1 0 (four_8 l g ad hD S7 a3 f7_5 v7_0 v7_5) mX12_four q1609 (by decide) v7_0 rfl rfl ⟨by decide, by decide⟩ ⟨by decide, by decide⟩ (Nat.le_of_ble_eq_true rfl) rfl dX12_feed_32 (fun S8 H locs hp8 hQ _ => ?_)
  obtain ⟨o8, ⟨f8_5, v8_5⟩, v8_0⟩ := hp8
  refine lv_aload_n hx hb dX12_feed_35 rfl (lv_at hl 0 rfl) ?_
  refine lv_iload hx hb dX12_feed_36 (lv_at hl 4 rfl) ?_
  refine xcVv E hs hQ hml hl.1 0 (four_12 l g ad hD S8 a4 f8_5 v8_0 v8_5) mX12_four q1609 (by decide) v8_0 rfl rfl ⟨by decide, by decide⟩ ⟨by decide, by decide⟩ (Nat.le_of_ble_eq_true rfl) rfl dX12_feed_38 (fun S9 H locs hp9 hQ _ => ?_)
  obtain ⟨o9, ⟨f9_5, v9_5⟩, v9_0⟩ := hp9
  refine lv_aload_n hx hb dX12_feed_41 rfl (lv_at hl 0 rfl) ?_
  refine lv_iload hx hb dX12_feed_42 (lv_at hl 5 rfl) ?_
  refine xcVv E hs hQ hml hl.1 0 (four_16 l g ad hD S9 a5 f9_5 v9_0 v9_5) mX12_four q1609 (by decide) v9_0 rfl rfl ⟨by decide, by decide⟩ ⟨by decide, by decide⟩ (Nat.le_of_ble_eq_true rfl) rfl dX12_feed_44 (fun S10 H locs hp10 hQ _ => ?_)
  obtain ⟨o10, ⟨f10_5, v10_5⟩, v10_0⟩ := hp10
  refine lv_aload_n hx hb dX12_feed_47 rfl (lv_at hl 0 rfl) ?_
  refine xget E hQ 0 (by decide) v10_0 rfl 6 (by decide) q1474 rfl dX12_feed_48 ?_
  exact xri E hr hlk hQ (rfl) dX12_feed_51
set_option maxHeartbeats 4000000 in
set_option maxRecDepth 100000 in
theorem fX12_row_0 (l : Launch) (g : GG) (ad : Nat → Nat) (hD : Dj ad 20) (S : SS) (a2 : Int32) (a3 : Int32) (hX : ∀ i, i < 20 → S i = M0 g ad i) : Met l yX12_row (wG (.code yX12_row cX12_row 5 (some .int))) (Rm 2) (XPre g ad 20 S [.ref (ad 0), .int 0, .int a2, .int a3]) (va_Qi (fun r _ => r = ansRow 0 a2 a3) (QB g ad 20) (FA ad 20)) 0 0 (FA ad 20) := by
  refine xmet cX12_row "EbbWreckModel" (by decide) rfl (Nat.le_of_ble_eq_true rfl) (fun p e s m below meth c E hr hlk hml hQ ls hl => ?_)
  have hx := E.1
  have hb := E.2.1
  have hs : Sp ad 20 (FA ad 20) := Sp.fa hD
  have hl : lv_has ls 5 [(0, .ref (ad 0)), (1, .int 0), (2, .int a2), (3, .int a3)] := hl
  refine lv_aload_n hx hb dX12_row_0 rfl (lv_at hl 0 rfl) ?_
  refine lv_iconst (v := 0) hx hb dX12_row_1 (by decide) ?_
  have c_1 : S 0 = .inr (12, [.int 0, .ref (ad 1), .ref (ad 2), .ref (ad 3), .ref (ad 4), .ref (ad 5), .int 0, .int 0, .int 0, .int 0, .int 0, .long 0, .int 0, .int 0, .int 0, .int (-1), .ref (ad 6), .ref (ad 7), .ref (ad 8), .ref (ad 9), .ref (ad 10), .ref (ad 11), .ref (ad 12), .ref (ad 13), .ref (ad 14), .ref (ad 15), .int 0, .int 0, .ref (ad 16), .int 0, .int 0, .int 0, .int 0, .int 0, .ref (ad 17), .ref (ad 18), .int 0, .ref (ad 19)]) := (hX 0 (by decide))
  refine xputi E hs hQ 0 (by decide) c_1 rfl 0 (by decide) q1468 rfl rfl (Nat.le_of_ble_eq_true rfl) dX12_row_2 (fun H locs S2 e2 hQ => ?_)
  have hX : ∀ i, i < 20 → S2 i = M0 g ad i := same_up hX e2 rfl
  refine lv_iload_n hx hb dX12_row_5 rfl (lv_at hl 1 rfl) ?_
  refine xcSi E hs hQ hml hl.1 (uX12_isSlot l g ad _ hD S2 0) mX12_isSlot q1587 rfl ⟨by decide, by decide⟩ ⟨by decide, by decide⟩ (Nat.le_of_ble_eq_true rfl) rfl dX12_row_6 (fun r3 S3 H locs hp3 hQ => ?_)
  obtain ⟨rfl, hp3⟩ := hp3
  have hz3 : r3 = 1 := by
    rcases hp3 with ⟨h, _⟩ | ⟨_, h⟩
    · exact h
    · exact absurd h (by decide)
  subst hz3
  refine lv_if_eq (tgt := 30) hx hb dX12_row_9 (by decide) (fun k_4 => absurd k_4 (by decide)) (fun k_4 => ?_)
  refine lv_iload_n hx hb dX12_row_12 rfl (lv_at hl 2 rfl) ?_
  refine lv_i2l hx hb dX12_row_13 rfl ?_
  refine lv_lconst (v := 0) hx hb dX12_row_14 (by decide) ?_
  refine lv_ldc2 (v := 3) hx hb E.2.2.1 (E.2.2.2.1 _ q1590) dX12_row_15 ?_
  refine xcSi E hs hQ hml hl.1 (uX12_in l g ad _ hD S2 a2.toInt64 0 3) mX12_in q1591 rfl ⟨by decide, by decide⟩ ⟨by decide, by decide⟩ (Nat.le_of_ble_eq_true rfl) rfl dX12_row_18 (fun r5 S5 H locs hp5 hQ => ?_)
  obtain ⟨rfl, hp5⟩ := hp5
  rcases hp5 with ⟨rfl, i5, j5⟩ | ⟨rfl, i5⟩
  · refine lv_if_eq (tgt := 30) hx hb dX12_row_21 (by decide) (fun k_6 => absurd k_6 (by decide)) (fun k_6 => ?_)
    refine lv_iload_n hx hb dX12_row_24 rfl (lv_at hl 3 rfl) ?_
    refine lv_bipush (v := 60) hx hb dX12_row_25 (by decide) ?_
    refine lv_icmp_le (tgt := 33) hx hb dX12_row_27 (by decide) (fun k_7 => ?_) (fun k_7 => ?_)
    · refine lv_iload_n hx hb dX12_row_33 rfl (lv_at hl 3 rfl) ?_
      refine lv_if_ge (tgt := 40) hx hb dX12_row_34 (by decide) (fun k_8 => ?_) (fun k_8 => ?_)
      · refine lv_aload_n hx hb dX12_row_40 rfl (lv_at hl 0 rfl) ?_
        have c_9 : S2 0 = .inr (12, [.int 0, .ref (ad 1), .ref (ad 2), .ref (ad 3), .ref (ad 4), .ref (ad 5), .int 0, .int 0, .int 0, .int 0, .int 0, .long 0, .int 0, .int 0, .int 0, .int (-1), .ref (ad 6), .ref (ad 7), .ref (ad 8), .ref (ad 9), .ref (ad 10), .ref (ad 11), .ref (ad 12), .ref (ad 13), .ref (ad 14), .ref (ad 15), .int 0, .int 0, .ref (ad 16), .int 0, .int 0, .int 0, .int 0, .int 0, .ref (ad 17), .ref (ad 18), .int 0, .ref (ad 19)]) := (hX 0 (by decide))
        refine xget E hQ 0 (by decide) c_9 rfl 1 (by decide) q1469 rfl dX12_row_41 ?_
        refine lv_iload_n hx hb dX12_row_44 rfl (lv_at hl 1 rfl) ?_
        refine lv_iload_n hx hb dX12_row_45 rfl (lv_at hl 2 rfl) ?_
        have c_10 : S2 1 = .inl (g.2 0, 4, .inl wdF) := (hX 1 (by decide))
        refine xiast E hs hQ 1 (by decide) c_10 (vp_in_lit 0 4 (by decide)) dX12_row_46 (fun H locs S11 e11 hQ => ?_)
        have u11 : S11 1 = .inl (g.2 0, 4, .inl (upd wdF (0 : Int32).toNatClampNeg a2)) := up_at e11 rfl
        refine lv_aload_n hx hb dX12_row_47 rfl (lv_at hl 0 rfl) ?_
        have c_12 : S11 0 = .inr (12, [.int 0, .ref (ad 1), .ref (ad 2), .ref (ad 3), .ref (ad 4), .ref (ad 5), .int 0, .int 0, .int 0, .int 0, .int 0, .long 0, .int 0, .int 0, .int 0, .int (-1), .ref (ad 6), .ref (ad 7), .ref (ad 8), .ref (ad 9), .ref (ad 10), .ref (ad 11), .ref (ad 12), .ref (ad 13), .ref (ad 14), .ref (ad 15), .int 0, .int 0, .ref (ad 16), .int 0, .int 0, .int 0, .int 0, .int 0, .ref (ad 17), .ref (ad 18), .int 0, .ref (ad 19)]) := (up_ne e11 (by decide) c_9)
        refine xget E hQ 0 (by decide) c_12 rfl 2 (by decide) q1470 rfl dX12_row_48 ?_
        refine lv_iload_n hx hb dX12_row_51 rfl (lv_at hl 1 rfl) ?_
        refine lv_iload_n hx hb dX12_row_52 rfl (lv_at hl 3 rfl) ?_
        have c_13 : S11 2 = .inl (g.2 0, 4, .inl zf) := (up_ne e11 (by decide) (hX 2 (by decide)))
        refine xiast E hs hQ 2 (by decide) c_13 (vp_in_lit 0 4 (by decide)) dX12_row_53 (fun H locs S14 e14 hQ => ?_)
        have u14 : S14 2 = .inl (g.2 0, 4, .inl (upd zf (0 : Int32).toNatClampNeg a3)) := up_at e14 rfl
        refine lv_iconst (v := 0) hx hb dX12_row_54 (by decide) ?_
        refine lv_istore (lv' := [(4, .int 0), (0, .ref (ad 0)), (1, .int 0), (2, .int a2), (3, .int a3)]) hx hb dX12_row_55 hl (by decide) rfl (fun ls hl => ?_)
        obtain ⟨nn, hnn, enn⟩ := nI_of2 (M := 60) (n := 60) (by decide) (Int32.not_lt.mpr k_8) k_7
        have c_15 : S14 0 = .inr (12, [.int 0, .ref (ad 1), .ref (ad 2), .ref (ad 3), .ref (ad 4), .ref (ad 5), .int 0, .int 0, .int 0, .int 0, .int 0, .long 0, .int 0, .int 0, .int 0, .int (-1), .ref (ad 6), .ref (ad 7), .ref (ad 8), .ref (ad 9), .ref (ad 10), .ref (ad 11), .ref (ad 12), .ref (ad 13), .ref (ad 14), .ref (ad 15), .int 0, .int 0, .ref (ad 16), .int 0, .int 0, .int 0, .int 0, .int 0, .ref (ad 17), .ref (ad 18), .int 0, .ref (ad 19)]) := (up_ne e14 (by decide) c_12)
        have c_16 : S14 3 = .inl (g.2 2, 240, .inr (.inl zfL)) := (up_ne e14 (by decide) (up_ne e11 (by decide) (hX 3 (by decide))))
        have loop : ∀ (q i : Nat) (S9 : SS) (H : Heap) (locs : List Loc) (ls : Array Slot), i ≤ nn → nn - i < q → S9 0 = .inr (12, [.int 0, .ref (ad 1), .ref (ad 2), .ref (ad 3), .ref (ad 4), .ref (ad 5), .int 0, .int 0, .int 0, .int 0, .int 0, .long 0, .int 0, .int 0, .int 0, .int (-1), .ref (ad 6), .ref (ad 7), .ref (ad 8), .ref (ad 9), .ref (ad 10), .ref (ad 11), .ref (ad 12), .ref (ad 13), .ref (ad 14), .ref (ad 15), .int 0, .int 0, .ref (ad 16), .int 0, .int 0, .int 0, .int 0, .int 0, .ref (ad 17), .ref (ad 18), .int 0, .ref (ad 19)]) → (∃ f : Nat → Int64, S9 3 = .inl (g.2 2, 240, .inr (.inl f))) → Hp g ad 20 S9 (FA ad 20) s.heap H locs → lv_has ls 5 [(0, .ref (ad 0)), (1, .int 0), (2, .int a2), (3, .int a3), (4, .int (nI i))] → W p l e (Rm 2) s m [.ref (ad 0), .int 0, .int a2, .int a3].toArray below meth c H locs 0 0 (MQ below (va_Qi (fun r _ => r = ansRow 0 a2 a3) (QB g ad 20) (FA ad 20)) [.ref (ad 0), .int 0, .int a2, .int a3].toArray s 0 0 (FA ad 20)) (F0 m 57 ls []) := by
          intro q
          induction q with
          | zero => intro i S9 H locs ls h1 h2; exact absurd h2 (by omega)
          | succ q ih =>
            intro i S9 H locs ls hi hq g0 g3 hQ hl
            obtain ⟨f9, g3⟩ := g3
            refine lv_iload hx hb dX12_row_57 (lv_at hl 4 rfl) ?_
            refine lv_iload_n hx hb dX12_row_59 rfl (lv_at hl 3 rfl) ?_
            refine lv_icmp_ge (tgt := 82) hx hb dX12_row_60 (by decide) (fun k_17 => ?_) (fun k_17 => ?_)
            · refine lv_iconst (v := 0) hx hb dX12_row_82 (by decide) ?_
              exact xri E hr hlk hQ (by try simp only [i32_lt, i32_le, i32_eq, i64_lt, i64_le, w64, l_0, l_1, l_2, l_3, l_4, l_60, l_m1, L_0, L_2, L_3, L_9] at i5; try simp only [i32_lt, i32_le, i32_eq, i64_lt, i64_le, w64, l_0, l_1, l_2, l_3, l_4, l_60, l_m1, L_0, L_2, L_3, L_9] at j5; try simp only [i32_lt, i32_le, i32_eq, i64_lt, i64_le, w64, l_0, l_1, l_2, l_3, l_4, l_60, l_m1, L_0, L_2, L_3, L_9] at k_7; try simp only [i32_lt, i32_le, i32_eq, i64_lt, i64_le, w64, l_0, l_1, l_2, l_3, l_4, l_60, l_m1, L_0, L_2, L_3, L_9] at k_8; try simp only [i32_lt, i32_le, i32_eq, i64_lt, i64_le, w64, l_0, l_1, l_2, l_3, l_4, l_60, l_m1, L_0, L_2, L_3, L_9] at k_17; unfold ansRow; try simp only [l_0, l_1, l_2, l_3]; (repeat' split) <;> first | rfl | omega) dX12_row_83
            · refine lv_aload_n hx hb dX12_row_63 rfl (lv_at hl 0 rfl) ?_
              refine xget E hQ 0 (by decide) g0 rfl 3 (by decide) q1471 rfl dX12_row_64 ?_
              refine lv_bipush (v := 60) hx hb dX12_row_67 (by decide) ?_
              refine lv_iload_n hx hb dX12_row_69 rfl (lv_at hl 1 rfl) ?_
              refine lv_imul hx hb dX12_row_70 ?_
              refine sb_at (P := fun z => W _ _ _ _ _ _ _ _ _ _ _ _ _ _ _ (F0 _ _ _ (.int z :: _))) (show (60 : Int32) * 0 = 0 by decide) ?_
              refine lv_iload hx hb dX12_row_71 (lv_at hl 4 rfl) ?_
              refine lv_iadd hx hb dX12_row_73 ?_
              refine sb_at (P := fun z => W _ _ _ _ _ _ _ _ _ _ _ _ _ _ _ (F0 _ _ _ (.int z :: _))) (nI_add 0 i) ?_
              refine lv_lconst (v := 0) hx hb dX12_row_74 (by decide) ?_
              refine xlast E hs hQ 3 (by decide) g3 (vp_in_nI (by have := ilt k_17 enn (by omega); omega) (by decide)) dX12_row_75 (fun H locs S18 e18 hQ => ?_)
              have u18 : S18 3 = .inl (g.2 2, 240, .inr (.inl (vp_updL f9 (nI (0 + i) : Int32).toNatClampNeg 0))) := up_at e18 rfl
              refine lv_iinc (v := nI (i + 1)) (lv' := [(4, .int (nI (i + 1))), (0, .ref (ad 0)), (1, .int 0), (2, .int a2), (3, .int a3)]) hx hb dX12_row_76 hl (k := 4) rfl (nI_1 i) (by decide) rfl (fun ls hl => ?_)
              refine lv_goto (tgt := 57) hx hb dX12_row_79 (by decide) ?_
              have c_19 : S18 0 = .inr (12, [.int 0, .ref (ad 1), .ref (ad 2), .ref (ad 3), .ref (ad 4), .ref (ad 5), .int 0, .int 0, .int 0, .int 0, .int 0, .long 0, .int 0, .int 0, .int 0, .int (-1), .ref (ad 6), .ref (ad 7), .ref (ad 8), .ref (ad 9), .ref (ad 10), .ref (ad 11), .ref (ad 12), .ref (ad 13), .ref (ad 14), .ref (ad 15), .int 0, .int 0, .ref (ad 16), .int 0, .int 0, .int 0, .int 0, .int 0, .ref (ad 17), .ref (ad 18), .int 0, .ref (ad 19)]) := (up_ne e18 (by decide) g0)
              exact ih (i + 1) _ _ _ _ (by have := ilt k_17 enn (by omega); omega) (by have := ilt k_17 enn (by omega); omega) c_19 ⟨_, u18⟩ hQ (lv_sub hl [1, 2, 3, 4, 0] rfl)
        exact loop (nn + 1) 0 _ _ _ _ (Nat.zero_le nn) (by omega) c_15 ⟨_, c_16⟩ hQ (lv_sub hl [1, 2, 3, 4, 0] rfl)
      · refine lv_bipush (v := (-3)) hx hb dX12_row_37 (by decide) ?_
        exact xri E hr hlk hQ (by try simp only [i32_lt, i32_le, i32_eq, i64_lt, i64_le, w64, l_0, l_1, l_2, l_3, l_4, l_60, l_m1, L_0, L_2, L_3, L_9] at i5; try simp only [i32_lt, i32_le, i32_eq, i64_lt, i64_le, w64, l_0, l_1, l_2, l_3, l_4, l_60, l_m1, L_0, L_2, L_3, L_9] at j5; try simp only [i32_lt, i32_le, i32_eq, i64_lt, i64_le, w64, l_0, l_1, l_2, l_3, l_4, l_60, l_m1, L_0, L_2, L_3, L_9] at k_7; try simp only [i32_lt, i32_le, i32_eq, i64_lt, i64_le, w64, l_0, l_1, l_2, l_3, l_4, l_60, l_m1, L_0, L_2, L_3, L_9] at k_8; unfold ansRow; try simp only [l_0, l_1, l_2, l_3]; (repeat' split) <;> first | rfl | omega) dX12_row_39
    · refine lv_bipush (v := (-2)) hx hb dX12_row_30 (by decide) ?_
      exact xri E hr hlk hQ (by try simp only [i32_lt, i32_le, i32_eq, i64_lt, i64_le, w64, l_0, l_1, l_2, l_3, l_4, l_60, l_m1, L_0, L_2, L_3, L_9] at i5; try simp only [i32_lt, i32_le, i32_eq, i64_lt, i64_le, w64, l_0, l_1, l_2, l_3, l_4, l_60, l_m1, L_0, L_2, L_3, L_9] at j5; try simp only [i32_lt, i32_le, i32_eq, i64_lt, i64_le, w64, l_0, l_1, l_2, l_3, l_4, l_60, l_m1, L_0, L_2, L_3, L_9] at k_7; unfold ansRow; try simp only [l_0, l_1, l_2, l_3]; (repeat' split) <;> first | rfl | omega) dX12_row_32
  · refine lv_if_eq (tgt := 30) hx hb dX12_row_21 (by decide) (fun k_20 => ?_) (fun k_20 => absurd k_20 (by decide))
    refine lv_bipush (v := (-2)) hx hb dX12_row_30 (by decide) ?_
    exact xri E hr hlk hQ (by try simp only [i32_lt, i32_le, i32_eq, i64_lt, i64_le, w64, l_0, l_1, l_2, l_3, l_4, l_60, l_m1, L_0, L_2, L_3, L_9] at i5; unfold ansRow; try simp only [l_0, l_1, l_2, l_3]; (repeat' split) <;> first | rfl | omega) dX12_row_32
set_option maxHeartbeats 4000000 in
set_option maxRecDepth 100000 in
theorem fX12_row_1 (l : Launch) (g : GG) (ad : Nat → Nat) (hD : Dj ad 20) (S : SS) (a2 : Int32) (a3 : Int32) (hX : ∀ i, i < 20 → S i = M0 g ad i) : Met l yX12_row (wG (.code yX12_row cX12_row 5 (some .int))) (Rm 2) (XPre g ad 20 S [.ref (ad 0), .int 1, .int a2, .int a3]) (va_Qi (fun r _ => r = ansRow 1 a2 a3) (QB g ad 20) (FA ad 20)) 0 0 (FA ad 20) := by
  refine xmet cX12_row "EbbWreckModel" (by decide) rfl (Nat.le_of_ble_eq_true rfl) (fun p e s m below meth c E hr hlk hml hQ ls hl => ?_)
  have hx := E.1
  have hb := E.2.1
  have hs : Sp ad 20 (FA ad 20) := Sp.fa hD
  have hl : lv_has ls 5 [(0, .ref (ad 0)), (1, .int 1), (2, .int a2), (3, .int a3)] := hl
  refine lv_aload_n hx hb dX12_row_0 rfl (lv_at hl 0 rfl) ?_
  refine lv_iconst (v := 0) hx hb dX12_row_1 (by decide) ?_
  have c_1 : S 0 = .inr (12, [.int 0, .ref (ad 1), .ref (ad 2), .ref (ad 3), .ref (ad 4), .ref (ad 5), .int 0, .int 0, .int 0, .int 0, .int 0, .long 0, .int 0, .int 0, .int 0, .int (-1), .ref (ad 6), .ref (ad 7), .ref (ad 8), .ref (ad 9), .ref (ad 10), .ref (ad 11), .ref (ad 12), .ref (ad 13), .ref (ad 14), .ref (ad 15), .int 0, .int 0, .ref (ad 16), .int 0, .int 0, .int 0, .int 0, .int 0, .ref (ad 17), .ref (ad 18), .int 0, .ref (ad 19)]) := (hX 0 (by decide))
  refine xputi E hs hQ 0 (by decide) c_1 rfl 0 (by decide) q1468 rfl rfl (Nat.le_of_ble_eq_true rfl) dX12_row_2 (fun H locs S2 e2 hQ => ?_)
  have hX : ∀ i, i < 20 → S2 i = M0 g ad i := same_up hX e2 rfl
  refine lv_iload_n hx hb dX12_row_5 rfl (lv_at hl 1 rfl) ?_
  refine xcSi E hs hQ hml hl.1 (uX12_isSlot l g ad _ hD S2 1) mX12_isSlot q1587 rfl ⟨by decide, by decide⟩ ⟨by decide, by decide⟩ (Nat.le_of_ble_eq_true rfl) rfl dX12_row_6 (fun r3 S3 H locs hp3 hQ => ?_)
  obtain ⟨rfl, hp3⟩ := hp3
  have hz3 : r3 = 1 := by
    rcases hp3 with ⟨h, _⟩ | ⟨_, h⟩
    · exact h
    · exact absurd h (by decide)
  subst hz3
  refine lv_if_eq (tgt := 30) hx hb dX12_row_9 (by decide) (fun k_4 => absurd k_4 (by decide)) (fun k_4 => ?_)
  refine lv_iload_n hx hb dX12_row_12 rfl (lv_at hl 2 rfl) ?_
  refine lv_i2l hx hb dX12_row_13 rfl ?_
  refine lv_lconst (v := 0) hx hb dX12_row_14 (by decide) ?_
  refine lv_ldc2 (v := 3) hx hb E.2.2.1 (E.2.2.2.1 _ q1590) dX12_row_15 ?_
  refine xcSi E hs hQ hml hl.1 (uX12_in l g ad _ hD S2 a2.toInt64 0 3) mX12_in q1591 rfl ⟨by decide, by decide⟩ ⟨by decide, by decide⟩ (Nat.le_of_ble_eq_true rfl) rfl dX12_row_18 (fun r5 S5 H locs hp5 hQ => ?_)
  obtain ⟨rfl, hp5⟩ := hp5
  rcases hp5 with ⟨rfl, i5, j5⟩ | ⟨rfl, i5⟩
  · refine lv_if_eq (tgt := 30) hx hb dX12_row_21 (by decide) (fun k_6 => absurd k_6 (by decide)) (fun k_6 => ?_)
    refine lv_iload_n hx hb dX12_row_24 rfl (lv_at hl 3 rfl) ?_
    refine lv_bipush (v := 60) hx hb dX12_row_25 (by decide) ?_
    refine lv_icmp_le (tgt := 33) hx hb dX12_row_27 (by decide) (fun k_7 => ?_) (fun k_7 => ?_)
    · refine lv_iload_n hx hb dX12_row_33 rfl (lv_at hl 3 rfl) ?_
      refine lv_if_ge (tgt := 40) hx hb dX12_row_34 (by decide) (fun k_8 => ?_) (fun k_8 => ?_)
      · refine lv_aload_n hx hb dX12_row_40 rfl (lv_at hl 0 rfl) ?_
        have c_9 : S2 0 = .inr (12, [.int 0, .ref (ad 1), .ref (ad 2), .ref (ad 3), .ref (ad 4), .ref (ad 5), .int 0, .int 0, .int 0, .int 0, .int 0, .long 0, .int 0, .int 0, .int 0, .int (-1), .ref (ad 6), .ref (ad 7), .ref (ad 8), .ref (ad 9), .ref (ad 10), .ref (ad 11), .ref (ad 12), .ref (ad 13), .ref (ad 14), .ref (ad 15), .int 0, .int 0, .ref (ad 16), .int 0, .int 0, .int 0, .int 0, .int 0, .ref (ad 17), .ref (ad 18), .int 0, .ref (ad 19)]) := (hX 0 (by decide))
        refine xget E hQ 0 (by decide) c_9 rfl 1 (by decide) q1469 rfl dX12_row_41 ?_
        refine lv_iload_n hx hb dX12_row_44 rfl (lv_at hl 1 rfl) ?_
        refine lv_iload_n hx hb dX12_row_45 rfl (lv_at hl 2 rfl) ?_
        have c_10 : S2 1 = .inl (g.2 0, 4, .inl wdF) := (hX 1 (by decide))
        refine xiast E hs hQ 1 (by decide) c_10 (vp_in_lit 1 4 (by decide)) dX12_row_46 (fun H locs S11 e11 hQ => ?_)
        have u11 : S11 1 = .inl (g.2 0, 4, .inl (upd wdF (1 : Int32).toNatClampNeg a2)) := up_at e11 rfl
        refine lv_aload_n hx hb dX12_row_47 rfl (lv_at hl 0 rfl) ?_
        have c_12 : S11 0 = .inr (12, [.int 0, .ref (ad 1), .ref (ad 2), .ref (ad 3), .ref (ad 4), .ref (ad 5), .int 0, .int 0, .int 0, .int 0, .int 0, .long 0, .int 0, .int 0, .int 0, .int (-1), .ref (ad 6), .ref (ad 7), .ref (ad 8), .ref (ad 9), .ref (ad 10), .ref (ad 11), .ref (ad 12), .ref (ad 13), .ref (ad 14), .ref (ad 15), .int 0, .int 0, .ref (ad 16), .int 0, .int 0, .int 0, .int 0, .int 0, .ref (ad 17), .ref (ad 18), .int 0, .ref (ad 19)]) := (up_ne e11 (by decide) c_9)
        refine xget E hQ 0 (by decide) c_12 rfl 2 (by decide) q1470 rfl dX12_row_48 ?_
        refine lv_iload_n hx hb dX12_row_51 rfl (lv_at hl 1 rfl) ?_
        refine lv_iload_n hx hb dX12_row_52 rfl (lv_at hl 3 rfl) ?_
        have c_13 : S11 2 = .inl (g.2 0, 4, .inl zf) := (up_ne e11 (by decide) (hX 2 (by decide)))
        refine xiast E hs hQ 2 (by decide) c_13 (vp_in_lit 1 4 (by decide)) dX12_row_53 (fun H locs S14 e14 hQ => ?_)
        have u14 : S14 2 = .inl (g.2 0, 4, .inl (upd zf (1 : Int32).toNatClampNeg a3)) := up_at e14 rfl
        refine lv_iconst (v := 0) hx hb dX12_row_54 (by decide) ?_
        refine lv_istore (lv' := [(4, .int 0), (0, .ref (ad 0)), (1, .int 1), (2, .int a2), (3, .int a3)]) hx hb dX12_row_55 hl (by decide) rfl (fun ls hl => ?_)
        obtain ⟨nn, hnn, enn⟩ := nI_of2 (M := 60) (n := 60) (by decide) (Int32.not_lt.mpr k_8) k_7
        have c_15 : S14 0 = .inr (12, [.int 0, .ref (ad 1), .ref (ad 2), .ref (ad 3), .ref (ad 4), .ref (ad 5), .int 0, .int 0, .int 0, .int 0, .int 0, .long 0, .int 0, .int 0, .int 0, .int (-1), .ref (ad 6), .ref (ad 7), .ref (ad 8), .ref (ad 9), .ref (ad 10), .ref (ad 11), .ref (ad 12), .ref (ad 13), .ref (ad 14), .ref (ad 15), .int 0, .int 0, .ref (ad 16), .int 0, .int 0, .int 0, .int 0, .int 0, .ref (ad 17), .ref (ad 18), .int 0, .ref (ad 19)]) := (up_ne e14 (by decide) c_12)
        have c_16 : S14 3 = .inl (g.2 2, 240, .inr (.inl zfL)) := (up_ne e14 (by decide) (up_ne e11 (by decide) (hX 3 (by decide))))
        have loop : ∀ (q i : Nat) (S9 : SS) (H : Heap) (locs : List Loc) (ls : Array Slot), i ≤ nn → nn - i < q → S9 0 = .inr (12, [.int 0, .ref (ad 1), .ref (ad 2), .ref (ad 3), .ref (ad 4), .ref (ad 5), .int 0, .int 0, .int 0, .int 0, .int 0, .long 0, .int 0, .int 0, .int 0, .int (-1), .ref (ad 6), .ref (ad 7), .ref (ad 8), .ref (ad 9), .ref (ad 10), .ref (ad 11), .ref (ad 12), .ref (ad 13), .ref (ad 14), .ref (ad 15), .int 0, .int 0, .ref (ad 16), .int 0, .int 0, .int 0, .int 0, .int 0, .ref (ad 17), .ref (ad 18), .int 0, .ref (ad 19)]) → (∃ f : Nat → Int64, S9 3 = .inl (g.2 2, 240, .inr (.inl f))) → Hp g ad 20 S9 (FA ad 20) s.heap H locs → lv_has ls 5 [(0, .ref (ad 0)), (1, .int 1), (2, .int a2), (3, .int a3), (4, .int (nI i))] → W p l e (Rm 2) s m [.ref (ad 0), .int 1, .int a2, .int a3].toArray below meth c H locs 0 0 (MQ below (va_Qi (fun r _ => r = ansRow 1 a2 a3) (QB g ad 20) (FA ad 20)) [.ref (ad 0), .int 1, .int a2, .int a3].toArray s 0 0 (FA ad 20)) (F0 m 57 ls []) := by
          intro q
          induction q with
          | zero => intro i S9 H locs ls h1 h2; exact absurd h2 (by omega)
          | succ q ih =>
            intro i S9 H locs ls hi hq g0 g3 hQ hl
            obtain ⟨f9, g3⟩ := g3
            refine lv_iload hx hb dX12_row_57 (lv_at hl 4 rfl) ?_
            refine lv_iload_n hx hb dX12_row_59 rfl (lv_at hl 3 rfl) ?_
            refine lv_icmp_ge (tgt := 82) hx hb dX12_row_60 (by decide) (fun k_17 => ?_) (fun k_17 => ?_)
            · refine lv_iconst (v := 0) hx hb dX12_row_82 (by decide) ?_
              exact xri E hr hlk hQ (by try simp only [i32_lt, i32_le, i32_eq, i64_lt, i64_le, w64, l_0, l_1, l_2, l_3, l_4, l_60, l_m1, L_0, L_2, L_3, L_9] at i5; try simp only [i32_lt, i32_le, i32_eq, i64_lt, i64_le, w64, l_0, l_1, l_2, l_3, l_4, l_60, l_m1, L_0, L_2, L_3, L_9] at j5; try simp only [i32_lt, i32_le, i32_eq, i64_lt, i64_le, w64, l_0, l_1, l_2, l_3, l_4, l_60, l_m1, L_0, L_2, L_3, L_9] at k_7; try simp only [i32_lt, i32_le, i32_eq, i64_lt, i64_le, w64, l_0, l_1, l_2, l_3, l_4, l_60, l_m1, L_0, L_2, L_3, L_9] at k_8; try simp only [i32_lt, i32_le, i32_eq, i64_lt, i64_le, w64, l_0, l_1, l_2, l_3, l_4, l_60, l_m1, L_0, L_2, L_3, L_9] at k_17; unfold ansRow; try simp only [l_0, l_1, l_2, l_3]; (repeat' split) <;> first | rfl | omega) dX12_row_83
            · refine lv_aload_n hx hb dX12_row_63 rfl (lv_at hl 0 rfl) ?_
              refine xget E hQ 0 (by decide) g0 rfl 3 (by decide) q1471 rfl dX12_row_64 ?_
              refine lv_bipush (v := 60) hx hb dX12_row_67 (by decide) ?_
              refine lv_iload_n hx hb dX12_row_69 rfl (lv_at hl 1 rfl) ?_
              refine lv_imul hx hb dX12_row_70 ?_
              refine sb_at (P := fun z => W _ _ _ _ _ _ _ _ _ _ _ _ _ _ _ (F0 _ _ _ (.int z :: _))) (show (60 : Int32) * 1 = 60 by decide) ?_
              refine lv_iload hx hb dX12_row_71 (lv_at hl 4 rfl) ?_
              refine lv_iadd hx hb dX12_row_73 ?_
              refine sb_at (P := fun z => W _ _ _ _ _ _ _ _ _ _ _ _ _ _ _ (F0 _ _ _ (.int z :: _))) (nI_add 60 i) ?_
              refine lv_lconst (v := 0) hx hb dX12_row_74 (by decide) ?_
              refine xlast E hs hQ 3 (by decide) g3 (vp_in_nI (by have := ilt k_17 enn (by omega); omega) (by decide)) dX12_row_75 (fun H locs S18 e18 hQ => ?_)
              have u18 : S18 3 = .inl (g.2 2, 240, .inr (.inl (vp_updL f9 (nI (60 + i) : Int32).toNatClampNeg 0))) := up_at e18 rfl
              refine lv_iinc (v := nI (i + 1)) (lv' := [(4, .int (nI (i + 1))), (0, .ref (ad 0)), (1, .int 1), (2, .int a2), (3, .int a3)]) hx hb dX12_row_76 hl (k := 4) rfl (nI_1 i) (by decide) rfl (fun ls hl => ?_)
              refine lv_goto (tgt := 57) hx hb dX12_row_79 (by decide) ?_
              have c_19 : S18 0 = .inr (12, [.int 0, .ref (ad 1), .ref (ad 2), .ref (ad 3), .ref (ad 4), .ref (ad 5), .int 0, .int 0, .int 0, .int 0, .int 0, .long 0, .int 0, .int 0, .int 0, .int (-1), .ref (ad 6), .ref (ad 7), .ref (ad 8), .ref (ad 9), .ref (ad 10), .ref (ad 11), .ref (ad 12), .ref (ad 13), .ref (ad 14), .ref (ad 15), .int 0, .int 0, .ref (ad 16), .int 0, .int 0, .int 0, .int 0, .int 0, .ref (ad 17), .ref (ad 18), .int 0, .ref (ad 19)]) := (up_ne e18 (by decide) g0)
              exact ih (i + 1) _ _ _ _ (by have := ilt k_17 enn (by omega); omega) (by have := ilt k_17 enn (by omega); omega) c_19 ⟨_, u18⟩ hQ (lv_sub hl [1, 2, 3, 4, 0] rfl)
        exact loop (nn + 1) 0 _ _ _ _ (Nat.zero_le nn) (by omega) c_15 ⟨_, c_16⟩ hQ (lv_sub hl [1, 2, 3, 4, 0] rfl)
      · refine lv_bipush (v := (-3)) hx hb dX12_row_37 (by decide) ?_
        exact xri E hr hlk hQ (by try simp only [i32_lt, i32_le, i32_eq, i64_lt, i64_le, w64, l_0, l_1, l_2, l_3, l_4, l_60, l_m1, L_0, L_2, L_3, L_9] at i5; try simp only [i32_lt, i32_le, i32_eq, i64_lt, i64_le, w64, l_0, l_1, l_2, l_3, l_4, l_60, l_m1, L_0, L_2, L_3, L_9] at j5; try simp only [i32_lt, i32_le, i32_eq, i64_lt, i64_le, w64, l_0, l_1, l_2, l_3, l_4, l_60, l_m1, L_0, L_2, L_3, L_9] at k_7; try simp only [i32_lt, i32_le, i32_eq, i64_lt, i64_le, w64, l_0, l_1, l_2, l_3, l_4, l_60, l_m1, L_0, L_2, L_3, L_9] at k_8; unfold ansRow; try simp only [l_0, l_1, l_2, l_3]; (repeat' split) <;> first | rfl | omega) dX12_row_39
    · refine lv_bipush (v := (-2)) hx hb dX12_row_30 (by decide) ?_
      exact xri E hr hlk hQ (by try simp only [i32_lt, i32_le, i32_eq, i64_lt, i64_le, w64, l_0, l_1, l_2, l_3, l_4, l_60, l_m1, L_0, L_2, L_3, L_9] at i5; try simp only [i32_lt, i32_le, i32_eq, i64_lt, i64_le, w64, l_0, l_1, l_2, l_3, l_4, l_60, l_m1, L_0, L_2, L_3, L_9] at j5; try simp only [i32_lt, i32_le, i32_eq, i64_lt, i64_le, w64, l_0, l_1, l_2, l_3, l_4, l_60, l_m1, L_0, L_2, L_3, L_9] at k_7; unfold ansRow; try simp only [l_0, l_1, l_2, l_3]; (repeat' split) <;> first | rfl | omega) dX12_row_32
  · refine lv_if_eq (tgt := 30) hx hb dX12_row_21 (by decide) (fun k_20 => ?_) (fun k_20 => absurd k_20 (by decide))
    refine lv_bipush (v := (-2)) hx hb dX12_row_30 (by decide) ?_
    exact xri E hr hlk hQ (by try simp only [i32_lt, i32_le, i32_eq, i64_lt, i64_le, w64, l_0, l_1, l_2, l_3, l_4, l_60, l_m1, L_0, L_2, L_3, L_9] at i5; unfold ansRow; try simp only [l_0, l_1, l_2, l_3]; (repeat' split) <;> first | rfl | omega) dX12_row_32
set_option maxHeartbeats 4000000 in
set_option maxRecDepth 100000 in
theorem fX12_row_2 (l : Launch) (g : GG) (ad : Nat → Nat) (hD : Dj ad 20) (S : SS) (a2 : Int32) (a3 : Int32) (hX : ∀ i, i < 20 → S i = M0 g ad i) : Met l yX12_row (wG (.code yX12_row cX12_row 5 (some .int))) (Rm 2) (XPre g ad 20 S [.ref (ad 0), .int 2, .int a2, .int a3]) (va_Qi (fun r _ => r = ansRow 2 a2 a3) (QB g ad 20) (FA ad 20)) 0 0 (FA ad 20) := by
  refine xmet cX12_row "EbbWreckModel" (by decide) rfl (Nat.le_of_ble_eq_true rfl) (fun p e s m below meth c E hr hlk hml hQ ls hl => ?_)
  have hx := E.1
  have hb := E.2.1
  have hs : Sp ad 20 (FA ad 20) := Sp.fa hD
  have hl : lv_has ls 5 [(0, .ref (ad 0)), (1, .int 2), (2, .int a2), (3, .int a3)] := hl
  refine lv_aload_n hx hb dX12_row_0 rfl (lv_at hl 0 rfl) ?_
  refine lv_iconst (v := 0) hx hb dX12_row_1 (by decide) ?_
  have c_1 : S 0 = .inr (12, [.int 0, .ref (ad 1), .ref (ad 2), .ref (ad 3), .ref (ad 4), .ref (ad 5), .int 0, .int 0, .int 0, .int 0, .int 0, .long 0, .int 0, .int 0, .int 0, .int (-1), .ref (ad 6), .ref (ad 7), .ref (ad 8), .ref (ad 9), .ref (ad 10), .ref (ad 11), .ref (ad 12), .ref (ad 13), .ref (ad 14), .ref (ad 15), .int 0, .int 0, .ref (ad 16), .int 0, .int 0, .int 0, .int 0, .int 0, .ref (ad 17), .ref (ad 18), .int 0, .ref (ad 19)]) := (hX 0 (by decide))
  refine xputi E hs hQ 0 (by decide) c_1 rfl 0 (by decide) q1468 rfl rfl (Nat.le_of_ble_eq_true rfl) dX12_row_2 (fun H locs S2 e2 hQ => ?_)
  have hX : ∀ i, i < 20 → S2 i = M0 g ad i := same_up hX e2 rfl
  refine lv_iload_n hx hb dX12_row_5 rfl (lv_at hl 1 rfl) ?_
  refine xcSi E hs hQ hml hl.1 (uX12_isSlot l g ad _ hD S2 2) mX12_isSlot q1587 rfl ⟨by decide, by decide⟩ ⟨by decide, by decide⟩ (Nat.le_of_ble_eq_true rfl) rfl dX12_row_6 (fun r3 S3 H locs hp3 hQ => ?_)
  obtain ⟨rfl, hp3⟩ := hp3
  have hz3 : r3 = 1 := by
    rcases hp3 with ⟨h, _⟩ | ⟨_, h⟩
    · exact h
    · exact absurd h (by decide)
  subst hz3
  refine lv_if_eq (tgt := 30) hx hb dX12_row_9 (by decide) (fun k_4 => absurd k_4 (by decide)) (fun k_4 => ?_)
  refine lv_iload_n hx hb dX12_row_12 rfl (lv_at hl 2 rfl) ?_
  refine lv_i2l hx hb dX12_row_13 rfl ?_
  refine lv_lconst (v := 0) hx hb dX12_row_14 (by decide) ?_
  refine lv_ldc2 (v := 3) hx hb E.2.2.1 (E.2.2.2.1 _ q1590) dX12_row_15 ?_
  refine xcSi E hs hQ hml hl.1 (uX12_in l g ad _ hD S2 a2.toInt64 0 3) mX12_in q1591 rfl ⟨by decide, by decide⟩ ⟨by decide, by decide⟩ (Nat.le_of_ble_eq_true rfl) rfl dX12_row_18 (fun r5 S5 H locs hp5 hQ => ?_)
  obtain ⟨rfl, hp5⟩ := hp5
  rcases hp5 with ⟨rfl, i5, j5⟩ | ⟨rfl, i5⟩
  · refine lv_if_eq (tgt := 30) hx hb dX12_row_21 (by decide) (fun k_6 => absurd k_6 (by decide)) (fun k_6 => ?_)
    refine lv_iload_n hx hb dX12_row_24 rfl (lv_at hl 3 rfl) ?_
    refine lv_bipush (v := 60) hx hb dX12_row_25 (by decide) ?_
    refine lv_icmp_le (tgt := 33) hx hb dX12_row_27 (by decide) (fun k_7 => ?_) (fun k_7 => ?_)
    · refine lv_iload_n hx hb dX12_row_33 rfl (lv_at hl 3 rfl) ?_
      refine lv_if_ge (tgt := 40) hx hb dX12_row_34 (by decide) (fun k_8 => ?_) (fun k_8 => ?_)
      · refine lv_aload_n hx hb dX12_row_40 rfl (lv_at hl 0 rfl) ?_
        have c_9 : S2 0 = .inr (12, [.int 0, .ref (ad 1), .ref (ad 2), .ref (ad 3), .ref (ad 4), .ref (ad 5), .int 0, .int 0, .int 0, .int 0, .int 0, .long 0, .int 0, .int 0, .int 0, .int (-1), .ref (ad 6), .ref (ad 7), .ref (ad 8), .ref (ad 9), .ref (ad 10), .ref (ad 11), .ref (ad 12), .ref (ad 13), .ref (ad 14), .ref (ad 15), .int 0, .int 0, .ref (ad 16), .int 0, .int 0, .int 0, .int 0, .int 0, .ref (ad 17), .ref (ad 18), .int 0, .ref (ad 19)]) := (hX 0 (by decide))
        refine xget E hQ 0 (by decide) c_9 rfl 1 (by decide) q1469 rfl dX12_row_41 ?_
        refine lv_iload_n hx hb dX12_row_44 rfl (lv_at hl 1 rfl) ?_
        refine lv_iload_n hx hb dX12_row_45 rfl (lv_at hl 2 rfl) ?_
        have c_10 : S2 1 = .inl (g.2 0, 4, .inl wdF) := (hX 1 (by decide))
        refine xiast E hs hQ 1 (by decide) c_10 (vp_in_lit 2 4 (by decide)) dX12_row_46 (fun H locs S11 e11 hQ => ?_)
        have u11 : S11 1 = .inl (g.2 0, 4, .inl (upd wdF (2 : Int32).toNatClampNeg a2)) := up_at e11 rfl
        refine lv_aload_n hx hb dX12_row_47 rfl (lv_at hl 0 rfl) ?_
        have c_12 : S11 0 = .inr (12, [.int 0, .ref (ad 1), .ref (ad 2), .ref (ad 3), .ref (ad 4), .ref (ad 5), .int 0, .int 0, .int 0, .int 0, .int 0, .long 0, .int 0, .int 0, .int 0, .int (-1), .ref (ad 6), .ref (ad 7), .ref (ad 8), .ref (ad 9), .ref (ad 10), .ref (ad 11), .ref (ad 12), .ref (ad 13), .ref (ad 14), .ref (ad 15), .int 0, .int 0, .ref (ad 16), .int 0, .int 0, .int 0, .int 0, .int 0, .ref (ad 17), .ref (ad 18), .int 0, .ref (ad 19)]) := (up_ne e11 (by decide) c_9)
        refine xget E hQ 0 (by decide) c_12 rfl 2 (by decide) q1470 rfl dX12_row_48 ?_
        refine lv_iload_n hx hb dX12_row_51 rfl (lv_at hl 1 rfl) ?_
        refine lv_iload_n hx hb dX12_row_52 rfl (lv_at hl 3 rfl) ?_
        have c_13 : S11 2 = .inl (g.2 0, 4, .inl zf) := (up_ne e11 (by decide) (hX 2 (by decide)))
        refine xiast E hs hQ 2 (by decide) c_13 (vp_in_lit 2 4 (by decide)) dX12_row_53 (fun H locs S14 e14 hQ => ?_)
        have u14 : S14 2 = .inl (g.2 0, 4, .inl (upd zf (2 : Int32).toNatClampNeg a3)) := up_at e14 rfl
        refine lv_iconst (v := 0) hx hb dX12_row_54 (by decide) ?_
        refine lv_istore (lv' := [(4, .int 0), (0, .ref (ad 0)), (1, .int 2), (2, .int a2), (3, .int a3)]) hx hb dX12_row_55 hl (by decide) rfl (fun ls hl => ?_)
        obtain ⟨nn, hnn, enn⟩ := nI_of2 (M := 60) (n := 60) (by decide) (Int32.not_lt.mpr k_8) k_7
        have c_15 : S14 0 = .inr (12, [.int 0, .ref (ad 1), .ref (ad 2), .ref (ad 3), .ref (ad 4), .ref (ad 5), .int 0, .int 0, .int 0, .int 0, .int 0, .long 0, .int 0, .int 0, .int 0, .int (-1), .ref (ad 6), .ref (ad 7), .ref (ad 8), .ref (ad 9), .ref (ad 10), .ref (ad 11), .ref (ad 12), .ref (ad 13), .ref (ad 14), .ref (ad 15), .int 0, .int 0, .ref (ad 16), .int 0, .int 0, .int 0, .int 0, .int 0, .ref (ad 17), .ref (ad 18), .int 0, .ref (ad 19)]) := (up_ne e14 (by decide) c_12)
        have c_16 : S14 3 = .inl (g.2 2, 240, .inr (.inl zfL)) := (up_ne e14 (by decide) (up_ne e11 (by decide) (hX 3 (by decide))))
        have loop : ∀ (q i : Nat) (S9 : SS) (H : Heap) (locs : List Loc) (ls : Array Slot), i ≤ nn → nn - i < q → S9 0 = .inr (12, [.int 0, .ref (ad 1), .ref (ad 2), .ref (ad 3), .ref (ad 4), .ref (ad 5), .int 0, .int 0, .int 0, .int 0, .int 0, .long 0, .int 0, .int 0, .int 0, .int (-1), .ref (ad 6), .ref (ad 7), .ref (ad 8), .ref (ad 9), .ref (ad 10), .ref (ad 11), .ref (ad 12), .ref (ad 13), .ref (ad 14), .ref (ad 15), .int 0, .int 0, .ref (ad 16), .int 0, .int 0, .int 0, .int 0, .int 0, .ref (ad 17), .ref (ad 18), .int 0, .ref (ad 19)]) → (∃ f : Nat → Int64, S9 3 = .inl (g.2 2, 240, .inr (.inl f))) → Hp g ad 20 S9 (FA ad 20) s.heap H locs → lv_has ls 5 [(0, .ref (ad 0)), (1, .int 2), (2, .int a2), (3, .int a3), (4, .int (nI i))] → W p l e (Rm 2) s m [.ref (ad 0), .int 2, .int a2, .int a3].toArray below meth c H locs 0 0 (MQ below (va_Qi (fun r _ => r = ansRow 2 a2 a3) (QB g ad 20) (FA ad 20)) [.ref (ad 0), .int 2, .int a2, .int a3].toArray s 0 0 (FA ad 20)) (F0 m 57 ls []) := by
          intro q
          induction q with
          | zero => intro i S9 H locs ls h1 h2; exact absurd h2 (by omega)
          | succ q ih =>
            intro i S9 H locs ls hi hq g0 g3 hQ hl
            obtain ⟨f9, g3⟩ := g3
            refine lv_iload hx hb dX12_row_57 (lv_at hl 4 rfl) ?_
            refine lv_iload_n hx hb dX12_row_59 rfl (lv_at hl 3 rfl) ?_
            refine lv_icmp_ge (tgt := 82) hx hb dX12_row_60 (by decide) (fun k_17 => ?_) (fun k_17 => ?_)
            · refine lv_iconst (v := 0) hx hb dX12_row_82 (by decide) ?_
              exact xri E hr hlk hQ (by try simp only [i32_lt, i32_le, i32_eq, i64_lt, i64_le, w64, l_0, l_1, l_2, l_3, l_4, l_60, l_m1, L_0, L_2, L_3, L_9] at i5; try simp only [i32_lt, i32_le, i32_eq, i64_lt, i64_le, w64, l_0, l_1, l_2, l_3, l_4, l_60, l_m1, L_0, L_2, L_3, L_9] at j5; try simp only [i32_lt, i32_le, i32_eq, i64_lt, i64_le, w64, l_0, l_1, l_2, l_3, l_4, l_60, l_m1, L_0, L_2, L_3, L_9] at k_7; try simp only [i32_lt, i32_le, i32_eq, i64_lt, i64_le, w64, l_0, l_1, l_2, l_3, l_4, l_60, l_m1, L_0, L_2, L_3, L_9] at k_8; try simp only [i32_lt, i32_le, i32_eq, i64_lt, i64_le, w64, l_0, l_1, l_2, l_3, l_4, l_60, l_m1, L_0, L_2, L_3, L_9] at k_17; unfold ansRow; try simp only [l_0, l_1, l_2, l_3]; (repeat' split) <;> first | rfl | omega) dX12_row_83
            · refine lv_aload_n hx hb dX12_row_63 rfl (lv_at hl 0 rfl) ?_
              refine xget E hQ 0 (by decide) g0 rfl 3 (by decide) q1471 rfl dX12_row_64 ?_
              refine lv_bipush (v := 60) hx hb dX12_row_67 (by decide) ?_
              refine lv_iload_n hx hb dX12_row_69 rfl (lv_at hl 1 rfl) ?_
              refine lv_imul hx hb dX12_row_70 ?_
              refine sb_at (P := fun z => W _ _ _ _ _ _ _ _ _ _ _ _ _ _ _ (F0 _ _ _ (.int z :: _))) (show (60 : Int32) * 2 = 120 by decide) ?_
              refine lv_iload hx hb dX12_row_71 (lv_at hl 4 rfl) ?_
              refine lv_iadd hx hb dX12_row_73 ?_
              refine sb_at (P := fun z => W _ _ _ _ _ _ _ _ _ _ _ _ _ _ _ (F0 _ _ _ (.int z :: _))) (nI_add 120 i) ?_
              refine lv_lconst (v := 0) hx hb dX12_row_74 (by decide) ?_
              refine xlast E hs hQ 3 (by decide) g3 (vp_in_nI (by have := ilt k_17 enn (by omega); omega) (by decide)) dX12_row_75 (fun H locs S18 e18 hQ => ?_)
              have u18 : S18 3 = .inl (g.2 2, 240, .inr (.inl (vp_updL f9 (nI (120 + i) : Int32).toNatClampNeg 0))) := up_at e18 rfl
              refine lv_iinc (v := nI (i + 1)) (lv' := [(4, .int (nI (i + 1))), (0, .ref (ad 0)), (1, .int 2), (2, .int a2), (3, .int a3)]) hx hb dX12_row_76 hl (k := 4) rfl (nI_1 i) (by decide) rfl (fun ls hl => ?_)
              refine lv_goto (tgt := 57) hx hb dX12_row_79 (by decide) ?_
              have c_19 : S18 0 = .inr (12, [.int 0, .ref (ad 1), .ref (ad 2), .ref (ad 3), .ref (ad 4), .ref (ad 5), .int 0, .int 0, .int 0, .int 0, .int 0, .long 0, .int 0, .int 0, .int 0, .int (-1), .ref (ad 6), .ref (ad 7), .ref (ad 8), .ref (ad 9), .ref (ad 10), .ref (ad 11), .ref (ad 12), .ref (ad 13), .ref (ad 14), .ref (ad 15), .int 0, .int 0, .ref (ad 16), .int 0, .int 0, .int 0, .int 0, .int 0, .ref (ad 17), .ref (ad 18), .int 0, .ref (ad 19)]) := (up_ne e18 (by decide) g0)
              exact ih (i + 1) _ _ _ _ (by have := ilt k_17 enn (by omega); omega) (by have := ilt k_17 enn (by omega); omega) c_19 ⟨_, u18⟩ hQ (lv_sub hl [1, 2, 3, 4, 0] rfl)
        exact loop (nn + 1) 0 _ _ _ _ (Nat.zero_le nn) (by omega) c_15 ⟨_, c_16⟩ hQ (lv_sub hl [1, 2, 3, 4, 0] rfl)
      · refine lv_bipush (v := (-3)) hx hb dX12_row_37 (by decide) ?_
        exact xri E hr hlk hQ (by try simp only [i32_lt, i32_le, i32_eq, i64_lt, i64_le, w64, l_0, l_1, l_2, l_3, l_4, l_60, l_m1, L_0, L_2, L_3, L_9] at i5; try simp only [i32_lt, i32_le, i32_eq, i64_lt, i64_le, w64, l_0, l_1, l_2, l_3, l_4, l_60, l_m1, L_0, L_2, L_3, L_9] at j5; try simp only [i32_lt, i32_le, i32_eq, i64_lt, i64_le, w64, l_0, l_1, l_2, l_3, l_4, l_60, l_m1, L_0, L_2, L_3, L_9] at k_7; try simp only [i32_lt, i32_le, i32_eq, i64_lt, i64_le, w64, l_0, l_1, l_2, l_3, l_4, l_60, l_m1, L_0, L_2, L_3, L_9] at k_8; unfold ansRow; try simp only [l_0, l_1, l_2, l_3]; (repeat' split) <;> first | rfl | omega) dX12_row_39
    · refine lv_bipush (v := (-2)) hx hb dX12_row_30 (by decide) ?_
      exact xri E hr hlk hQ (by try simp only [i32_lt, i32_le, i32_eq, i64_lt, i64_le, w64, l_0, l_1, l_2, l_3, l_4, l_60, l_m1, L_0, L_2, L_3, L_9] at i5; try simp only [i32_lt, i32_le, i32_eq, i64_lt, i64_le, w64, l_0, l_1, l_2, l_3, l_4, l_60, l_m1, L_0, L_2, L_3, L_9] at j5; try simp only [i32_lt, i32_le, i32_eq, i64_lt, i64_le, w64, l_0, l_1, l_2, l_3, l_4, l_60, l_m1, L_0, L_2, L_3, L_9] at k_7; unfold ansRow; try simp only [l_0, l_1, l_2, l_3]; (repeat' split) <;> first | rfl | omega) dX12_row_32
  · refine lv_if_eq (tgt := 30) hx hb dX12_row_21 (by decide) (fun k_20 => ?_) (fun k_20 => absurd k_20 (by decide))
    refine lv_bipush (v := (-2)) hx hb dX12_row_30 (by decide) ?_
    exact xri E hr hlk hQ (by try simp only [i32_lt, i32_le, i32_eq, i64_lt, i64_le, w64, l_0, l_1, l_2, l_3, l_4, l_60, l_m1, L_0, L_2, L_3, L_9] at i5; unfold ansRow; try simp only [l_0, l_1, l_2, l_3]; (repeat' split) <;> first | rfl | omega) dX12_row_32
set_option maxHeartbeats 4000000 in
set_option maxRecDepth 100000 in
theorem fX12_row_3 (l : Launch) (g : GG) (ad : Nat → Nat) (hD : Dj ad 20) (S : SS) (a2 : Int32) (a3 : Int32) (hX : ∀ i, i < 20 → S i = M0 g ad i) : Met l yX12_row (wG (.code yX12_row cX12_row 5 (some .int))) (Rm 2) (XPre g ad 20 S [.ref (ad 0), .int 3, .int a2, .int a3]) (va_Qi (fun r _ => r = ansRow 3 a2 a3) (QB g ad 20) (FA ad 20)) 0 0 (FA ad 20) := by
  refine xmet cX12_row "EbbWreckModel" (by decide) rfl (Nat.le_of_ble_eq_true rfl) (fun p e s m below meth c E hr hlk hml hQ ls hl => ?_)
  have hx := E.1
  have hb := E.2.1
  have hs : Sp ad 20 (FA ad 20) := Sp.fa hD
  have hl : lv_has ls 5 [(0, .ref (ad 0)), (1, .int 3), (2, .int a2), (3, .int a3)] := hl
  refine lv_aload_n hx hb dX12_row_0 rfl (lv_at hl 0 rfl) ?_
  refine lv_iconst (v := 0) hx hb dX12_row_1 (by decide) ?_
  have c_1 : S 0 = .inr (12, [.int 0, .ref (ad 1), .ref (ad 2), .ref (ad 3), .ref (ad 4), .ref (ad 5), .int 0, .int 0, .int 0, .int 0, .int 0, .long 0, .int 0, .int 0, .int 0, .int (-1), .ref (ad 6), .ref (ad 7), .ref (ad 8), .ref (ad 9), .ref (ad 10), .ref (ad 11), .ref (ad 12), .ref (ad 13), .ref (ad 14), .ref (ad 15), .int 0, .int 0, .ref (ad 16), .int 0, .int 0, .int 0, .int 0, .int 0, .ref (ad 17), .ref (ad 18), .int 0, .ref (ad 19)]) := (hX 0 (by decide))
  refine xputi E hs hQ 0 (by decide) c_1 rfl 0 (by decide) q1468 rfl rfl (Nat.le_of_ble_eq_true rfl) dX12_row_2 (fun H locs S2 e2 hQ => ?_)
  have hX : ∀ i, i < 20 → S2 i = M0 g ad i := same_up hX e2 rfl
  refine lv_iload_n hx hb dX12_row_5 rfl (lv_at hl 1 rfl) ?_
  refine xcSi E hs hQ hml hl.1 (uX12_isSlot l g ad _ hD S2 3) mX12_isSlot q1587 rfl ⟨by decide, by decide⟩ ⟨by decide, by decide⟩ (Nat.le_of_ble_eq_true rfl) rfl dX12_row_6 (fun r3 S3 H locs hp3 hQ => ?_)
  obtain ⟨rfl, hp3⟩ := hp3
  have hz3 : r3 = 1 := by
    rcases hp3 with ⟨h, _⟩ | ⟨_, h⟩
    · exact h
    · exact absurd h (by decide)
  subst hz3
  refine lv_if_eq (tgt := 30) hx hb dX12_row_9 (by decide) (fun k_4 => absurd k_4 (by decide)) (fun k_4 => ?_)
  refine lv_iload_n hx hb dX12_row_12 rfl (lv_at hl 2 rfl) ?_
  refine lv_i2l hx hb dX12_row_13 rfl ?_
  refine lv_lconst (v := 0) hx hb dX12_row_14 (by decide) ?_
  refine lv_ldc2 (v := 3) hx hb E.2.2.1 (E.2.2.2.1 _ q1590) dX12_row_15 ?_
  refine xcSi E hs hQ hml hl.1 (uX12_in l g ad _ hD S2 a2.toInt64 0 3) mX12_in q1591 rfl ⟨by decide, by decide⟩ ⟨by decide, by decide⟩ (Nat.le_of_ble_eq_true rfl) rfl dX12_row_18 (fun r5 S5 H locs hp5 hQ => ?_)
  obtain ⟨rfl, hp5⟩ := hp5
  rcases hp5 with ⟨rfl, i5, j5⟩ | ⟨rfl, i5⟩
  · refine lv_if_eq (tgt := 30) hx hb dX12_row_21 (by decide) (fun k_6 => absurd k_6 (by decide)) (fun k_6 => ?_)
    refine lv_iload_n hx hb dX12_row_24 rfl (lv_at hl 3 rfl) ?_
    refine lv_bipush (v := 60) hx hb dX12_row_25 (by decide) ?_
    refine lv_icmp_le (tgt := 33) hx hb dX12_row_27 (by decide) (fun k_7 => ?_) (fun k_7 => ?_)
    · refine lv_iload_n hx hb dX12_row_33 rfl (lv_at hl 3 rfl) ?_
      refine lv_if_ge (tgt := 40) hx hb dX12_row_34 (by decide) (fun k_8 => ?_) (fun k_8 => ?_)
      · refine lv_aload_n hx hb dX12_row_40 rfl (lv_at hl 0 rfl) ?_
        have c_9 : S2 0 = .inr (12, [.int 0, .ref (ad 1), .ref (ad 2), .ref (ad 3), .ref (ad 4), .ref (ad 5), .int 0, .int 0, .int 0, .int 0, .int 0, .long 0, .int 0, .int 0, .int 0, .int (-1), .ref (ad 6), .ref (ad 7), .ref (ad 8), .ref (ad 9), .ref (ad 10), .ref (ad 11), .ref (ad 12), .ref (ad 13), .ref (ad 14), .ref (ad 15), .int 0, .int 0, .ref (ad 16), .int 0, .int 0, .int 0, .int 0, .int 0, .ref (ad 17), .ref (ad 18), .int 0, .ref (ad 19)]) := (hX 0 (by decide))
        refine xget E hQ 0 (by decide) c_9 rfl 1 (by decide) q1469 rfl dX12_row_41 ?_
        refine lv_iload_n hx hb dX12_row_44 rfl (lv_at hl 1 rfl) ?_
        refine lv_iload_n hx hb dX12_row_45 rfl (lv_at hl 2 rfl) ?_
        have c_10 : S2 1 = .inl (g.2 0, 4, .inl wdF) := (hX 1 (by decide))
        refine xiast E hs hQ 1 (by decide) c_10 (vp_in_lit 3 4 (by decide)) dX12_row_46 (fun H locs S11 e11 hQ => ?_)
        have u11 : S11 1 = .inl (g.2 0, 4, .inl (upd wdF (3 : Int32).toNatClampNeg a2)) := up_at e11 rfl
        refine lv_aload_n hx hb dX12_row_47 rfl (lv_at hl 0 rfl) ?_
        have c_12 : S11 0 = .inr (12, [.int 0, .ref (ad 1), .ref (ad 2), .ref (ad 3), .ref (ad 4), .ref (ad 5), .int 0, .int 0, .int 0, .int 0, .int 0, .long 0, .int 0, .int 0, .int 0, .int (-1), .ref (ad 6), .ref (ad 7), .ref (ad 8), .ref (ad 9), .ref (ad 10), .ref (ad 11), .ref (ad 12), .ref (ad 13), .ref (ad 14), .ref (ad 15), .int 0, .int 0, .ref (ad 16), .int 0, .int 0, .int 0, .int 0, .int 0, .ref (ad 17), .ref (ad 18), .int 0, .ref (ad 19)]) := (up_ne e11 (by decide) c_9)
        refine xget E hQ 0 (by decide) c_12 rfl 2 (by decide) q1470 rfl dX12_row_48 ?_
        refine lv_iload_n hx hb dX12_row_51 rfl (lv_at hl 1 rfl) ?_
        refine lv_iload_n hx hb dX12_row_52 rfl (lv_at hl 3 rfl) ?_
        have c_13 : S11 2 = .inl (g.2 0, 4, .inl zf) := (up_ne e11 (by decide) (hX 2 (by decide)))
        refine xiast E hs hQ 2 (by decide) c_13 (vp_in_lit 3 4 (by decide)) dX12_row_53 (fun H locs S14 e14 hQ => ?_)
        have u14 : S14 2 = .inl (g.2 0, 4, .inl (upd zf (3 : Int32).toNatClampNeg a3)) := up_at e14 rfl
        refine lv_iconst (v := 0) hx hb dX12_row_54 (by decide) ?_
        refine lv_istore (lv' := [(4, .int 0), (0, .ref (ad 0)), (1, .int 3), (2, .int a2), (3, .int a3)]) hx hb dX12_row_55 hl (by decide) rfl (fun ls hl => ?_)
        obtain ⟨nn, hnn, enn⟩ := nI_of2 (M := 60) (n := 60) (by decide) (Int32.not_lt.mpr k_8) k_7
        have c_15 : S14 0 = .inr (12, [.int 0, .ref (ad 1), .ref (ad 2), .ref (ad 3), .ref (ad 4), .ref (ad 5), .int 0, .int 0, .int 0, .int 0, .int 0, .long 0, .int 0, .int 0, .int 0, .int (-1), .ref (ad 6), .ref (ad 7), .ref (ad 8), .ref (ad 9), .ref (ad 10), .ref (ad 11), .ref (ad 12), .ref (ad 13), .ref (ad 14), .ref (ad 15), .int 0, .int 0, .ref (ad 16), .int 0, .int 0, .int 0, .int 0, .int 0, .ref (ad 17), .ref (ad 18), .int 0, .ref (ad 19)]) := (up_ne e14 (by decide) c_12)
        have c_16 : S14 3 = .inl (g.2 2, 240, .inr (.inl zfL)) := (up_ne e14 (by decide) (up_ne e11 (by decide) (hX 3 (by decide))))
        have loop : ∀ (q i : Nat) (S9 : SS) (H : Heap) (locs : List Loc) (ls : Array Slot), i ≤ nn → nn - i < q → S9 0 = .inr (12, [.int 0, .ref (ad 1), .ref (ad 2), .ref (ad 3), .ref (ad 4), .ref (ad 5), .int 0, .int 0, .int 0, .int 0, .int 0, .long 0, .int 0, .int 0, .int 0, .int (-1), .ref (ad 6), .ref (ad 7), .ref (ad 8), .ref (ad 9), .ref (ad 10), .ref (ad 11), .ref (ad 12), .ref (ad 13), .ref (ad 14), .ref (ad 15), .int 0, .int 0, .ref (ad 16), .int 0, .int 0, .int 0, .int 0, .int 0, .ref (ad 17), .ref (ad 18), .int 0, .ref (ad 19)]) → (∃ f : Nat → Int64, S9 3 = .inl (g.2 2, 240, .inr (.inl f))) → Hp g ad 20 S9 (FA ad 20) s.heap H locs → lv_has ls 5 [(0, .ref (ad 0)), (1, .int 3), (2, .int a2), (3, .int a3), (4, .int (nI i))] → W p l e (Rm 2) s m [.ref (ad 0), .int 3, .int a2, .int a3].toArray below meth c H locs 0 0 (MQ below (va_Qi (fun r _ => r = ansRow 3 a2 a3) (QB g ad 20) (FA ad 20)) [.ref (ad 0), .int 3, .int a2, .int a3].toArray s 0 0 (FA ad 20)) (F0 m 57 ls []) := by
          intro q
          induction q with
          | zero => intro i S9 H locs ls h1 h2; exact absurd h2 (by omega)
          | succ q ih =>
            intro i S9 H locs ls hi hq g0 g3 hQ hl
            obtain ⟨f9, g3⟩ := g3
            refine lv_iload hx hb dX12_row_57 (lv_at hl 4 rfl) ?_
            refine lv_iload_n hx hb dX12_row_59 rfl (lv_at hl 3 rfl) ?_
            refine lv_icmp_ge (tgt := 82) hx hb dX12_row_60 (by decide) (fun k_17 => ?_) (fun k_17 => ?_)
            · refine lv_iconst (v := 0) hx hb dX12_row_82 (by decide) ?_
              exact xri E hr hlk hQ (by try simp only [i32_lt, i32_le, i32_eq, i64_lt, i64_le, w64, l_0, l_1, l_2, l_3, l_4, l_60, l_m1, L_0, L_2, L_3, L_9] at i5; try simp only [i32_lt, i32_le, i32_eq, i64_lt, i64_le, w64, l_0, l_1, l_2, l_3, l_4, l_60, l_m1, L_0, L_2, L_3, L_9] at j5; try simp only [i32_lt, i32_le, i32_eq, i64_lt, i64_le, w64, l_0, l_1, l_2, l_3, l_4, l_60, l_m1, L_0, L_2, L_3, L_9] at k_7; try simp only [i32_lt, i32_le, i32_eq, i64_lt, i64_le, w64, l_0, l_1, l_2, l_3, l_4, l_60, l_m1, L_0, L_2, L_3, L_9] at k_8; try simp only [i32_lt, i32_le, i32_eq, i64_lt, i64_le, w64, l_0, l_1, l_2, l_3, l_4, l_60, l_m1, L_0, L_2, L_3, L_9] at k_17; unfold ansRow; try simp only [l_0, l_1, l_2, l_3]; (repeat' split) <;> first | rfl | omega) dX12_row_83
            · refine lv_aload_n hx hb dX12_row_63 rfl (lv_at hl 0 rfl) ?_
              refine xget E hQ 0 (by decide) g0 rfl 3 (by decide) q1471 rfl dX12_row_64 ?_
              refine lv_bipush (v := 60) hx hb dX12_row_67 (by decide) ?_
              refine lv_iload_n hx hb dX12_row_69 rfl (lv_at hl 1 rfl) ?_
              refine lv_imul hx hb dX12_row_70 ?_
              refine sb_at (P := fun z => W _ _ _ _ _ _ _ _ _ _ _ _ _ _ _ (F0 _ _ _ (.int z :: _))) (show (60 : Int32) * 3 = 180 by decide) ?_
              refine lv_iload hx hb dX12_row_71 (lv_at hl 4 rfl) ?_
              refine lv_iadd hx hb dX12_row_73 ?_
              refine sb_at (P := fun z => W _ _ _ _ _ _ _ _ _ _ _ _ _ _ _ (F0 _ _ _ (.int z :: _))) (nI_add 180 i) ?_
              refine lv_lconst (v := 0) hx hb dX12_row_74 (by decide) ?_
              refine xlast E hs hQ 3 (by decide) g3 (vp_in_nI (by have := ilt k_17 enn (by omega); omega) (by decide)) dX12_row_75 (fun H locs S18 e18 hQ => ?_)
              have u18 : S18 3 = .inl (g.2 2, 240, .inr (.inl (vp_updL f9 (nI (180 + i) : Int32).toNatClampNeg 0))) := up_at e18 rfl
              refine lv_iinc (v := nI (i + 1)) (lv' := [(4, .int (nI (i + 1))), (0, .ref (ad 0)), (1, .int 3), (2, .int a2), (3, .int a3)]) hx hb dX12_row_76 hl (k := 4) rfl (nI_1 i) (by decide) rfl (fun ls hl => ?_)
              refine lv_goto (tgt := 57) hx hb dX12_row_79 (by decide) ?_
              have c_19 : S18 0 = .inr (12, [.int 0, .ref (ad 1), .ref (ad 2), .ref (ad 3), .ref (ad 4), .ref (ad 5), .int 0, .int 0, .int 0, .int 0, .int 0, .long 0, .int 0, .int 0, .int 0, .int (-1), .ref (ad 6), .ref (ad 7), .ref (ad 8), .ref (ad 9), .ref (ad 10), .ref (ad 11), .ref (ad 12), .ref (ad 13), .ref (ad 14), .ref (ad 15), .int 0, .int 0, .ref (ad 16), .int 0, .int 0, .int 0, .int 0, .int 0, .ref (ad 17), .ref (ad 18), .int 0, .ref (ad 19)]) := (up_ne e18 (by decide) g0)
              exact ih (i + 1) _ _ _ _ (by have := ilt k_17 enn (by omega); omega) (by have := ilt k_17 enn (by omega); omega) c_19 ⟨_, u18⟩ hQ (lv_sub hl [1, 2, 3, 4, 0] rfl)
        exact loop (nn + 1) 0 _ _ _ _ (Nat.zero_le nn) (by omega) c_15 ⟨_, c_16⟩ hQ (lv_sub hl [1, 2, 3, 4, 0] rfl)
      · refine lv_bipush (v := (-3)) hx hb dX12_row_37 (by decide) ?_
        exact xri E hr hlk hQ (by try simp only [i32_lt, i32_le, i32_eq, i64_lt, i64_le, w64, l_0, l_1, l_2, l_3, l_4, l_60, l_m1, L_0, L_2, L_3, L_9] at i5; try simp only [i32_lt, i32_le, i32_eq, i64_lt, i64_le, w64, l_0, l_1, l_2, l_3, l_4, l_60, l_m1, L_0, L_2, L_3, L_9] at j5; try simp only [i32_lt, i32_le, i32_eq, i64_lt, i64_le, w64, l_0, l_1, l_2, l_3, l_4, l_60, l_m1, L_0, L_2, L_3, L_9] at k_7; try simp only [i32_lt, i32_le, i32_eq, i64_lt, i64_le, w64, l_0, l_1, l_2, l_3, l_4, l_60, l_m1, L_0, L_2, L_3, L_9] at k_8; unfold ansRow; try simp only [l_0, l_1, l_2, l_3]; (repeat' split) <;> first | rfl | omega) dX12_row_39
    · refine lv_bipush (v := (-2)) hx hb dX12_row_30 (by decide) ?_
      exact xri E hr hlk hQ (by try simp only [i32_lt, i32_le, i32_eq, i64_lt, i64_le, w64, l_0, l_1, l_2, l_3, l_4, l_60, l_m1, L_0, L_2, L_3, L_9] at i5; try simp only [i32_lt, i32_le, i32_eq, i64_lt, i64_le, w64, l_0, l_1, l_2, l_3, l_4, l_60, l_m1, L_0, L_2, L_3, L_9] at j5; try simp only [i32_lt, i32_le, i32_eq, i64_lt, i64_le, w64, l_0, l_1, l_2, l_3, l_4, l_60, l_m1, L_0, L_2, L_3, L_9] at k_7; unfold ansRow; try simp only [l_0, l_1, l_2, l_3]; (repeat' split) <;> first | rfl | omega) dX12_row_32
  · refine lv_if_eq (tgt := 30) hx hb dX12_row_21 (by decide) (fun k_20 => ?_) (fun k_20 => absurd k_20 (by decide))
    refine lv_bipush (v := (-2)) hx hb dX12_row_30 (by decide) ?_
    exact xri E hr hlk hQ (by try simp only [i32_lt, i32_le, i32_eq, i64_lt, i64_le, w64, l_0, l_1, l_2, l_3, l_4, l_60, l_m1, L_0, L_2, L_3, L_9] at i5; unfold ansRow; try simp only [l_0, l_1, l_2, l_3]; (repeat' split) <;> first | rfl | omega) dX12_row_32
set_option maxHeartbeats 4000000 in
set_option maxRecDepth 100000 in
theorem fX12_row_o (l : Launch) (g : GG) (ad : Nat → Nat) (hD : Dj ad 20) (S : SS) (a1 : Int32) (a2 : Int32) (a3 : Int32) (ho : a1 < 0 ∨ 4 ≤ a1) (hX : ∀ i, i < 20 → S i = M0 g ad i) : Met l yX12_row (wG (.code yX12_row cX12_row 5 (some .int))) (Rm 2) (XPre g ad 20 S [.ref (ad 0), .int a1, .int a2, .int a3]) (va_Qi (fun r _ => r = ansRow a1 a2 a3) (QB g ad 20) (FA ad 20)) 0 0 (FA ad 20) := by
  refine xmet cX12_row "EbbWreckModel" (by decide) rfl (Nat.le_of_ble_eq_true rfl) (fun p e s m below meth c E hr hlk hml hQ ls hl => ?_)
  have hx := E.1
  have hb := E.2.1
  have hs : Sp ad 20 (FA ad 20) := Sp.fa hD
  have hl : lv_has ls 5 [(0, .ref (ad 0)), (1, .int a1), (2, .int a2), (3, .int a3)] := hl
  refine lv_aload_n hx hb dX12_row_0 rfl (lv_at hl 0 rfl) ?_
  refine lv_iconst (v := 0) hx hb dX12_row_1 (by decide) ?_
  have c_1 : S 0 = .inr (12, [.int 0, .ref (ad 1), .ref (ad 2), .ref (ad 3), .ref (ad 4), .ref (ad 5), .int 0, .int 0, .int 0, .int 0, .int 0, .long 0, .int 0, .int 0, .int 0, .int (-1), .ref (ad 6), .ref (ad 7), .ref (ad 8), .ref (ad 9), .ref (ad 10), .ref (ad 11), .ref (ad 12), .ref (ad 13), .ref (ad 14), .ref (ad 15), .int 0, .int 0, .ref (ad 16), .int 0, .int 0, .int 0, .int 0, .int 0, .ref (ad 17), .ref (ad 18), .int 0, .ref (ad 19)]) := (hX 0 (by decide))
  refine xputi E hs hQ 0 (by decide) c_1 rfl 0 (by decide) q1468 rfl rfl (Nat.le_of_ble_eq_true rfl) dX12_row_2 (fun H locs S2 e2 hQ => ?_)
  have hX : ∀ i, i < 20 → S2 i = M0 g ad i := same_up hX e2 rfl
  refine lv_iload_n hx hb dX12_row_5 rfl (lv_at hl 1 rfl) ?_
  refine xcSi E hs hQ hml hl.1 (uX12_isSlot l g ad _ hD S2 a1) mX12_isSlot q1587 rfl ⟨by decide, by decide⟩ ⟨by decide, by decide⟩ (Nat.le_of_ble_eq_true rfl) rfl dX12_row_6 (fun r3 S3 H locs hp3 hQ => ?_)
  obtain ⟨rfl, hp3⟩ := hp3
  have hz3 : r3 = 0 := by
    rcases hp3 with ⟨_, h1, h2⟩ | ⟨h, _⟩
    · exact absurd ho (fun h => h.elim h1 h2)
    · exact h
  subst hz3
  refine lv_if_eq (tgt := 30) hx hb dX12_row_9 (by decide) (fun k_4 => ?_) (fun k_4 => absurd k_4 (by decide))
  refine lv_bipush (v := (-2)) hx hb dX12_row_30 (by decide) ?_
  exact xri E hr hlk hQ (by try simp only [i32_lt, i32_le, i32_eq, i64_lt, i64_le, w64, l_0, l_1, l_2, l_3, l_4, l_60, l_m1, L_0, L_2, L_3, L_9] at ho; unfold ansRow; (repeat' split) <;> first | rfl | omega) dX12_row_32
set_option maxHeartbeats 4000000 in
set_option maxRecDepth 100000 in
theorem copyShore_0_1 (l : Launch) (g : GG) (ad : Nat → Nat) (hD : Dj ad 20) (S : SS) (f6 : Nat → Int32) (f7 : Nat → Int32) (f8 : Nat → Int32) (f9 : Nat → Int32) (f10 : Nat → Int32) (f11 : Nat → Int32) (f12 : Nat → Int32) (h0 : S 0 = .inr (12, [.int 0, .ref (ad 1), .ref (ad 2), .ref (ad 3), .ref (ad 4), .ref (ad 5), .int 0, .int 0, .int 0, .int 0, .int 0, .long 0, .int 0, .int 0, .int 0, .int (-1), .ref (ad 6), .ref (ad 7), .ref (ad 8), .ref (ad 9), .ref (ad 10), .ref (ad 11), .ref (ad 12), .ref (ad 13), .ref (ad 14), .ref (ad 15), .int 0, .int 0, .ref (ad 16), .int 0, .int 0, .int 0, .int 0, .int 0, .ref (ad 17), .ref (ad 18), .int 0, .ref (ad 19)])) (h6 : S 6 = .inl (g.2 0, 5, .inl f6)) (h7 : S 7 = .inl (g.2 0, 50, .inl f7)) (h8 : S 8 = .inl (g.2 0, 120, .inl f8)) (h9 : S 9 = .inl (g.2 0, 120, .inl f9)) (h10 : S 10 = .inl (g.2 0, 120, .inl f10)) (h11 : S 11 = .inl (g.2 0, 15, .inl f11)) (h12 : S 12 = .inl (g.2 0, 800, .inl f12)) : Met l yX12_copyShore (wG (.code yX12_copyShore cX12_copyShore 3 none)) (Rm 1) (XPre g ad 20 S [.ref (ad 0), .int 0, .int 1]) (va_Qv (fun S' => (∀ j, j ∉ ([6, 7, 8, 9, 10, 11, 12] : List Nat) → S' j = S j) ∧ (∃ f : Nat → Int32, S' 6 = .inl (g.2 0, 5, .inl f)) ∧ (∃ f : Nat → Int32, S' 7 = .inl (g.2 0, 50, .inl f)) ∧ (∃ f : Nat → Int32, S' 8 = .inl (g.2 0, 120, .inl f)) ∧ (∃ f : Nat → Int32, S' 9 = .inl (g.2 0, 120, .inl f)) ∧ (∃ f : Nat → Int32, S' 10 = .inl (g.2 0, 120, .inl f)) ∧ (∃ f : Nat → Int32, S' 11 = .inl (g.2 0, 15, .inl f)) ∧ (∃ f : Nat → Int32, S' 12 = .inl (g.2 0, 800, .inl f))) (QB g ad 20) (FA ad 20)) 0 0 (FA ad 20) := by
  refine xmet cX12_copyShore "EbbWreckModel" (by decide) rfl (Nat.le_of_ble_eq_true rfl) (fun p e s m below meth c E hr hlk hml hQ ls hl => ?_)
  have hx := E.1
  have hb := E.2.1
  have hs : Sp ad 20 (FA ad 20) := Sp.fa hD
  have hl : lv_has ls 3 [(0, .ref (ad 0)), (1, .int 0), (2, .int 1)] := hl
  refine lv_aload_n hx hb dX12_copyShore_0 rfl (lv_at hl 0 rfl) ?_
  refine xget E hQ 0 (by decide) h0 rfl 16 (by decide) q1484 rfl dX12_copyShore_1 ?_
  refine lv_iconst (v := 1) hx hb dX12_copyShore_4 (by decide) ?_
  refine lv_iload_n hx hb dX12_copyShore_5 rfl (lv_at hl 1 rfl) ?_
  refine lv_iload_n hx hb dX12_copyShore_6 rfl (lv_at hl 2 rfl) ?_
  refine xcSv E hs hQ hml hl.1 (uCopyRow l g ad _ hD S 6 (by decide) 5 (by decide) f6 1 0 1 (by decide) (by decide) (by decide) h6) mX12_copyRow q1743 rfl ⟨by decide, by decide⟩ ⟨by decide, by decide⟩ (Nat.le_of_ble_eq_true rfl) rfl dX12_copyShore_7 (fun S1 H locs hp1 hQ => ?_)
  have e1 := hp1
  have u1 : S1 6 = .inl (g.2 0, 5, .inl (cpF f6 1 0 1 1)) := up_at e1 rfl
  refine lv_aload_n hx hb dX12_copyShore_10 rfl (lv_at hl 0 rfl) ?_
  have c_2 : S1 0 = .inr (12, [.int 0, .ref (ad 1), .ref (ad 2), .ref (ad 3), .ref (ad 4), .ref (ad 5), .int 0, .int 0, .int 0, .int 0, .int 0, .long 0, .int 0, .int 0, .int 0, .int (-1), .ref (ad 6), .ref (ad 7), .ref (ad 8), .ref (ad 9), .ref (ad 10), .ref (ad 11), .ref (ad 12), .ref (ad 13), .ref (ad 14), .ref (ad 15), .int 0, .int 0, .ref (ad 16), .int 0, .int 0, .int 0, .int 0, .int 0, .ref (ad 17), .ref (ad 18), .int 0, .ref (ad 19)]) := (up_ne e1 (by decide) h0)
  refine xget E hQ 0 (by decide) c_2 rfl 17 (by decide) q1485 rfl dX12_copyShore_11 ?_
  refine lv_bipush (v := 10) hx hb dX12_copyShore_14 (by decide) ?_
  refine lv_iload_n hx hb dX12_copyShore_16 rfl (lv_at hl 1 rfl) ?_
  refine lv_iload_n hx hb dX12_copyShore_17 rfl (lv_at hl 2 rfl) ?_
  have c_3 : S1 7 = .inl (g.2 0, 50, .inl f7) := (up_ne e1 (by decide) h7)
  refine xcSv E hs hQ hml hl.1 (uCopyRow l g ad _ hD S1 7 (by decide) 50 (by decide) f7 10 0 1 (by decide) (by decide) (by decide) c_3) mX12_copyRow q1743 rfl ⟨by decide, by decide⟩ ⟨by decide, by decide⟩ (Nat.le_of_ble_eq_true rfl) rfl dX12_copyShore_18 (fun S4 H locs hp4 hQ => ?_)
  have e4 := hp4
  have u4 : S4 7 = .inl (g.2 0, 50, .inl (cpF f7 10 0 1 10)) := up_at e4 rfl
  refine lv_aload_n hx hb dX12_copyShore_21 rfl (lv_at hl 0 rfl) ?_
  have c_5 : S4 0 = .inr (12, [.int 0, .ref (ad 1), .ref (ad 2), .ref (ad 3), .ref (ad 4), .ref (ad 5), .int 0, .int 0, .int 0, .int 0, .int 0, .long 0, .int 0, .int 0, .int 0, .int (-1), .ref (ad 6), .ref (ad 7), .ref (ad 8), .ref (ad 9), .ref (ad 10), .ref (ad 11), .ref (ad 12), .ref (ad 13), .ref (ad 14), .ref (ad 15), .int 0, .int 0, .ref (ad 16), .int 0, .int 0, .int 0, .int 0, .int 0, .ref (ad 17), .ref (ad 18), .int 0, .ref (ad 19)]) := (up_ne e4 (by decide) c_2)
  refine xget E hQ 0 (by decide) c_5 rfl 18 (by decide) q1486 rfl dX12_copyShore_22 ?_
  refine lv_bipush (v := 24) hx hb dX12_copyShore_25 (by decide) ?_
  refine lv_iload_n hx hb dX12_copyShore_27 rfl (lv_at hl 1 rfl) ?_
  refine lv_iload_n hx hb dX12_copyShore_28 rfl (lv_at hl 2 rfl) ?_
  have c_6 : S4 8 = .inl (g.2 0, 120, .inl f8) := (up_ne e4 (by decide) (up_ne e1 (by decide) h8))
  refine xcSv E hs hQ hml hl.1 (uCopyRow l g ad _ hD S4 8 (by decide) 120 (by decide) f8 24 0 1 (by decide) (by decide) (by decide) c_6) mX12_copyRow q1743 rfl ⟨by decide, by decide⟩ ⟨by decide, by decide⟩ (Nat.le_of_ble_eq_true rfl) rfl dX12_copyShore_29 (fun S7 H locs hp7 hQ => ?_)
  have e7 := hp7
  have u7 : S7 8 = .inl (g.2 0, 120, .inl (cpF f8 24 0 1 24)) := up_at e7 rfl
  refine lv_aload_n hx hb dX12_copyShore_32 rfl (lv_at hl 0 rfl) ?_
  have c_8 : S7 0 = .inr (12, [.int 0, .ref (ad 1), .ref (ad 2), .ref (ad 3), .ref (ad 4), .ref (ad 5), .int 0, .int 0, .int 0, .int 0, .int 0, .long 0, .int 0, .int 0, .int 0, .int (-1), .ref (ad 6), .ref (ad 7), .ref (ad 8), .ref (ad 9), .ref (ad 10), .ref (ad 11), .ref (ad 12), .ref (ad 13), .ref (ad 14), .ref (ad 15), .int 0, .int 0, .ref (ad 16), .int 0, .int 0, .int 0, .int 0, .int 0, .ref (ad 17), .ref (ad 18), .int 0, .ref (ad 19)]) := (up_ne e7 (by decide) c_5)
  refine xget E hQ 0 (by decide) c_8 rfl 19 (by decide) q1487 rfl dX12_copyShore_33 ?_
  refine lv_bipush (v := 24) hx hb dX12_copyShore_36 (by decide) ?_
  refine lv_iload_n hx hb dX12_copyShore_38 rfl (lv_at hl 1 rfl) ?_
  refine lv_iload_n hx hb dX12_copyShore_39 rfl (lv_at hl 2 rfl) ?_
  have c_9 : S7 9 = .inl (g.2 0, 120, .inl f9) := (up_ne e7 (by decide) (up_ne e4 (by decide) (up_ne e1 (by decide) h9)))
  refine xcSv E hs hQ hml hl.1 (uCopyRow l g ad _ hD S7 9 (by decide) 120 (by decide) f9 24 0 1 (by decide) (by decide) (by decide) c_9) mX12_copyRow q1743 rfl ⟨by decide, by decide⟩ ⟨by decide, by decide⟩ (Nat.le_of_ble_eq_true rfl) rfl dX12_copyShore_40 (fun S10 H locs hp10 hQ => ?_)
  have e10 := hp10
  have u10 : S10 9 = .inl (g.2 0, 120, .inl (cpF f9 24 0 1 24)) := up_at e10 rfl
  refine lv_aload_n hx hb dX12_copyShore_43 rfl (lv_at hl 0 rfl) ?_
  have c_11 : S10 0 = .inr (12, [.int 0, .ref (ad 1), .ref (ad 2), .ref (ad 3), .ref (ad 4), .ref (ad 5), .int 0, .int 0, .int 0, .int 0, .int 0, .long 0, .int 0, .int 0, .int 0, .int (-1), .ref (ad 6), .ref (ad 7), .ref (ad 8), .ref (ad 9), .ref (ad 10), .ref (ad 11), .ref (ad 12), .ref (ad 13), .ref (ad 14), .ref (ad 15), .int 0, .int 0, .ref (ad 16), .int 0, .int 0, .int 0, .int 0, .int 0, .ref (ad 17), .ref (ad 18), .int 0, .ref (ad 19)]) := (up_ne e10 (by decide) c_8)
  refine xget E hQ 0 (by decide) c_11 rfl 20 (by decide) q1488 rfl dX12_copyShore_44 ?_
  refine lv_bipush (v := 24) hx hb dX12_copyShore_47 (by decide) ?_
  refine lv_iload_n hx hb dX12_copyShore_49 rfl (lv_at hl 1 rfl) ?_
  refine lv_iload_n hx hb dX12_copyShore_50 rfl (lv_at hl 2 rfl) ?_
  have c_12 : S10 10 = .inl (g.2 0, 120, .inl f10) := (up_ne e10 (by decide) (up_ne e7 (by decide) (up_ne e4 (by decide) (up_ne e1 (by decide) h10))))
  refine xcSv E hs hQ hml hl.1 (uCopyRow l g ad _ hD S10 10 (by decide) 120 (by decide) f10 24 0 1 (by decide) (by decide) (by decide) c_12) mX12_copyRow q1743 rfl ⟨by decide, by decide⟩ ⟨by decide, by decide⟩ (Nat.le_of_ble_eq_true rfl) rfl dX12_copyShore_51 (fun S13 H locs hp13 hQ => ?_)
  have e13 := hp13
  have u13 : S13 10 = .inl (g.2 0, 120, .inl (cpF f10 24 0 1 24)) := up_at e13 rfl
  refine lv_aload_n hx hb dX12_copyShore_54 rfl (lv_at hl 0 rfl) ?_
  have c_14 : S13 0 = .inr (12, [.int 0, .ref (ad 1), .ref (ad 2), .ref (ad 3), .ref (ad 4), .ref (ad 5), .int 0, .int 0, .int 0, .int 0, .int 0, .long 0, .int 0, .int 0, .int 0, .int (-1), .ref (ad 6), .ref (ad 7), .ref (ad 8), .ref (ad 9), .ref (ad 10), .ref (ad 11), .ref (ad 12), .ref (ad 13), .ref (ad 14), .ref (ad 15), .int 0, .int 0, .ref (ad 16), .int 0, .int 0, .int 0, .int 0, .int 0, .ref (ad 17), .ref (ad 18), .int 0, .ref (ad 19)]) := (up_ne e13 (by decide) c_11)
  refine xget E hQ 0 (by decide) c_14 rfl 21 (by decide) q1489 rfl dX12_copyShore_55 ?_
  refine lv_iconst (v := 3) hx hb dX12_copyShore_58 (by decide) ?_
  refine lv_iload_n hx hb dX12_copyShore_59 rfl (lv_at hl 1 rfl) ?_
  refine lv_iload_n hx hb dX12_copyShore_60 rfl (lv_at hl 2 rfl) ?_
  have c_15 : S13 11 = .inl (g.2 0, 15, .inl f11) := (up_ne e13 (by decide) (up_ne e10 (by decide) (up_ne e7 (by decide) (up_ne e4 (by decide) (up_ne e1 (by decide) h11)))))
  refine xcSv E hs hQ hml hl.1 (uCopyRow l g ad _ hD S13 11 (by decide) 15 (by decide) f11 3 0 1 (by decide) (by decide) (by decide) c_15) mX12_copyRow q1743 rfl ⟨by decide, by decide⟩ ⟨by decide, by decide⟩ (Nat.le_of_ble_eq_true rfl) rfl dX12_copyShore_61 (fun S16 H locs hp16 hQ => ?_)
  have e16 := hp16
  have u16 : S16 11 = .inl (g.2 0, 15, .inl (cpF f11 3 0 1 3)) := up_at e16 rfl
  refine lv_aload_n hx hb dX12_copyShore_64 rfl (lv_at hl 0 rfl) ?_
  have c_17 : S16 0 = .inr (12, [.int 0, .ref (ad 1), .ref (ad 2), .ref (ad 3), .ref (ad 4), .ref (ad 5), .int 0, .int 0, .int 0, .int 0, .int 0, .long 0, .int 0, .int 0, .int 0, .int (-1), .ref (ad 6), .ref (ad 7), .ref (ad 8), .ref (ad 9), .ref (ad 10), .ref (ad 11), .ref (ad 12), .ref (ad 13), .ref (ad 14), .ref (ad 15), .int 0, .int 0, .ref (ad 16), .int 0, .int 0, .int 0, .int 0, .int 0, .ref (ad 17), .ref (ad 18), .int 0, .ref (ad 19)]) := (up_ne e16 (by decide) c_14)
  refine xget E hQ 0 (by decide) c_17 rfl 22 (by decide) q1490 rfl dX12_copyShore_65 ?_
  refine lv_sipush (v := 160) hx hb dX12_copyShore_68 (by decide) ?_
  refine lv_iload_n hx hb dX12_copyShore_71 rfl (lv_at hl 1 rfl) ?_
  refine lv_iload_n hx hb dX12_copyShore_72 rfl (lv_at hl 2 rfl) ?_
  have c_18 : S16 12 = .inl (g.2 0, 800, .inl f12) := (up_ne e16 (by decide) (up_ne e13 (by decide) (up_ne e10 (by decide) (up_ne e7 (by decide) (up_ne e4 (by decide) (up_ne e1 (by decide) h12))))))
  refine xcSv E hs hQ hml hl.1 (uCopyRow l g ad _ hD S16 12 (by decide) 800 (by decide) f12 160 0 1 (by decide) (by decide) (by decide) c_18) mX12_copyRow q1743 rfl ⟨by decide, by decide⟩ ⟨by decide, by decide⟩ (Nat.le_of_ble_eq_true rfl) rfl dX12_copyShore_73 (fun S19 H locs hp19 hQ => ?_)
  have e19 := hp19
  have u19 : S19 12 = .inl (g.2 0, 800, .inl (cpF f12 160 0 1 160)) := up_at e19 rfl
  have c_20 : S19 6 = .inl (g.2 0, 5, .inl (cpF f6 1 0 1 1)) := (up_ne e19 (by decide) (up_ne e16 (by decide) (up_ne e13 (by decide) (up_ne e10 (by decide) (up_ne e7 (by decide) (up_ne e4 (by decide) u1))))))
  have c_21 : S19 7 = .inl (g.2 0, 50, .inl (cpF f7 10 0 1 10)) := (up_ne e19 (by decide) (up_ne e16 (by decide) (up_ne e13 (by decide) (up_ne e10 (by decide) (up_ne e7 (by decide) u4)))))
  have c_22 : S19 8 = .inl (g.2 0, 120, .inl (cpF f8 24 0 1 24)) := (up_ne e19 (by decide) (up_ne e16 (by decide) (up_ne e13 (by decide) (up_ne e10 (by decide) u7))))
  have c_23 : S19 9 = .inl (g.2 0, 120, .inl (cpF f9 24 0 1 24)) := (up_ne e19 (by decide) (up_ne e16 (by decide) (up_ne e13 (by decide) u10)))
  have c_24 : S19 10 = .inl (g.2 0, 120, .inl (cpF f10 24 0 1 24)) := (up_ne e19 (by decide) (up_ne e16 (by decide) u13))
  have c_25 : S19 11 = .inl (g.2 0, 15, .inl (cpF f11 3 0 1 3)) := (up_ne e19 (by decide) u16)
  exact xrv E hr hlk hQ (⟨fun j hj => (up_ne e19 (fun h => hj (by subst h; decide)) (up_ne e16 (fun h => hj (by subst h; decide)) (up_ne e13 (fun h => hj (by subst h; decide)) (up_ne e10 (fun h => hj (by subst h; decide)) (up_ne e7 (fun h => hj (by subst h; decide)) (up_ne e4 (fun h => hj (by subst h; decide)) (up_ne e1 (fun h => hj (by subst h; decide)) rfl))))))), ⟨_, c_20⟩, ⟨_, c_21⟩, ⟨_, c_22⟩, ⟨_, c_23⟩, ⟨_, c_24⟩, ⟨_, c_25⟩, ⟨_, u19⟩⟩) dX12_copyShore_76
set_option maxHeartbeats 4000000 in
set_option maxRecDepth 100000 in
theorem copyShore_0_2 (l : Launch) (g : GG) (ad : Nat → Nat) (hD : Dj ad 20) (S : SS) (f6 : Nat → Int32) (f7 : Nat → Int32) (f8 : Nat → Int32) (f9 : Nat → Int32) (f10 : Nat → Int32) (f11 : Nat → Int32) (f12 : Nat → Int32) (h0 : S 0 = .inr (12, [.int 0, .ref (ad 1), .ref (ad 2), .ref (ad 3), .ref (ad 4), .ref (ad 5), .int 0, .int 0, .int 0, .int 0, .int 0, .long 0, .int 0, .int 0, .int 0, .int (-1), .ref (ad 6), .ref (ad 7), .ref (ad 8), .ref (ad 9), .ref (ad 10), .ref (ad 11), .ref (ad 12), .ref (ad 13), .ref (ad 14), .ref (ad 15), .int 0, .int 0, .ref (ad 16), .int 0, .int 0, .int 0, .int 0, .int 0, .ref (ad 17), .ref (ad 18), .int 0, .ref (ad 19)])) (h6 : S 6 = .inl (g.2 0, 5, .inl f6)) (h7 : S 7 = .inl (g.2 0, 50, .inl f7)) (h8 : S 8 = .inl (g.2 0, 120, .inl f8)) (h9 : S 9 = .inl (g.2 0, 120, .inl f9)) (h10 : S 10 = .inl (g.2 0, 120, .inl f10)) (h11 : S 11 = .inl (g.2 0, 15, .inl f11)) (h12 : S 12 = .inl (g.2 0, 800, .inl f12)) : Met l yX12_copyShore (wG (.code yX12_copyShore cX12_copyShore 3 none)) (Rm 1) (XPre g ad 20 S [.ref (ad 0), .int 0, .int 2]) (va_Qv (fun S' => (∀ j, j ∉ ([6, 7, 8, 9, 10, 11, 12] : List Nat) → S' j = S j) ∧ (∃ f : Nat → Int32, S' 6 = .inl (g.2 0, 5, .inl f)) ∧ (∃ f : Nat → Int32, S' 7 = .inl (g.2 0, 50, .inl f)) ∧ (∃ f : Nat → Int32, S' 8 = .inl (g.2 0, 120, .inl f)) ∧ (∃ f : Nat → Int32, S' 9 = .inl (g.2 0, 120, .inl f)) ∧ (∃ f : Nat → Int32, S' 10 = .inl (g.2 0, 120, .inl f)) ∧ (∃ f : Nat → Int32, S' 11 = .inl (g.2 0, 15, .inl f)) ∧ (∃ f : Nat → Int32, S' 12 = .inl (g.2 0, 800, .inl f))) (QB g ad 20) (FA ad 20)) 0 0 (FA ad 20) := by
  refine xmet cX12_copyShore "EbbWreckModel" (by decide) rfl (Nat.le_of_ble_eq_true rfl) (fun p e s m below meth c E hr hlk hml hQ ls hl => ?_)
  have hx := E.1
  have hb := E.2.1
  have hs : Sp ad 20 (FA ad 20) := Sp.fa hD
  have hl : lv_has ls 3 [(0, .ref (ad 0)), (1, .int 0), (2, .int 2)] := hl
  refine lv_aload_n hx hb dX12_copyShore_0 rfl (lv_at hl 0 rfl) ?_
  refine xget E hQ 0 (by decide) h0 rfl 16 (by decide) q1484 rfl dX12_copyShore_1 ?_
  refine lv_iconst (v := 1) hx hb dX12_copyShore_4 (by decide) ?_
  refine lv_iload_n hx hb dX12_copyShore_5 rfl (lv_at hl 1 rfl) ?_
  refine lv_iload_n hx hb dX12_copyShore_6 rfl (lv_at hl 2 rfl) ?_
  refine xcSv E hs hQ hml hl.1 (uCopyRow l g ad _ hD S 6 (by decide) 5 (by decide) f6 1 0 2 (by decide) (by decide) (by decide) h6) mX12_copyRow q1743 rfl ⟨by decide, by decide⟩ ⟨by decide, by decide⟩ (Nat.le_of_ble_eq_true rfl) rfl dX12_copyShore_7 (fun S1 H locs hp1 hQ => ?_)
  have e1 := hp1
  have u1 : S1 6 = .inl (g.2 0, 5, .inl (cpF f6 1 0 2 1)) := up_at e1 rfl
  refine lv_aload_n hx hb dX12_copyShore_10 rfl (lv_at hl 0 rfl) ?_
  have c_2 : S1 0 = .inr (12, [.int 0, .ref (ad 1), .ref (ad 2), .ref (ad 3), .ref (ad 4), .ref (ad 5), .int 0, .int 0, .int 0, .int 0, .int 0, .long 0, .int 0, .int 0, .int 0, .int (-1), .ref (ad 6), .ref (ad 7), .ref (ad 8), .ref (ad 9), .ref (ad 10), .ref (ad 11), .ref (ad 12), .ref (ad 13), .ref (ad 14), .ref (ad 15), .int 0, .int 0, .ref (ad 16), .int 0, .int 0, .int 0, .int 0, .int 0, .ref (ad 17), .ref (ad 18), .int 0, .ref (ad 19)]) := (up_ne e1 (by decide) h0)
  refine xget E hQ 0 (by decide) c_2 rfl 17 (by decide) q1485 rfl dX12_copyShore_11 ?_
  refine lv_bipush (v := 10) hx hb dX12_copyShore_14 (by decide) ?_
  refine lv_iload_n hx hb dX12_copyShore_16 rfl (lv_at hl 1 rfl) ?_
  refine lv_iload_n hx hb dX12_copyShore_17 rfl (lv_at hl 2 rfl) ?_
  have c_3 : S1 7 = .inl (g.2 0, 50, .inl f7) := (up_ne e1 (by decide) h7)
  refine xcSv E hs hQ hml hl.1 (uCopyRow l g ad _ hD S1 7 (by decide) 50 (by decide) f7 10 0 2 (by decide) (by decide) (by decide) c_3) mX12_copyRow q1743 rfl ⟨by decide, by decide⟩ ⟨by decide, by decide⟩ (Nat.le_of_ble_eq_true rfl) rfl dX12_copyShore_18 (fun S4 H locs hp4 hQ => ?_)
  have e4 := hp4
  have u4 : S4 7 = .inl (g.2 0, 50, .inl (cpF f7 10 0 2 10)) := up_at e4 rfl
  refine lv_aload_n hx hb dX12_copyShore_21 rfl (lv_at hl 0 rfl) ?_
  have c_5 : S4 0 = .inr (12, [.int 0, .ref (ad 1), .ref (ad 2), .ref (ad 3), .ref (ad 4), .ref (ad 5), .int 0, .int 0, .int 0, .int 0, .int 0, .long 0, .int 0, .int 0, .int 0, .int (-1), .ref (ad 6), .ref (ad 7), .ref (ad 8), .ref (ad 9), .ref (ad 10), .ref (ad 11), .ref (ad 12), .ref (ad 13), .ref (ad 14), .ref (ad 15), .int 0, .int 0, .ref (ad 16), .int 0, .int 0, .int 0, .int 0, .int 0, .ref (ad 17), .ref (ad 18), .int 0, .ref (ad 19)]) := (up_ne e4 (by decide) c_2)
  refine xget E hQ 0 (by decide) c_5 rfl 18 (by decide) q1486 rfl dX12_copyShore_22 ?_
  refine lv_bipush (v := 24) hx hb dX12_copyShore_25 (by decide) ?_
  refine lv_iload_n hx hb dX12_copyShore_27 rfl (lv_at hl 1 rfl) ?_
  refine lv_iload_n hx hb dX12_copyShore_28 rfl (lv_at hl 2 rfl) ?_
  have c_6 : S4 8 = .inl (g.2 0, 120, .inl f8) := (up_ne e4 (by decide) (up_ne e1 (by decide) h8))
  refine xcSv E hs hQ hml hl.1 (uCopyRow l g ad _ hD S4 8 (by decide) 120 (by decide) f8 24 0 2 (by decide) (by decide) (by decide) c_6) mX12_copyRow q1743 rfl ⟨by decide, by decide⟩ ⟨by decide, by decide⟩ (Nat.le_of_ble_eq_true rfl) rfl dX12_copyShore_29 (fun S7 H locs hp7 hQ => ?_)
  have e7 := hp7
  have u7 : S7 8 = .inl (g.2 0, 120, .inl (cpF f8 24 0 2 24)) := up_at e7 rfl
  refine lv_aload_n hx hb dX12_copyShore_32 rfl (lv_at hl 0 rfl) ?_
  have c_8 : S7 0 = .inr (12, [.int 0, .ref (ad 1), .ref (ad 2), .ref (ad 3), .ref (ad 4), .ref (ad 5), .int 0, .int 0, .int 0, .int 0, .int 0, .long 0, .int 0, .int 0, .int 0, .int (-1), .ref (ad 6), .ref (ad 7), .ref (ad 8), .ref (ad 9), .ref (ad 10), .ref (ad 11), .ref (ad 12), .ref (ad 13), .ref (ad 14), .ref (ad 15), .int 0, .int 0, .ref (ad 16), .int 0, .int 0, .int 0, .int 0, .int 0, .ref (ad 17), .ref (ad 18), .int 0, .ref (ad 19)]) := (up_ne e7 (by decide) c_5)
  refine xget E hQ 0 (by decide) c_8 rfl 19 (by decide) q1487 rfl dX12_copyShore_33 ?_
  refine lv_bipush (v := 24) hx hb dX12_copyShore_36 (by decide) ?_
  refine lv_iload_n hx hb dX12_copyShore_38 rfl (lv_at hl 1 rfl) ?_
  refine lv_iload_n hx hb dX12_copyShore_39 rfl (lv_at hl 2 rfl) ?_
  have c_9 : S7 9 = .inl (g.2 0, 120, .inl f9) := (up_ne e7 (by decide) (up_ne e4 (by decide) (up_ne e1 (by decide) h9)))
  refine xcSv E hs hQ hml hl.1 (uCopyRow l g ad _ hD S7 9 (by decide) 120 (by decide) f9 24 0 2 (by decide) (by decide) (by decide) c_9) mX12_copyRow q1743 rfl ⟨by decide, by decide⟩ ⟨by decide, by decide⟩ (Nat.le_of_ble_eq_true rfl) rfl dX12_copyShore_40 (fun S10 H locs hp10 hQ => ?_)
  have e10 := hp10
  have u10 : S10 9 = .inl (g.2 0, 120, .inl (cpF f9 24 0 2 24)) := up_at e10 rfl
  refine lv_aload_n hx hb dX12_copyShore_43 rfl (lv_at hl 0 rfl) ?_
  have c_11 : S10 0 = .inr (12, [.int 0, .ref (ad 1), .ref (ad 2), .ref (ad 3), .ref (ad 4), .ref (ad 5), .int 0, .int 0, .int 0, .int 0, .int 0, .long 0, .int 0, .int 0, .int 0, .int (-1), .ref (ad 6), .ref (ad 7), .ref (ad 8), .ref (ad 9), .ref (ad 10), .ref (ad 11), .ref (ad 12), .ref (ad 13), .ref (ad 14), .ref (ad 15), .int 0, .int 0, .ref (ad 16), .int 0, .int 0, .int 0, .int 0, .int 0, .ref (ad 17), .ref (ad 18), .int 0, .ref (ad 19)]) := (up_ne e10 (by decide) c_8)
  refine xget E hQ 0 (by decide) c_11 rfl 20 (by decide) q1488 rfl dX12_copyShore_44 ?_
  refine lv_bipush (v := 24) hx hb dX12_copyShore_47 (by decide) ?_
  refine lv_iload_n hx hb dX12_copyShore_49 rfl (lv_at hl 1 rfl) ?_
  refine lv_iload_n hx hb dX12_copyShore_50 rfl (lv_at hl 2 rfl) ?_
  have c_12 : S10 10 = .inl (g.2 0, 120, .inl f10) := (up_ne e10 (by decide) (up_ne e7 (by decide) (up_ne e4 (by decide) (up_ne e1 (by decide) h10))))
  refine xcSv E hs hQ hml hl.1 (uCopyRow l g ad _ hD S10 10 (by decide) 120 (by decide) f10 24 0 2 (by decide) (by decide) (by decide) c_12) mX12_copyRow q1743 rfl ⟨by decide, by decide⟩ ⟨by decide, by decide⟩ (Nat.le_of_ble_eq_true rfl) rfl dX12_copyShore_51 (fun S13 H locs hp13 hQ => ?_)
  have e13 := hp13
  have u13 : S13 10 = .inl (g.2 0, 120, .inl (cpF f10 24 0 2 24)) := up_at e13 rfl
  refine lv_aload_n hx hb dX12_copyShore_54 rfl (lv_at hl 0 rfl) ?_
  have c_14 : S13 0 = .inr (12, [.int 0, .ref (ad 1), .ref (ad 2), .ref (ad 3), .ref (ad 4), .ref (ad 5), .int 0, .int 0, .int 0, .int 0, .int 0, .long 0, .int 0, .int 0, .int 0, .int (-1), .ref (ad 6), .ref (ad 7), .ref (ad 8), .ref (ad 9), .ref (ad 10), .ref (ad 11), .ref (ad 12), .ref (ad 13), .ref (ad 14), .ref (ad 15), .int 0, .int 0, .ref (ad 16), .int 0, .int 0, .int 0, .int 0, .int 0, .ref (ad 17), .ref (ad 18), .int 0, .ref (ad 19)]) := (up_ne e13 (by decide) c_11)
  refine xget E hQ 0 (by decide) c_14 rfl 21 (by decide) q1489 rfl dX12_copyShore_55 ?_
  refine lv_iconst (v := 3) hx hb dX12_copyShore_58 (by decide) ?_
  refine lv_iload_n hx hb dX12_copyShore_59 rfl (lv_at hl 1 rfl) ?_
  refine lv_iload_n hx hb dX12_copyShore_60 rfl (lv_at hl 2 rfl) ?_
  have c_15 : S13 11 = .inl (g.2 0, 15, .inl f11) := (up_ne e13 (by decide) (up_ne e10 (by decide) (up_ne e7 (by decide) (up_ne e4 (by decide) (up_ne e1 (by decide) h11)))))
  refine xcSv E hs hQ hml hl.1 (uCopyRow l g ad _ hD S13 11 (by decide) 15 (by decide) f11 3 0 2 (by decide) (by decide) (by decide) c_15) mX12_copyRow q1743 rfl ⟨by decide, by decide⟩ ⟨by decide, by decide⟩ (Nat.le_of_ble_eq_true rfl) rfl dX12_copyShore_61 (fun S16 H locs hp16 hQ => ?_)
  have e16 := hp16
  have u16 : S16 11 = .inl (g.2 0, 15, .inl (cpF f11 3 0 2 3)) := up_at e16 rfl
  refine lv_aload_n hx hb dX12_copyShore_64 rfl (lv_at hl 0 rfl) ?_
  have c_17 : S16 0 = .inr (12, [.int 0, .ref (ad 1), .ref (ad 2), .ref (ad 3), .ref (ad 4), .ref (ad 5), .int 0, .int 0, .int 0, .int 0, .int 0, .long 0, .int 0, .int 0, .int 0, .int (-1), .ref (ad 6), .ref (ad 7), .ref (ad 8), .ref (ad 9), .ref (ad 10), .ref (ad 11), .ref (ad 12), .ref (ad 13), .ref (ad 14), .ref (ad 15), .int 0, .int 0, .ref (ad 16), .int 0, .int 0, .int 0, .int 0, .int 0, .ref (ad 17), .ref (ad 18), .int 0, .ref (ad 19)]) := (up_ne e16 (by decide) c_14)
  refine xget E hQ 0 (by decide) c_17 rfl 22 (by decide) q1490 rfl dX12_copyShore_65 ?_
  refine lv_sipush (v := 160) hx hb dX12_copyShore_68 (by decide) ?_
  refine lv_iload_n hx hb dX12_copyShore_71 rfl (lv_at hl 1 rfl) ?_
  refine lv_iload_n hx hb dX12_copyShore_72 rfl (lv_at hl 2 rfl) ?_
  have c_18 : S16 12 = .inl (g.2 0, 800, .inl f12) := (up_ne e16 (by decide) (up_ne e13 (by decide) (up_ne e10 (by decide) (up_ne e7 (by decide) (up_ne e4 (by decide) (up_ne e1 (by decide) h12))))))
  refine xcSv E hs hQ hml hl.1 (uCopyRow l g ad _ hD S16 12 (by decide) 800 (by decide) f12 160 0 2 (by decide) (by decide) (by decide) c_18) mX12_copyRow q1743 rfl ⟨by decide, by decide⟩ ⟨by decide, by decide⟩ (Nat.le_of_ble_eq_true rfl) rfl dX12_copyShore_73 (fun S19 H locs hp19 hQ => ?_)
  have e19 := hp19
  have u19 : S19 12 = .inl (g.2 0, 800, .inl (cpF f12 160 0 2 160)) := up_at e19 rfl
  have c_20 : S19 6 = .inl (g.2 0, 5, .inl (cpF f6 1 0 2 1)) := (up_ne e19 (by decide) (up_ne e16 (by decide) (up_ne e13 (by decide) (up_ne e10 (by decide) (up_ne e7 (by decide) (up_ne e4 (by decide) u1))))))
  have c_21 : S19 7 = .inl (g.2 0, 50, .inl (cpF f7 10 0 2 10)) := (up_ne e19 (by decide) (up_ne e16 (by decide) (up_ne e13 (by decide) (up_ne e10 (by decide) (up_ne e7 (by decide) u4)))))
  have c_22 : S19 8 = .inl (g.2 0, 120, .inl (cpF f8 24 0 2 24)) := (up_ne e19 (by decide) (up_ne e16 (by decide) (up_ne e13 (by decide) (up_ne e10 (by decide) u7))))
  have c_23 : S19 9 = .inl (g.2 0, 120, .inl (cpF f9 24 0 2 24)) := (up_ne e19 (by decide) (up_ne e16 (by decide) (up_ne e13 (by decide) u10)))
  have c_24 : S19 10 = .inl (g.2 0, 120, .inl (cpF f10 24 0 2 24)) := (up_ne e19 (by decide) (up_ne e16 (by decide) u13))
  have c_25 : S19 11 = .inl (g.2 0, 15, .inl (cpF f11 3 0 2 3)) := (up_ne e19 (by decide) u16)
  exact xrv E hr hlk hQ (⟨fun j hj => (up_ne e19 (fun h => hj (by subst h; decide)) (up_ne e16 (fun h => hj (by subst h; decide)) (up_ne e13 (fun h => hj (by subst h; decide)) (up_ne e10 (fun h => hj (by subst h; decide)) (up_ne e7 (fun h => hj (by subst h; decide)) (up_ne e4 (fun h => hj (by subst h; decide)) (up_ne e1 (fun h => hj (by subst h; decide)) rfl))))))), ⟨_, c_20⟩, ⟨_, c_21⟩, ⟨_, c_22⟩, ⟨_, c_23⟩, ⟨_, c_24⟩, ⟨_, c_25⟩, ⟨_, u19⟩⟩) dX12_copyShore_76
set_option maxHeartbeats 4000000 in
set_option maxRecDepth 100000 in
theorem copyShore_0_3 (l : Launch) (g : GG) (ad : Nat → Nat) (hD : Dj ad 20) (S : SS) (f6 : Nat → Int32) (f7 : Nat → Int32) (f8 : Nat → Int32) (f9 : Nat → Int32) (f10 : Nat → Int32) (f11 : Nat → Int32) (f12 : Nat → Int32) (h0 : S 0 = .inr (12, [.int 0, .ref (ad 1), .ref (ad 2), .ref (ad 3), .ref (ad 4), .ref (ad 5), .int 0, .int 0, .int 0, .int 0, .int 0, .long 0, .int 0, .int 0, .int 0, .int (-1), .ref (ad 6), .ref (ad 7), .ref (ad 8), .ref (ad 9), .ref (ad 10), .ref (ad 11), .ref (ad 12), .ref (ad 13), .ref (ad 14), .ref (ad 15), .int 0, .int 0, .ref (ad 16), .int 0, .int 0, .int 0, .int 0, .int 0, .ref (ad 17), .ref (ad 18), .int 0, .ref (ad 19)])) (h6 : S 6 = .inl (g.2 0, 5, .inl f6)) (h7 : S 7 = .inl (g.2 0, 50, .inl f7)) (h8 : S 8 = .inl (g.2 0, 120, .inl f8)) (h9 : S 9 = .inl (g.2 0, 120, .inl f9)) (h10 : S 10 = .inl (g.2 0, 120, .inl f10)) (h11 : S 11 = .inl (g.2 0, 15, .inl f11)) (h12 : S 12 = .inl (g.2 0, 800, .inl f12)) : Met l yX12_copyShore (wG (.code yX12_copyShore cX12_copyShore 3 none)) (Rm 1) (XPre g ad 20 S [.ref (ad 0), .int 0, .int 3]) (va_Qv (fun S' => (∀ j, j ∉ ([6, 7, 8, 9, 10, 11, 12] : List Nat) → S' j = S j) ∧ (∃ f : Nat → Int32, S' 6 = .inl (g.2 0, 5, .inl f)) ∧ (∃ f : Nat → Int32, S' 7 = .inl (g.2 0, 50, .inl f)) ∧ (∃ f : Nat → Int32, S' 8 = .inl (g.2 0, 120, .inl f)) ∧ (∃ f : Nat → Int32, S' 9 = .inl (g.2 0, 120, .inl f)) ∧ (∃ f : Nat → Int32, S' 10 = .inl (g.2 0, 120, .inl f)) ∧ (∃ f : Nat → Int32, S' 11 = .inl (g.2 0, 15, .inl f)) ∧ (∃ f : Nat → Int32, S' 12 = .inl (g.2 0, 800, .inl f))) (QB g ad 20) (FA ad 20)) 0 0 (FA ad 20) := by
  refine xmet cX12_copyShore "EbbWreckModel" (by decide) rfl (Nat.le_of_ble_eq_true rfl) (fun p e s m below meth c E hr hlk hml hQ ls hl => ?_)
  have hx := E.1
  have hb := E.2.1
  have hs : Sp ad 20 (FA ad 20) := Sp.fa hD
  have hl : lv_has ls 3 [(0, .ref (ad 0)), (1, .int 0), (2, .int 3)] := hl
  refine lv_aload_n hx hb dX12_copyShore_0 rfl (lv_at hl 0 rfl) ?_
  refine xget E hQ 0 (by decide) h0 rfl 16 (by decide) q1484 rfl dX12_copyShore_1 ?_
  refine lv_iconst (v := 1) hx hb dX12_copyShore_4 (by decide) ?_
  refine lv_iload_n hx hb dX12_copyShore_5 rfl (lv_at hl 1 rfl) ?_
  refine lv_iload_n hx hb dX12_copyShore_6 rfl (lv_at hl 2 rfl) ?_
  refine xcSv E hs hQ hml hl.1 (uCopyRow l g ad _ hD S 6 (by decide) 5 (by decide) f6 1 0 3 (by decide) (by decide) (by decide) h6) mX12_copyRow q1743 rfl ⟨by decide, by decide⟩ ⟨by decide, by decide⟩ (Nat.le_of_ble_eq_true rfl) rfl dX12_copyShore_7 (fun S1 H locs hp1 hQ => ?_)
  have e1 := hp1
  have u1 : S1 6 = .inl (g.2 0, 5, .inl (cpF f6 1 0 3 1)) := up_at e1 rfl
  refine lv_aload_n hx hb dX12_copyShore_10 rfl (lv_at hl 0 rfl) ?_
  have c_2 : S1 0 = .inr (12, [.int 0, .ref (ad 1), .ref (ad 2), .ref (ad 3), .ref (ad 4), .ref (ad 5), .int 0, .int 0, .int 0, .int 0, .int 0, .long 0, .int 0, .int 0, .int 0, .int (-1), .ref (ad 6), .ref (ad 7), .ref (ad 8), .ref (ad 9), .ref (ad 10), .ref (ad 11), .ref (ad 12), .ref (ad 13), .ref (ad 14), .ref (ad 15), .int 0, .int 0, .ref (ad 16), .int 0, .int 0, .int 0, .int 0, .int 0, .ref (ad 17), .ref (ad 18), .int 0, .ref (ad 19)]) := (up_ne e1 (by decide) h0)
  refine xget E hQ 0 (by decide) c_2 rfl 17 (by decide) q1485 rfl dX12_copyShore_11 ?_
  refine lv_bipush (v := 10) hx hb dX12_copyShore_14 (by decide) ?_
  refine lv_iload_n hx hb dX12_copyShore_16 rfl (lv_at hl 1 rfl) ?_
  refine lv_iload_n hx hb dX12_copyShore_17 rfl (lv_at hl 2 rfl) ?_
  have c_3 : S1 7 = .inl (g.2 0, 50, .inl f7) := (up_ne e1 (by decide) h7)
  refine xcSv E hs hQ hml hl.1 (uCopyRow l g ad _ hD S1 7 (by decide) 50 (by decide) f7 10 0 3 (by decide) (by decide) (by decide) c_3) mX12_copyRow q1743 rfl ⟨by decide, by decide⟩ ⟨by decide, by decide⟩ (Nat.le_of_ble_eq_true rfl) rfl dX12_copyShore_18 (fun S4 H locs hp4 hQ => ?_)
  have e4 := hp4
  have u4 : S4 7 = .inl (g.2 0, 50, .inl (cpF f7 10 0 3 10)) := up_at e4 rfl
  refine lv_aload_n hx hb dX12_copyShore_21 rfl (lv_at hl 0 rfl) ?_
  have c_5 : S4 0 = .inr (12, [.int 0, .ref (ad 1), .ref (ad 2), .ref (ad 3), .ref (ad 4), .ref (ad 5), .int 0, .int 0, .int 0, .int 0, .int 0, .long 0, .int 0, .int 0, .int 0, .int (-1), .ref (ad 6), .ref (ad 7), .ref (ad 8), .ref (ad 9), .ref (ad 10), .ref (ad 11), .ref (ad 12), .ref (ad 13), .ref (ad 14), .ref (ad 15), .int 0, .int 0, .ref (ad 16), .int 0, .int 0, .int 0, .int 0, .int 0, .ref (ad 17), .ref (ad 18), .int 0, .ref (ad 19)]) := (up_ne e4 (by decide) c_2)
  refine xget E hQ 0 (by decide) c_5 rfl 18 (by decide) q1486 rfl dX12_copyShore_22 ?_
  refine lv_bipush (v := 24) hx hb dX12_copyShore_25 (by decide) ?_
  refine lv_iload_n hx hb dX12_copyShore_27 rfl (lv_at hl 1 rfl) ?_
  refine lv_iload_n hx hb dX12_copyShore_28 rfl (lv_at hl 2 rfl) ?_
  have c_6 : S4 8 = .inl (g.2 0, 120, .inl f8) := (up_ne e4 (by decide) (up_ne e1 (by decide) h8))
  refine xcSv E hs hQ hml hl.1 (uCopyRow l g ad _ hD S4 8 (by decide) 120 (by decide) f8 24 0 3 (by decide) (by decide) (by decide) c_6) mX12_copyRow q1743 rfl ⟨by decide, by decide⟩ ⟨by decide, by decide⟩ (Nat.le_of_ble_eq_true rfl) rfl dX12_copyShore_29 (fun S7 H locs hp7 hQ => ?_)
  have e7 := hp7
  have u7 : S7 8 = .inl (g.2 0, 120, .inl (cpF f8 24 0 3 24)) := up_at e7 rfl
  refine lv_aload_n hx hb dX12_copyShore_32 rfl (lv_at hl 0 rfl) ?_
  have c_8 : S7 0 = .inr (12, [.int 0, .ref (ad 1), .ref (ad 2), .ref (ad 3), .ref (ad 4), .ref (ad 5), .int 0, .int 0, .int 0, .int 0, .int 0, .long 0, .int 0, .int 0, .int 0, .int (-1), .ref (ad 6), .ref (ad 7), .ref (ad 8), .ref (ad 9), .ref (ad 10), .ref (ad 11), .ref (ad 12), .ref (ad 13), .ref (ad 14), .ref (ad 15), .int 0, .int 0, .ref (ad 16), .int 0, .int 0, .int 0, .int 0, .int 0, .ref (ad 17), .ref (ad 18), .int 0, .ref (ad 19)]) := (up_ne e7 (by decide) c_5)
  refine xget E hQ 0 (by decide) c_8 rfl 19 (by decide) q1487 rfl dX12_copyShore_33 ?_
  refine lv_bipush (v := 24) hx hb dX12_copyShore_36 (by decide) ?_
  refine lv_iload_n hx hb dX12_copyShore_38 rfl (lv_at hl 1 rfl) ?_
  refine lv_iload_n hx hb dX12_copyShore_39 rfl (lv_at hl 2 rfl) ?_
  have c_9 : S7 9 = .inl (g.2 0, 120, .inl f9) := (up_ne e7 (by decide) (up_ne e4 (by decide) (up_ne e1 (by decide) h9)))
  refine xcSv E hs hQ hml hl.1 (uCopyRow l g ad _ hD S7 9 (by decide) 120 (by decide) f9 24 0 3 (by decide) (by decide) (by decide) c_9) mX12_copyRow q1743 rfl ⟨by decide, by decide⟩ ⟨by decide, by decide⟩ (Nat.le_of_ble_eq_true rfl) rfl dX12_copyShore_40 (fun S10 H locs hp10 hQ => ?_)
  have e10 := hp10
  have u10 : S10 9 = .inl (g.2 0, 120, .inl (cpF f9 24 0 3 24)) := up_at e10 rfl
  refine lv_aload_n hx hb dX12_copyShore_43 rfl (lv_at hl 0 rfl) ?_
  have c_11 : S10 0 = .inr (12, [.int 0, .ref (ad 1), .ref (ad 2), .ref (ad 3), .ref (ad 4), .ref (ad 5), .int 0, .int 0, .int 0, .int 0, .int 0, .long 0, .int 0, .int 0, .int 0, .int (-1), .ref (ad 6), .ref (ad 7), .ref (ad 8), .ref (ad 9), .ref (ad 10), .ref (ad 11), .ref (ad 12), .ref (ad 13), .ref (ad 14), .ref (ad 15), .int 0, .int 0, .ref (ad 16), .int 0, .int 0, .int 0, .int 0, .int 0, .ref (ad 17), .ref (ad 18), .int 0, .ref (ad 19)]) := (up_ne e10 (by decide) c_8)
  refine xget E hQ 0 (by decide) c_11 rfl 20 (by decide) q1488 rfl dX12_copyShore_44 ?_
  refine lv_bipush (v := 24) hx hb dX12_copyShore_47 (by decide) ?_
  refine lv_iload_n hx hb dX12_copyShore_49 rfl (lv_at hl 1 rfl) ?_
  refine lv_iload_n hx hb dX12_copyShore_50 rfl (lv_at hl 2 rfl) ?_
  have c_12 : S10 10 = .inl (g.2 0, 120, .inl f10) := (up_ne e10 (by decide) (up_ne e7 (by decide) (up_ne e4 (by decide) (up_ne e1 (by decide) h10))))
  refine xcSv E hs hQ hml hl.1 (uCopyRow l g ad _ hD S10 10 (by decide) 120 (by decide) f10 24 0 3 (by decide) (by decide) (by decide) c_12) mX12_copyRow q1743 rfl ⟨by decide, by decide⟩ ⟨by decide, by decide⟩ (Nat.le_of_ble_eq_true rfl) rfl dX12_copyShore_51 (fun S13 H locs hp13 hQ => ?_)
  have e13 := hp13
  have u13 : S13 10 = .inl (g.2 0, 120, .inl (cpF f10 24 0 3 24)) := up_at e13 rfl
  refine lv_aload_n hx hb dX12_copyShore_54 rfl (lv_at hl 0 rfl) ?_
  have c_14 : S13 0 = .inr (12, [.int 0, .ref (ad 1), .ref (ad 2), .ref (ad 3), .ref (ad 4), .ref (ad 5), .int 0, .int 0, .int 0, .int 0, .int 0, .long 0, .int 0, .int 0, .int 0, .int (-1), .ref (ad 6), .ref (ad 7), .ref (ad 8), .ref (ad 9), .ref (ad 10), .ref (ad 11), .ref (ad 12), .ref (ad 13), .ref (ad 14), .ref (ad 15), .int 0, .int 0, .ref (ad 16), .int 0, .int 0, .int 0, .int 0, .int 0, .ref (ad 17), .ref (ad 18), .int 0, .ref (ad 19)]) := (up_ne e13 (by decide) c_11)
  refine xget E hQ 0 (by decide) c_14 rfl 21 (by decide) q1489 rfl dX12_copyShore_55 ?_
  refine lv_iconst (v := 3) hx hb dX12_copyShore_58 (by decide) ?_
  refine lv_iload_n hx hb dX12_copyShore_59 rfl (lv_at hl 1 rfl) ?_
  refine lv_iload_n hx hb dX12_copyShore_60 rfl (lv_at hl 2 rfl) ?_
  have c_15 : S13 11 = .inl (g.2 0, 15, .inl f11) := (up_ne e13 (by decide) (up_ne e10 (by decide) (up_ne e7 (by decide) (up_ne e4 (by decide) (up_ne e1 (by decide) h11)))))
  refine xcSv E hs hQ hml hl.1 (uCopyRow l g ad _ hD S13 11 (by decide) 15 (by decide) f11 3 0 3 (by decide) (by decide) (by decide) c_15) mX12_copyRow q1743 rfl ⟨by decide, by decide⟩ ⟨by decide, by decide⟩ (Nat.le_of_ble_eq_true rfl) rfl dX12_copyShore_61 (fun S16 H locs hp16 hQ => ?_)
  have e16 := hp16
  have u16 : S16 11 = .inl (g.2 0, 15, .inl (cpF f11 3 0 3 3)) := up_at e16 rfl
  refine lv_aload_n hx hb dX12_copyShore_64 rfl (lv_at hl 0 rfl) ?_
  have c_17 : S16 0 = .inr (12, [.int 0, .ref (ad 1), .ref (ad 2), .ref (ad 3), .ref (ad 4), .ref (ad 5), .int 0, .int 0, .int 0, .int 0, .int 0, .long 0, .int 0, .int 0, .int 0, .int (-1), .ref (ad 6), .ref (ad 7), .ref (ad 8), .ref (ad 9), .ref (ad 10), .ref (ad 11), .ref (ad 12), .ref (ad 13), .ref (ad 14), .ref (ad 15), .int 0, .int 0, .ref (ad 16), .int 0, .int 0, .int 0, .int 0, .int 0, .ref (ad 17), .ref (ad 18), .int 0, .ref (ad 19)]) := (up_ne e16 (by decide) c_14)
  refine xget E hQ 0 (by decide) c_17 rfl 22 (by decide) q1490 rfl dX12_copyShore_65 ?_
  refine lv_sipush (v := 160) hx hb dX12_copyShore_68 (by decide) ?_
  refine lv_iload_n hx hb dX12_copyShore_71 rfl (lv_at hl 1 rfl) ?_
  refine lv_iload_n hx hb dX12_copyShore_72 rfl (lv_at hl 2 rfl) ?_
  have c_18 : S16 12 = .inl (g.2 0, 800, .inl f12) := (up_ne e16 (by decide) (up_ne e13 (by decide) (up_ne e10 (by decide) (up_ne e7 (by decide) (up_ne e4 (by decide) (up_ne e1 (by decide) h12))))))
  refine xcSv E hs hQ hml hl.1 (uCopyRow l g ad _ hD S16 12 (by decide) 800 (by decide) f12 160 0 3 (by decide) (by decide) (by decide) c_18) mX12_copyRow q1743 rfl ⟨by decide, by decide⟩ ⟨by decide, by decide⟩ (Nat.le_of_ble_eq_true rfl) rfl dX12_copyShore_73 (fun S19 H locs hp19 hQ => ?_)
  have e19 := hp19
  have u19 : S19 12 = .inl (g.2 0, 800, .inl (cpF f12 160 0 3 160)) := up_at e19 rfl
  have c_20 : S19 6 = .inl (g.2 0, 5, .inl (cpF f6 1 0 3 1)) := (up_ne e19 (by decide) (up_ne e16 (by decide) (up_ne e13 (by decide) (up_ne e10 (by decide) (up_ne e7 (by decide) (up_ne e4 (by decide) u1))))))
  have c_21 : S19 7 = .inl (g.2 0, 50, .inl (cpF f7 10 0 3 10)) := (up_ne e19 (by decide) (up_ne e16 (by decide) (up_ne e13 (by decide) (up_ne e10 (by decide) (up_ne e7 (by decide) u4)))))
  have c_22 : S19 8 = .inl (g.2 0, 120, .inl (cpF f8 24 0 3 24)) := (up_ne e19 (by decide) (up_ne e16 (by decide) (up_ne e13 (by decide) (up_ne e10 (by decide) u7))))
  have c_23 : S19 9 = .inl (g.2 0, 120, .inl (cpF f9 24 0 3 24)) := (up_ne e19 (by decide) (up_ne e16 (by decide) (up_ne e13 (by decide) u10)))
  have c_24 : S19 10 = .inl (g.2 0, 120, .inl (cpF f10 24 0 3 24)) := (up_ne e19 (by decide) (up_ne e16 (by decide) u13))
  have c_25 : S19 11 = .inl (g.2 0, 15, .inl (cpF f11 3 0 3 3)) := (up_ne e19 (by decide) u16)
  exact xrv E hr hlk hQ (⟨fun j hj => (up_ne e19 (fun h => hj (by subst h; decide)) (up_ne e16 (fun h => hj (by subst h; decide)) (up_ne e13 (fun h => hj (by subst h; decide)) (up_ne e10 (fun h => hj (by subst h; decide)) (up_ne e7 (fun h => hj (by subst h; decide)) (up_ne e4 (fun h => hj (by subst h; decide)) (up_ne e1 (fun h => hj (by subst h; decide)) rfl))))))), ⟨_, c_20⟩, ⟨_, c_21⟩, ⟨_, c_22⟩, ⟨_, c_23⟩, ⟨_, c_24⟩, ⟨_, c_25⟩, ⟨_, u19⟩⟩) dX12_copyShore_76
set_option maxHeartbeats 4000000 in
set_option maxRecDepth 100000 in
theorem copyShore_4_0 (l : Launch) (g : GG) (ad : Nat → Nat) (hD : Dj ad 20) (S : SS) (f6 : Nat → Int32) (f7 : Nat → Int32) (f8 : Nat → Int32) (f9 : Nat → Int32) (f10 : Nat → Int32) (f11 : Nat → Int32) (f12 : Nat → Int32) (h0 : S 0 = .inr (12, [.int 0, .ref (ad 1), .ref (ad 2), .ref (ad 3), .ref (ad 4), .ref (ad 5), .int 0, .int 0, .int 0, .int 0, .int 0, .long 0, .int 0, .int 0, .int 0, .int (-1), .ref (ad 6), .ref (ad 7), .ref (ad 8), .ref (ad 9), .ref (ad 10), .ref (ad 11), .ref (ad 12), .ref (ad 13), .ref (ad 14), .ref (ad 15), .int 0, .int 0, .ref (ad 16), .int 0, .int 0, .int 0, .int 0, .int 0, .ref (ad 17), .ref (ad 18), .int 0, .ref (ad 19)])) (h6 : S 6 = .inl (g.2 0, 5, .inl f6)) (h7 : S 7 = .inl (g.2 0, 50, .inl f7)) (h8 : S 8 = .inl (g.2 0, 120, .inl f8)) (h9 : S 9 = .inl (g.2 0, 120, .inl f9)) (h10 : S 10 = .inl (g.2 0, 120, .inl f10)) (h11 : S 11 = .inl (g.2 0, 15, .inl f11)) (h12 : S 12 = .inl (g.2 0, 800, .inl f12)) : Met l yX12_copyShore (wG (.code yX12_copyShore cX12_copyShore 3 none)) (Rm 1) (XPre g ad 20 S [.ref (ad 0), .int 4, .int 0]) (va_Qv (fun S' => (∀ j, j ∉ ([6, 7, 8, 9, 10, 11, 12] : List Nat) → S' j = S j) ∧ (∃ f : Nat → Int32, S' 6 = .inl (g.2 0, 5, .inl f)) ∧ (∃ f : Nat → Int32, S' 7 = .inl (g.2 0, 50, .inl f)) ∧ (∃ f : Nat → Int32, S' 8 = .inl (g.2 0, 120, .inl f)) ∧ (∃ f : Nat → Int32, S' 9 = .inl (g.2 0, 120, .inl f)) ∧ (∃ f : Nat → Int32, S' 10 = .inl (g.2 0, 120, .inl f)) ∧ (∃ f : Nat → Int32, S' 11 = .inl (g.2 0, 15, .inl f)) ∧ (∃ f : Nat → Int32, S' 12 = .inl (g.2 0, 800, .inl f))) (QB g ad 20) (FA ad 20)) 0 0 (FA ad 20) := by
  refine xmet cX12_copyShore "EbbWreckModel" (by decide) rfl (Nat.le_of_ble_eq_true rfl) (fun p e s m below meth c E hr hlk hml hQ ls hl => ?_)
  have hx := E.1
  have hb := E.2.1
  have hs : Sp ad 20 (FA ad 20) := Sp.fa hD
  have hl : lv_has ls 3 [(0, .ref (ad 0)), (1, .int 4), (2, .int 0)] := hl
  refine lv_aload_n hx hb dX12_copyShore_0 rfl (lv_at hl 0 rfl) ?_
  refine xget E hQ 0 (by decide) h0 rfl 16 (by decide) q1484 rfl dX12_copyShore_1 ?_
  refine lv_iconst (v := 1) hx hb dX12_copyShore_4 (by decide) ?_
  refine lv_iload_n hx hb dX12_copyShore_5 rfl (lv_at hl 1 rfl) ?_
  refine lv_iload_n hx hb dX12_copyShore_6 rfl (lv_at hl 2 rfl) ?_
  refine xcSv E hs hQ hml hl.1 (uCopyRow l g ad _ hD S 6 (by decide) 5 (by decide) f6 1 4 0 (by decide) (by decide) (by decide) h6) mX12_copyRow q1743 rfl ⟨by decide, by decide⟩ ⟨by decide, by decide⟩ (Nat.le_of_ble_eq_true rfl) rfl dX12_copyShore_7 (fun S1 H locs hp1 hQ => ?_)
  have e1 := hp1
  have u1 : S1 6 = .inl (g.2 0, 5, .inl (cpF f6 1 4 0 1)) := up_at e1 rfl
  refine lv_aload_n hx hb dX12_copyShore_10 rfl (lv_at hl 0 rfl) ?_
  have c_2 : S1 0 = .inr (12, [.int 0, .ref (ad 1), .ref (ad 2), .ref (ad 3), .ref (ad 4), .ref (ad 5), .int 0, .int 0, .int 0, .int 0, .int 0, .long 0, .int 0, .int 0, .int 0, .int (-1), .ref (ad 6), .ref (ad 7), .ref (ad 8), .ref (ad 9), .ref (ad 10), .ref (ad 11), .ref (ad 12), .ref (ad 13), .ref (ad 14), .ref (ad 15), .int 0, .int 0, .ref (ad 16), .int 0, .int 0, .int 0, .int 0, .int 0, .ref (ad 17), .ref (ad 18), .int 0, .ref (ad 19)]) := (up_ne e1 (by decide) h0)
  refine xget E hQ 0 (by decide) c_2 rfl 17 (by decide) q1485 rfl dX12_copyShore_11 ?_
  refine lv_bipush (v := 10) hx hb dX12_copyShore_14 (by decide) ?_
  refine lv_iload_n hx hb dX12_copyShore_16 rfl (lv_at hl 1 rfl) ?_
  refine lv_iload_n hx hb dX12_copyShore_17 rfl (lv_at hl 2 rfl) ?_
  have c_3 : S1 7 = .inl (g.2 0, 50, .inl f7) := (up_ne e1 (by decide) h7)
  refine xcSv E hs hQ hml hl.1 (uCopyRow l g ad _ hD S1 7 (by decide) 50 (by decide) f7 10 4 0 (by decide) (by decide) (by decide) c_3) mX12_copyRow q1743 rfl ⟨by decide, by decide⟩ ⟨by decide, by decide⟩ (Nat.le_of_ble_eq_true rfl) rfl dX12_copyShore_18 (fun S4 H locs hp4 hQ => ?_)
  have e4 := hp4
  have u4 : S4 7 = .inl (g.2 0, 50, .inl (cpF f7 10 4 0 10)) := up_at e4 rfl
  refine lv_aload_n hx hb dX12_copyShore_21 rfl (lv_at hl 0 rfl) ?_
  have c_5 : S4 0 = .inr (12, [.int 0, .ref (ad 1), .ref (ad 2), .ref (ad 3), .ref (ad 4), .ref (ad 5), .int 0, .int 0, .int 0, .int 0, .int 0, .long 0, .int 0, .int 0, .int 0, .int (-1), .ref (ad 6), .ref (ad 7), .ref (ad 8), .ref (ad 9), .ref (ad 10), .ref (ad 11), .ref (ad 12), .ref (ad 13), .ref (ad 14), .ref (ad 15), .int 0, .int 0, .ref (ad 16), .int 0, .int 0, .int 0, .int 0, .int 0, .ref (ad 17), .ref (ad 18), .int 0, .ref (ad 19)]) := (up_ne e4 (by decide) c_2)
  refine xget E hQ 0 (by decide) c_5 rfl 18 (by decide) q1486 rfl dX12_copyShore_22 ?_
  refine lv_bipush (v := 24) hx hb dX12_copyShore_25 (by decide) ?_
  refine lv_iload_n hx hb dX12_copyShore_27 rfl (lv_at hl 1 rfl) ?_
  refine lv_iload_n hx hb dX12_copyShore_28 rfl (lv_at hl 2 rfl) ?_
  have c_6 : S4 8 = .inl (g.2 0, 120, .inl f8) := (up_ne e4 (by decide) (up_ne e1 (by decide) h8))
  refine xcSv E hs hQ hml hl.1 (uCopyRow l g ad _ hD S4 8 (by decide) 120 (by decide) f8 24 4 0 (by decide) (by decide) (by decide) c_6) mX12_copyRow q1743 rfl ⟨by decide, by decide⟩ ⟨by decide, by decide⟩ (Nat.le_of_ble_eq_true rfl) rfl dX12_copyShore_29 (fun S7 H locs hp7 hQ => ?_)
  have e7 := hp7
  have u7 : S7 8 = .inl (g.2 0, 120, .inl (cpF f8 24 4 0 24)) := up_at e7 rfl
  refine lv_aload_n hx hb dX12_copyShore_32 rfl (lv_at hl 0 rfl) ?_
  have c_8 : S7 0 = .inr (12, [.int 0, .ref (ad 1), .ref (ad 2), .ref (ad 3), .ref (ad 4), .ref (ad 5), .int 0, .int 0, .int 0, .int 0, .int 0, .long 0, .int 0, .int 0, .int 0, .int (-1), .ref (ad 6), .ref (ad 7), .ref (ad 8), .ref (ad 9), .ref (ad 10), .ref (ad 11), .ref (ad 12), .ref (ad 13), .ref (ad 14), .ref (ad 15), .int 0, .int 0, .ref (ad 16), .int 0, .int 0, .int 0, .int 0, .int 0, .ref (ad 17), .ref (ad 18), .int 0, .ref (ad 19)]) := (up_ne e7 (by decide) c_5)
  refine xget E hQ 0 (by decide) c_8 rfl 19 (by decide) q1487 rfl dX12_copyShore_33 ?_
  refine lv_bipush (v := 24) hx hb dX12_copyShore_36 (by decide) ?_
  refine lv_iload_n hx hb dX12_copyShore_38 rfl (lv_at hl 1 rfl) ?_
  refine lv_iload_n hx hb dX12_copyShore_39 rfl (lv_at hl 2 rfl) ?_
  have c_9 : S7 9 = .inl (g.2 0, 120, .inl f9) := (up_ne e7 (by decide) (up_ne e4 (by decide) (up_ne e1 (by decide) h9)))
  refine xcSv E hs hQ hml hl.1 (uCopyRow l g ad _ hD S7 9 (by decide) 120 (by decide) f9 24 4 0 (by decide) (by decide) (by decide) c_9) mX12_copyRow q1743 rfl ⟨by decide, by decide⟩ ⟨by decide, by decide⟩ (Nat.le_of_ble_eq_true rfl) rfl dX12_copyShore_40 (fun S10 H locs hp10 hQ => ?_)
  have e10 := hp10
  have u10 : S10 9 = .inl (g.2 0, 120, .inl (cpF f9 24 4 0 24)) := up_at e10 rfl
  refine lv_aload_n hx hb dX12_copyShore_43 rfl (lv_at hl 0 rfl) ?_
  have c_11 : S10 0 = .inr (12, [.int 0, .ref (ad 1), .ref (ad 2), .ref (ad 3), .ref (ad 4), .ref (ad 5), .int 0, .int 0, .int 0, .int 0, .int 0, .long 0, .int 0, .int 0, .int 0, .int (-1), .ref (ad 6), .ref (ad 7), .ref (ad 8), .ref (ad 9), .ref (ad 10), .ref (ad 11), .ref (ad 12), .ref (ad 13), .ref (ad 14), .ref (ad 15), .int 0, .int 0, .ref (ad 16), .int 0, .int 0, .int 0, .int 0, .int 0, .ref (ad 17), .ref (ad 18), .int 0, .ref (ad 19)]) := (up_ne e10 (by decide) c_8)
  refine xget E hQ 0 (by decide) c_11 rfl 20 (by decide) q1488 rfl dX12_copyShore_44 ?_
  refine lv_bipush (v := 24) hx hb dX12_copyShore_47 (by decide) ?_
  refine lv_iload_n hx hb dX12_copyShore_49 rfl (lv_at hl 1 rfl) ?_
  refine lv_iload_n hx hb dX12_copyShore_50 rfl (lv_at hl 2 rfl) ?_
  have c_12 : S10 10 = .inl (g.2 0, 120, .inl f10) := (up_ne e10 (by decide) (up_ne e7 (by decide) (up_ne e4 (by decide) (up_ne e1 (by decide) h10))))
  refine xcSv E hs hQ hml hl.1 (uCopyRow l g ad _ hD S10 10 (by decide) 120 (by decide) f10 24 4 0 (by decide) (by decide) (by decide) c_12) mX12_copyRow q1743 rfl ⟨by decide, by decide⟩ ⟨by decide, by decide⟩ (Nat.le_of_ble_eq_true rfl) rfl dX12_copyShore_51 (fun S13 H locs hp13 hQ => ?_)
  have e13 := hp13
  have u13 : S13 10 = .inl (g.2 0, 120, .inl (cpF f10 24 4 0 24)) := up_at e13 rfl
  refine lv_aload_n hx hb dX12_copyShore_54 rfl (lv_at hl 0 rfl) ?_
  have c_14 : S13 0 = .inr (12, [.int 0, .ref (ad 1), .ref (ad 2), .ref (ad 3), .ref (ad 4), .ref (ad 5), .int 0, .int 0, .int 0, .int 0, .int 0, .long 0, .int 0, .int 0, .int 0, .int (-1), .ref (ad 6), .ref (ad 7), .ref (ad 8), .ref (ad 9), .ref (ad 10), .ref (ad 11), .ref (ad 12), .ref (ad 13), .ref (ad 14), .ref (ad 15), .int 0, .int 0, .ref (ad 16), .int 0, .int 0, .int 0, .int 0, .int 0, .ref (ad 17), .ref (ad 18), .int 0, .ref (ad 19)]) := (up_ne e13 (by decide) c_11)
  refine xget E hQ 0 (by decide) c_14 rfl 21 (by decide) q1489 rfl dX12_copyShore_55 ?_
  refine lv_iconst (v := 3) hx hb dX12_copyShore_58 (by decide) ?_
  refine lv_iload_n hx hb dX12_copyShore_59 rfl (lv_at hl 1 rfl) ?_
  refine lv_iload_n hx hb dX12_copyShore_60 rfl (lv_at hl 2 rfl) ?_
  have c_15 : S13 11 = .inl (g.2 0, 15, .inl f11) := (up_ne e13 (by decide) (up_ne e10 (by decide) (up_ne e7 (by decide) (up_ne e4 (by decide) (up_ne e1 (by decide) h11)))))
  refine xcSv E hs hQ hml hl.1 (uCopyRow l g ad _ hD S13 11 (by decide) 15 (by decide) f11 3 4 0 (by decide) (by decide) (by decide) c_15) mX12_copyRow q1743 rfl ⟨by decide, by decide⟩ ⟨by decide, by decide⟩ (Nat.le_of_ble_eq_true rfl) rfl dX12_copyShore_61 (fun S16 H locs hp16 hQ => ?_)
  have e16 := hp16
  have u16 : S16 11 = .inl (g.2 0, 15, .inl (cpF f11 3 4 0 3)) := up_at e16 rfl
  refine lv_aload_n hx hb dX12_copyShore_64 rfl (lv_at hl 0 rfl) ?_
  have c_17 : S16 0 = .inr (12, [.int 0, .ref (ad 1), .ref (ad 2), .ref (ad 3), .ref (ad 4), .ref (ad 5), .int 0, .int 0, .int 0, .int 0, .int 0, .long 0, .int 0, .int 0, .int 0, .int (-1), .ref (ad 6), .ref (ad 7), .ref (ad 8), .ref (ad 9), .ref (ad 10), .ref (ad 11), .ref (ad 12), .ref (ad 13), .ref (ad 14), .ref (ad 15), .int 0, .int 0, .ref (ad 16), .int 0, .int 0, .int 0, .int 0, .int 0, .ref (ad 17), .ref (ad 18), .int 0, .ref (ad 19)]) := (up_ne e16 (by decide) c_14)
  refine xget E hQ 0 (by decide) c_17 rfl 22 (by decide) q1490 rfl dX12_copyShore_65 ?_
  refine lv_sipush (v := 160) hx hb dX12_copyShore_68 (by decide) ?_
  refine lv_iload_n hx hb dX12_copyShore_71 rfl (lv_at hl 1 rfl) ?_
  refine lv_iload_n hx hb dX12_copyShore_72 rfl (lv_at hl 2 rfl) ?_
  have c_18 : S16 12 = .inl (g.2 0, 800, .inl f12) := (up_ne e16 (by decide) (up_ne e13 (by decide) (up_ne e10 (by decide) (up_ne e7 (by decide) (up_ne e4 (by decide) (up_ne e1 (by decide) h12))))))
  refine xcSv E hs hQ hml hl.1 (uCopyRow l g ad _ hD S16 12 (by decide) 800 (by decide) f12 160 4 0 (by decide) (by decide) (by decide) c_18) mX12_copyRow q1743 rfl ⟨by decide, by decide⟩ ⟨by decide, by decide⟩ (Nat.le_of_ble_eq_true rfl) rfl dX12_copyShore_73 (fun S19 H locs hp19 hQ => ?_)
  have e19 := hp19
  have u19 : S19 12 = .inl (g.2 0, 800, .inl (cpF f12 160 4 0 160)) := up_at e19 rfl
  have c_20 : S19 6 = .inl (g.2 0, 5, .inl (cpF f6 1 4 0 1)) := (up_ne e19 (by decide) (up_ne e16 (by decide) (up_ne e13 (by decide) (up_ne e10 (by decide) (up_ne e7 (by decide) (up_ne e4 (by decide) u1))))))
  have c_21 : S19 7 = .inl (g.2 0, 50, .inl (cpF f7 10 4 0 10)) := (up_ne e19 (by decide) (up_ne e16 (by decide) (up_ne e13 (by decide) (up_ne e10 (by decide) (up_ne e7 (by decide) u4)))))
  have c_22 : S19 8 = .inl (g.2 0, 120, .inl (cpF f8 24 4 0 24)) := (up_ne e19 (by decide) (up_ne e16 (by decide) (up_ne e13 (by decide) (up_ne e10 (by decide) u7))))
  have c_23 : S19 9 = .inl (g.2 0, 120, .inl (cpF f9 24 4 0 24)) := (up_ne e19 (by decide) (up_ne e16 (by decide) (up_ne e13 (by decide) u10)))
  have c_24 : S19 10 = .inl (g.2 0, 120, .inl (cpF f10 24 4 0 24)) := (up_ne e19 (by decide) (up_ne e16 (by decide) u13))
  have c_25 : S19 11 = .inl (g.2 0, 15, .inl (cpF f11 3 4 0 3)) := (up_ne e19 (by decide) u16)
  exact xrv E hr hlk hQ (⟨fun j hj => (up_ne e19 (fun h => hj (by subst h; decide)) (up_ne e16 (fun h => hj (by subst h; decide)) (up_ne e13 (fun h => hj (by subst h; decide)) (up_ne e10 (fun h => hj (by subst h; decide)) (up_ne e7 (fun h => hj (by subst h; decide)) (up_ne e4 (fun h => hj (by subst h; decide)) (up_ne e1 (fun h => hj (by subst h; decide)) rfl))))))), ⟨_, c_20⟩, ⟨_, c_21⟩, ⟨_, c_22⟩, ⟨_, c_23⟩, ⟨_, c_24⟩, ⟨_, c_25⟩, ⟨_, u19⟩⟩) dX12_copyShore_76
