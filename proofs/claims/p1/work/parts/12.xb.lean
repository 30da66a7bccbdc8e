set_option maxHeartbeats 4000000 in
set_option maxRecDepth 100000 in
theorem uX8_isSlot (l : Launch) (g : GG) (ad : Nat → Nat) (N : Nat) (hD : Dj ad N) (S : SS) (a1 : Int32) : Met l yX8_isSlot (wG (.code yX8_isSlot cX8_isSlot 1 (some .boolean))) (Rm 0) (XPre g ad N S [.int a1]) (va_Qi (fun r S' => S = S' ∧ ((r = 1 ∧ ¬ a1 < 0 ∧ ¬ 4 ≤ a1) ∨ (r = 0 ∧ (a1 < 0 ∨ 4 ≤ a1)))) (QB g ad N) (FA ad N)) 0 0 (FA ad N) := by
  refine xmet cX8_isSlot "EbbWreck$Slots" (by decide) rfl (Nat.le_of_ble_eq_true rfl) (fun p e s m below meth c E hr hlk hml hQ ls hl => ?_)
  have hx := E.1
  have hb := E.2.1
  have hs : Sp ad N (FA ad N) := Sp.fa hD
  have hl : lv_has ls 1 [(0, .int a1)] := hl
  refine lv_iload_n hx hb dX8_isSlot_0 rfl (lv_at hl 0 rfl) ?_
  refine lv_if_lt (tgt := 13) hx hb dX8_isSlot_1 (by decide) (fun k_1 => ?_) (fun k_1 => ?_)
  · refine lv_iconst (v := 0) hx hb dX8_isSlot_13 (by decide) ?_
    exact xrz E hr hlk hQ rfl (⟨rfl, Or.inr ⟨rfl, Or.inl k_1⟩⟩) dX8_isSlot_14
  · refine lv_iload_n hx hb dX8_isSlot_4 rfl (lv_at hl 0 rfl) ?_
    refine lv_iconst (v := 4) hx hb dX8_isSlot_5 (by decide) ?_
    refine lv_icmp_ge (tgt := 13) hx hb dX8_isSlot_6 (by decide) (fun k_2 => ?_) (fun k_2 => ?_)
    · refine lv_iconst (v := 0) hx hb dX8_isSlot_13 (by decide) ?_
      exact xrz E hr hlk hQ rfl (⟨rfl, Or.inr ⟨rfl, Or.inr k_2⟩⟩) dX8_isSlot_14
    · refine lv_iconst (v := 1) hx hb dX8_isSlot_9 (by decide) ?_
      refine lv_goto (tgt := 14) hx hb dX8_isSlot_10 (by decide) ?_
      exact xrz E hr hlk hQ rfl (⟨rfl, Or.inl ⟨rfl, k_1, k_2⟩⟩) dX8_isSlot_14
set_option maxHeartbeats 4000000 in
set_option maxRecDepth 100000 in
theorem fX8_hasRow (l : Launch) (g : GG) (ad : Nat → Nat) (hD : Dj ad 122) (S : SS) (a1 : Int32) (hi : vp_in a1 4) (h111 : S 111 = .inr (8, [.ref (ad 112), .ref (ad 117), .ref (ad 118)])) (h118 : S 118 = .inl (g.2 0, 4, .inl szF)) : Met l yX8_hasRow (wG (.code yX8_hasRow cX8_hasRow 2 (some .boolean))) (Rm 0) (XPre g ad 122 S [.ref (ad 111), .int a1]) (va_Qi (fun r S' => (∀ j, j ∉ ([] : List Nat) → S' j = S j) ∧ r = 0) (QB g ad 122) (FA ad 122)) 0 0 (FA ad 122) := by
  refine xmet cX8_hasRow "EbbWreck$Slots" (by decide) rfl (Nat.le_of_ble_eq_true rfl) (fun p e s m below meth c E hr hlk hml hQ ls hl => ?_)
  have hx := E.1
  have hb := E.2.1
  have hs : Sp ad 122 (FA ad 122) := Sp.fa hD
  have hl : lv_has ls 2 [(0, .ref (ad 111)), (1, .int a1)] := hl
  refine lv_aload_n hx hb dX8_hasRow_0 rfl (lv_at hl 0 rfl) ?_
  refine xget E hQ 111 (by decide) h111 rfl 2 (by decide) q483 rfl dX8_hasRow_1 ?_
  refine lv_iload_n hx hb dX8_hasRow_4 rfl (lv_at hl 1 rfl) ?_
  refine xiald E hQ 118 (by decide) h118 hi dX8_hasRow_5 ?_
  refine sb_at (P := fun z => W _ _ _ _ _ _ _ _ _ _ _ _ _ _ _ (F0 _ _ _ (.int z :: _))) (show szF (a1 : Int32).toNatClampNeg = (-1) from szF_at hi) ?_
  refine lv_iconst (v := (-1)) hx hb dX8_hasRow_6 (by decide) ?_
  refine lv_icmp_eq (tgt := 14) hx hb dX8_hasRow_7 (by decide) (fun k_1 => ?_) (fun k_1 => absurd k_1 (by decide))
  refine lv_iconst (v := 0) hx hb dX8_hasRow_14 (by decide) ?_
  exact xrz E hr hlk hQ rfl (⟨fun j hj => rfl, rfl⟩) dX8_hasRow_15
set_option maxHeartbeats 4000000 in
set_option maxRecDepth 100000 in
theorem fX8_filled (l : Launch) (g : GG) (ad : Nat → Nat) (hD : Dj ad 122) (S : SS) (hX : ∀ i, i < 122 → S i = X0 g ad i) : Met l yX8_filled (wG (.code yX8_filled cX8_filled 3 (some .int))) (Rm 1) (XPre g ad 122 S [.ref (ad 111)]) (va_Qi (fun r _ => r = 0) (QB g ad 122) (FA ad 122)) 0 0 (FA ad 122) := by
  refine xmet cX8_filled "EbbWreck$Slots" (by decide) rfl (Nat.le_of_ble_eq_true rfl) (fun p e s m below meth c E hr hlk hml hQ ls hl => ?_)
  have hx := E.1
  have hb := E.2.1
  have hs : Sp ad 122 (FA ad 122) := Sp.fa hD
  have hl : lv_has ls 3 [(0, .ref (ad 111))] := hl
  refine lv_iconst (v := 0) hx hb dX8_filled_0 (by decide) ?_
  refine lv_istore_n (lv' := [(1, .int 0), (0, .ref (ad 111))]) hx hb dX8_filled_1 rfl hl (by decide) rfl (fun ls hl => ?_)
  refine lv_iconst (v := 0) hx hb dX8_filled_2 (by decide) ?_
  refine lv_istore_n (lv' := [(2, .int 0), (1, .int 0), (0, .ref (ad 111))]) hx hb dX8_filled_3 rfl hl (by decide) rfl (fun ls hl => ?_)
  refine lv_iload_n hx hb dX8_filled_4 rfl (lv_at hl 0 rfl) ?_
  refine lv_iconst (v := 4) hx hb dX8_filled_5 (by decide) ?_
  refine lv_icmp_ge (tgt := 26) hx hb dX8_filled_6 (by decide) (fun k_1 => absurd k_1 (by decide)) (fun k_1 => ?_)
  refine lv_aload_n hx hb dX8_filled_9 rfl (lv_at hl 2 rfl) ?_
  refine lv_iload_n hx hb dX8_filled_10 rfl (lv_at hl 0 rfl) ?_
  have c_2 : S 111 = .inr (8, [.ref (ad 112), .ref (ad 117), .ref (ad 118)]) := (hX 111 (by decide))
  have c_3 : S 118 = .inl (g.2 0, 4, .inl szF) := (hX 118 (by decide))
  refine xcVi E hs hQ hml hl.1 111 (fX8_hasRow l g ad hD S 0 (vp_in_lit 0 4 (by decide)) c_2 c_3) mX8_hasRow q866 (by decide) c_2 rfl rfl ⟨by decide, by decide⟩ ⟨by decide, by decide⟩ (by decide) rfl dX8_filled_11 (fun r4 S4 H locs hp4 hQ _ => ?_)
  obtain ⟨o4, rfl⟩ := hp4
  refine lv_if_eq (tgt := 20) hx hb dX8_filled_14 (by decide) (fun k_5 => ?_) (fun k_5 => absurd k_5 (by decide))
  refine lv_iinc (v := 1) (lv' := [(2, .int 1), (1, .int 0), (0, .ref (ad 111))]) hx hb dX8_filled_20 hl (k := 0) rfl (by decide) (by decide) rfl (fun ls hl => ?_)
  refine lv_goto (tgt := 4) hx hb dX8_filled_23 (by decide) ?_
  refine lv_iload_n hx hb dX8_filled_4 rfl (lv_at hl 0 rfl) ?_
  refine lv_iconst (v := 4) hx hb dX8_filled_5 (by decide) ?_
  refine lv_icmp_ge (tgt := 26) hx hb dX8_filled_6 (by decide) (fun k_6 => absurd k_6 (by decide)) (fun k_6 => ?_)
  refine lv_aload_n hx hb dX8_filled_9 rfl (lv_at hl 2 rfl) ?_
  refine lv_iload_n hx hb dX8_filled_10 rfl (lv_at hl 0 rfl) ?_
  have c_7 : S4 111 = .inr (8, [.ref (ad 112), .ref (ad 117), .ref (ad 118)]) := ((o4 111 (by decide)).trans c_2)
  have c_8 : S4 118 = .inl (g.2 0, 4, .inl szF) := ((o4 118 (by decide)).trans c_3)
  refine xcVi E hs hQ hml hl.1 111 (fX8_hasRow l g ad hD S4 1 (vp_in_lit 1 4 (by decide)) c_7 c_8) mX8_hasRow q866 (by decide) c_7 rfl rfl ⟨by decide, by decide⟩ ⟨by decide, by decide⟩ (by decide) rfl dX8_filled_11 (fun r9 S9 H locs hp9 hQ _ => ?_)
  obtain ⟨o9, rfl⟩ := hp9
  refine lv_if_eq (tgt := 20) hx hb dX8_filled_14 (by decide) (fun k_10 => ?_) (fun k_10 => absurd k_10 (by decide))
  refine lv_iinc (v := 2) (lv' := [(2, .int 2), (1, .int 0), (0, .ref (ad 111))]) hx hb dX8_filled_20 hl (k := 0) rfl (by decide) (by decide) rfl (fun ls hl => ?_)
  refine lv_goto (tgt := 4) hx hb dX8_filled_23 (by decide) ?_
  refine lv_iload_n hx hb dX8_filled_4 rfl (lv_at hl 0 rfl) ?_
  refine lv_iconst (v := 4) hx hb dX8_filled_5 (by decide) ?_
  refine lv_icmp_ge (tgt := 26) hx hb dX8_filled_6 (by decide) (fun k_11 => absurd k_11 (by decide)) (fun k_11 => ?_)
  refine lv_aload_n hx hb dX8_filled_9 rfl (lv_at hl 2 rfl) ?_
  refine lv_iload_n hx hb dX8_filled_10 rfl (lv_at hl 0 rfl) ?_
  have c_12 : S9 111 = .inr (8, [.ref (ad 112), .ref (ad 117), .ref (ad 118)]) := ((o9 111 (by decide)).trans c_7)
  have c_13 : S9 118 = .inl (g.2 0, 4, .inl szF) := ((o9 118 (by decide)).trans c_8)
  refine xcVi E hs hQ hml hl.1 111 (fX8_hasRow l g ad hD S9 2 (vp_in_lit 2 4 (by decide)) c_12 c_13) mX8_hasRow q866 (by decide) c_12 rfl rfl ⟨by decide, by decide⟩ ⟨by decide, by decide⟩ (by decide) rfl dX8_filled_11 (fun r14 S14 H locs hp14 hQ _ => ?_)
  obtain ⟨o14, rfl⟩ := hp14
  refine lv_if_eq (tgt := 20) hx hb dX8_filled_14 (by decide) (fun k_15 => ?_) (fun k_15 => absurd k_15 (by decide))
  refine lv_iinc (v := 3) (lv' := [(2, .int 3), (1, .int 0), (0, .ref (ad 111))]) hx hb dX8_filled_20 hl (k := 0) rfl (by decide) (by decide) rfl (fun ls hl => ?_)
  refine lv_goto (tgt := 4) hx hb dX8_filled_23 (by decide) ?_
  refine lv_iload_n hx hb dX8_filled_4 rfl (lv_at hl 0 rfl) ?_
  refine lv_iconst (v := 4) hx hb dX8_filled_5 (by decide) ?_
  refine lv_icmp_ge (tgt := 26) hx hb dX8_filled_6 (by decide) (fun k_16 => absurd k_16 (by decide)) (fun k_16 => ?_)
  refine lv_aload_n hx hb dX8_filled_9 rfl (lv_at hl 2 rfl) ?_
  refine lv_iload_n hx hb dX8_filled_10 rfl (lv_at hl 0 rfl) ?_
  have c_17 : S14 111 = .inr (8, [.ref (ad 112), .ref (ad 117), .ref (ad 118)]) := ((o14 111 (by decide)).trans c_12)
  have c_18 : S14 118 = .inl (g.2 0, 4, .inl szF) := ((o14 118 (by decide)).trans c_13)
  refine xcVi E hs hQ hml hl.1 111 (fX8_hasRow l g ad hD S14 3 (vp_in_lit 3 4 (by decide)) c_17 c_18) mX8_hasRow q866 (by decide) c_17 rfl rfl ⟨by decide, by decide⟩ ⟨by decide, by decide⟩ (by decide) rfl dX8_filled_11 (fun r19 S19 H locs hp19 hQ _ => ?_)
  obtain ⟨o19, rfl⟩ := hp19
  refine lv_if_eq (tgt := 20) hx hb dX8_filled_14 (by decide) (fun k_20 => ?_) (fun k_20 => absurd k_20 (by decide))
  refine lv_iinc (v := 4) (lv' := [(2, .int 4), (1, .int 0), (0, .ref (ad 111))]) hx hb dX8_filled_20 hl (k := 0) rfl (by decide) (by decide) rfl (fun ls hl => ?_)
  refine lv_goto (tgt := 4) hx hb dX8_filled_23 (by decide) ?_
  refine lv_iload_n hx hb dX8_filled_4 rfl (lv_at hl 0 rfl) ?_
  refine lv_iconst (v := 4) hx hb dX8_filled_5 (by decide) ?_
  refine lv_icmp_ge (tgt := 26) hx hb dX8_filled_6 (by decide) (fun k_21 => ?_) (fun k_21 => absurd k_21 (by decide))
  refine lv_iload_n hx hb dX8_filled_26 rfl (lv_at hl 1 rfl) ?_
  exact xri E hr hlk hQ (rfl) dX8_filled_27
set_option maxHeartbeats 4000000 in
set_option maxRecDepth 100000 in
theorem fX3_collect (l : Launch) (g : GG) (ad : Nat → Nat) (hD : Dj ad 122) (S : SS) (hX : ∀ i, i < 122 → S i = X0 g ad i) (a1 : Int32) : Met l yX3_collect (wG (.code yX3_collect cX3_collect 4 (some .int))) (Rm 1) (XPre g ad 122 S [.ref (ad 119), .int a1]) (va_Qi (fun r _ => r = (-2)) (QB g ad 122) (FA ad 122)) 0 0 (FA ad 122) := by
  refine xmet cX3_collect "EbbWreck$Floats" (by decide) rfl (Nat.le_of_ble_eq_true rfl) (fun p e s m below meth c E hr hlk hml hQ ls hl => ?_)
  have hx := E.1
  have hb := E.2.1
  have hs : Sp ad 122 (FA ad 122) := Sp.fa hD
  have hl : lv_has ls 4 [(0, .ref (ad 119)), (1, .int a1)] := hl
  refine lv_aload_n hx hb dX3_collect_0 rfl (lv_at hl 0 rfl) ?_
  refine lv_iconst (v := 0) hx hb dX3_collect_1 (by decide) ?_
  have c_1 : S 119 = .inr (3, [.ref (ad 2), .ref (ad 111), .ref (ad 120), .int 0, .ref (ad 121)]) := (hX 119 (by decide))
  refine xputi E hs hQ 119 (by decide) c_1 rfl 3 (by decide) q503 rfl rfl (Nat.le_of_ble_eq_true rfl) dX3_collect_2 (fun H locs S2 e2 hQ => ?_)
  have hX : ∀ i, i < 122 → S2 i = X0 g ad i := same_up hX e2 rfl
  refine lv_iload_n hx hb dX3_collect_5 rfl (lv_at hl 1 rfl) ?_
  refine xcSi E hs hQ hml hl.1 (uX8_isSlot l g ad _ hD S2 a1) mX8_isSlot q1199 rfl ⟨by decide, by decide⟩ ⟨by decide, by decide⟩ (by decide) rfl dX3_collect_6 (fun r3 S3 H locs hp3 hQ => ?_)
  obtain ⟨rfl, hp3⟩ := hp3
  rcases hp3 with ⟨rfl, i3, j3⟩ | ⟨rfl, i3⟩
  · refine lv_if_eq (tgt := 22) hx hb dX3_collect_9 (by decide) (fun k_4 => absurd k_4 (by decide)) (fun k_4 => ?_)
    refine lv_aload_n hx hb dX3_collect_12 rfl (lv_at hl 0 rfl) ?_
    have c_5 : S2 119 = .inr (3, [.ref (ad 2), .ref (ad 111), .ref (ad 120), .int 0, .ref (ad 121)]) := (hX 119 (by decide))
    refine xget E hQ 119 (by decide) c_5 rfl 0 (by decide) q500 rfl dX3_collect_13 ?_
    have c_6 : S2 2 = .inr (1, [.int 0, .int 0, .int 0, .ref (ad 3), .ref (ad 5), .ref (ad 6), .int 0, .int 0, .ref (ad 7), .ref (ad 8), .ref (ad 9), .ref (ad 10), .int 0, .ref (ad 15), .ref (ad 16)]) := (hX 2 (by decide))
    refine xcVi E hs hQ hml hl.1 2 (fX1_isTold l g ad hD S2 hX ) mX1_isTold q1202 (by decide) c_6 rfl rfl ⟨by decide, by decide⟩ ⟨by decide, by decide⟩ (by decide) rfl dX3_collect_16 (fun r7 S7 H locs hp7 hQ _ => ?_)
    obtain ⟨rfl, rfl⟩ := hp7
    refine lv_if_ne (tgt := 25) hx hb dX3_collect_19 (by decide) (fun k_8 => absurd k_8 (by decide)) (fun k_8 => ?_)
    refine lv_bipush (v := (-2)) hx hb dX3_collect_22 (by decide) ?_
    exact xri E hr hlk hQ (rfl) dX3_collect_24
  · refine lv_if_eq (tgt := 22) hx hb dX3_collect_9 (by decide) (fun k_9 => ?_) (fun k_9 => absurd k_9 (by decide))
    refine lv_bipush (v := (-2)) hx hb dX3_collect_22 (by decide) ?_
    exact xri E hr hlk hQ (rfl) dX3_collect_24
set_option maxHeartbeats 4000000 in
set_option maxRecDepth 100000 in
theorem fX11_fits (l : Launch) (g : GG) (ad : Nat → Nat) (hD : Dj ad 122) (S : SS) (hX : ∀ i, i < 122 → S i = X0 g ad i) (a1 : Int32) : Met l yX11_fits (wG (.code yX11_fits cX11_fits 2 (some .int))) (Rm 2) (XPre g ad 122 S [.ref (ad 0), .int a1]) (va_Qi (fun r _ => r = (-2)) (QB g ad 122) (FA ad 122)) 0 0 (FA ad 122) := by
  refine xmet cX11_fits "EbbWreck" (by decide) rfl (Nat.le_of_ble_eq_true rfl) (fun p e s m below meth c E hr hlk hml hQ ls hl => ?_)
  have hx := E.1
  have hb := E.2.1
  have hs : Sp ad 122 (FA ad 122) := Sp.fa hD
  have hl : lv_has ls 2 [(0, .ref (ad 0)), (1, .int a1)] := hl
  refine lv_aload_n hx hb dX11_fits_0 rfl (lv_at hl 0 rfl) ?_
  have c_1 : S 0 = .inr (11, [.ref (ad 1), .int 0, .int 0, .int (-1), .ref (ad 2), .ref (ad 20), .ref (ad 38), .ref (ad 93), .ref (ad 94), .ref (ad 95), .ref (ad 102), .ref (ad 104), .ref (ad 107), .ref (ad 111), .ref (ad 119)]) := (hX 0 (by decide))
  refine xget E hQ 0 (by decide) c_1 rfl 14 (by decide) q530 rfl dX11_fits_1 ?_
  refine lv_iload_n hx hb dX11_fits_4 rfl (lv_at hl 1 rfl) ?_
  have c_2 : S 119 = .inr (3, [.ref (ad 2), .ref (ad 111), .ref (ad 120), .int 0, .ref (ad 121)]) := (hX 119 (by decide))
  refine xcVi E hs hQ hml hl.1 119 (fX3_collect l g ad hD S hX a1) mX3_collect q1195 (by decide) c_2 rfl rfl ⟨by decide, by decide⟩ ⟨by decide, by decide⟩ (by decide) rfl dX11_fits_5 (fun r3 S3 H locs hp3 hQ _ => ?_)
  subst hp3
  exact xri E hr hlk hQ (rfl) dX11_fits_8
set_option maxHeartbeats 4000000 in
set_option maxRecDepth 100000 in
theorem fX11_fit (l : Launch) (g : GG) (ad : Nat → Nat) (hD : Dj ad 122) (S : SS) (hX : ∀ i, i < 122 → S i = X0 g ad i) (a1 : Int32) (a2 : Int32) : Met l yX11_fit (wG (.code yX11_fit cX11_fit 3 (some .int))) (Rm 2) (XPre g ad 122 S [.ref (ad 0), .int a1, .int a2]) (va_Qi (fun r _ => r = (-1000)) (QB g ad 122) (FA ad 122)) 0 0 (FA ad 122) := by
  refine xmet cX11_fit "EbbWreck" (by decide) rfl (Nat.le_of_ble_eq_true rfl) (fun p e s m below meth c E hr hlk hml hQ ls hl => ?_)
  have hx := E.1
  have hb := E.2.1
  have hs : Sp ad 122 (FA ad 122) := Sp.fa hD
  have hl : lv_has ls 3 [(0, .ref (ad 0)), (1, .int a1), (2, .int a2)] := hl
  refine lv_aload_n hx hb dX11_fit_0 rfl (lv_at hl 0 rfl) ?_
  have c_1 : S 0 = .inr (11, [.ref (ad 1), .int 0, .int 0, .int (-1), .ref (ad 2), .ref (ad 20), .ref (ad 38), .ref (ad 93), .ref (ad 94), .ref (ad 95), .ref (ad 102), .ref (ad 104), .ref (ad 107), .ref (ad 111), .ref (ad 119)]) := (hX 0 (by decide))
  refine xget E hQ 0 (by decide) c_1 rfl 14 (by decide) q530 rfl dX11_fit_1 ?_
  refine lv_iload_n hx hb dX11_fit_4 rfl (lv_at hl 1 rfl) ?_
  have c_2 : S 119 = .inr (3, [.ref (ad 2), .ref (ad 111), .ref (ad 120), .int 0, .ref (ad 121)]) := (hX 119 (by decide))
  refine xcVi E hs hQ hml hl.1 119 (fX3_collect l g ad hD S hX a1) mX3_collect q1195 (by decide) c_2 rfl rfl ⟨by decide, by decide⟩ ⟨by decide, by decide⟩ (by decide) rfl dX11_fit_5 (fun r3 S3 H locs hp3 hQ _ => ?_)
  subst hp3
  refine lv_iconst (v := 1) hx hb dX11_fit_8 (by decide) ?_
  refine lv_icmp_ge (tgt := 16) hx hb dX11_fit_9 (by decide) (fun k_4 => absurd k_4 (by decide)) (fun k_4 => ?_)
  refine lv_sipush (v := (-1000)) hx hb dX11_fit_12 (by decide) ?_
  exact xri E hr hlk hQ (rfl) dX11_fit_15
set_option maxHeartbeats 4000000 in
set_option maxRecDepth 100000 in
theorem fX11_ask (l : Launch) (g : GG) (ad : Nat → Nat) (hD : Dj ad 122) (S : SS) (hX : ∀ i, i < 122 → S i = X0 g ad i) (a1 : Int32) : Met l yX11_ask (wG (.code yX11_ask cX11_ask 3 (some .int))) (Rm 2) (XPre g ad 122 S [.ref (ad 0), .int a1]) (va_Qi (fun r _ => r = (-2)) (QB g ad 122) (FA ad 122)) 0 0 (FA ad 122) := by
  refine xmet cX11_ask "EbbWreck" (by decide) rfl (Nat.le_of_ble_eq_true rfl) (fun p e s m below meth c E hr hlk hml hQ ls hl => ?_)
  have hx := E.1
  have hb := E.2.1
  have hs : Sp ad 122 (FA ad 122) := Sp.fa hD
  have hl : lv_has ls 3 [(0, .ref (ad 0)), (1, .int a1)] := hl
  refine lv_aload_n hx hb dX11_ask_0 rfl (lv_at hl 0 rfl) ?_
  have c_1 : S 0 = .inr (11, [.ref (ad 1), .int 0, .int 0, .int (-1), .ref (ad 2), .ref (ad 20), .ref (ad 38), .ref (ad 93), .ref (ad 94), .ref (ad 95), .ref (ad 102), .ref (ad 104), .ref (ad 107), .ref (ad 111), .ref (ad 119)]) := (hX 0 (by decide))
  refine xget E hQ 0 (by decide) c_1 rfl 14 (by decide) q530 rfl dX11_ask_1 ?_
  refine lv_iload_n hx hb dX11_ask_4 rfl (lv_at hl 1 rfl) ?_
  have c_2 : S 119 = .inr (3, [.ref (ad 2), .ref (ad 111), .ref (ad 120), .int 0, .ref (ad 121)]) := (hX 119 (by decide))
  refine xcVi E hs hQ hml hl.1 119 (fX3_collect l g ad hD S hX a1) mX3_collect q1195 (by decide) c_2 rfl rfl ⟨by decide, by decide⟩ ⟨by decide, by decide⟩ (by decide) rfl dX11_ask_5 (fun r3 S3 H locs hp3 hQ _ => ?_)
  subst hp3
  refine lv_istore_n (lv' := [(2, .int (-2)), (0, .ref (ad 0)), (1, .int a1)]) hx hb dX11_ask_8 rfl hl (by decide) rfl (fun ls hl => ?_)
  refine lv_iload_n hx hb dX11_ask_9 rfl (lv_at hl 0 rfl) ?_
  refine lv_if_ge (tgt := 17) hx hb dX11_ask_10 (by decide) (fun k_4 => absurd k_4 (by decide)) (fun k_4 => ?_)
  refine lv_iload_n hx hb dX11_ask_13 rfl (lv_at hl 0 rfl) ?_
  refine lv_goto (tgt := 24) hx hb dX11_ask_14 (by decide) ?_
  exact xri E hr hlk hQ (rfl) dX11_ask_24
set_option maxHeartbeats 4000000 in
set_option maxRecDepth 100000 in
theorem fX11_leaves (l : Launch) (g : GG) (ad : Nat → Nat) (hD : Dj ad 122) (S : SS) (hX : ∀ i, i < 122 → S i = X0 g ad i) (a1 : Int32) : Met l yX11_leaves (wG (.code yX11_leaves cX11_leaves 4 (some .int))) (Rm 2) (XPre g ad 122 S [.ref (ad 0), .int a1]) (va_Qi (fun r _ => r = (-2)) (QB g ad 122) (FA ad 122)) 0 0 (FA ad 122) := by
  refine xmet cX11_leaves "EbbWreck" (by decide) rfl (Nat.le_of_ble_eq_true rfl) (fun p e s m below meth c E hr hlk hml hQ ls hl => ?_)
  have hx := E.1
  have hb := E.2.1
  have hs : Sp ad 122 (FA ad 122) := Sp.fa hD
  have hl : lv_has ls 4 [(0, .ref (ad 0)), (1, .int a1)] := hl
  refine lv_aload_n hx hb dX11_leaves_0 rfl (lv_at hl 0 rfl) ?_
  have c_1 : S 0 = .inr (11, [.ref (ad 1), .int 0, .int 0, .int (-1), .ref (ad 2), .ref (ad 20), .ref (ad 38), .ref (ad 93), .ref (ad 94), .ref (ad 95), .ref (ad 102), .ref (ad 104), .ref (ad 107), .ref (ad 111), .ref (ad 119)]) := (hX 0 (by decide))
  refine xget E hQ 0 (by decide) c_1 rfl 14 (by decide) q530 rfl dX11_leaves_1 ?_
  refine lv_iload_n hx hb dX11_leaves_4 rfl (lv_at hl 1 rfl) ?_
  have c_2 : S 119 = .inr (3, [.ref (ad 2), .ref (ad 111), .ref (ad 120), .int 0, .ref (ad 121)]) := (hX 119 (by decide))
  refine xcVi E hs hQ hml hl.1 119 (fX3_collect l g ad hD S hX a1) mX3_collect q1195 (by decide) c_2 rfl rfl ⟨by decide, by decide⟩ ⟨by decide, by decide⟩ (by decide) rfl dX11_leaves_5 (fun r3 S3 H locs hp3 hQ _ => ?_)
  subst hp3
  refine lv_istore_n (lv' := [(2, .int (-2)), (0, .ref (ad 0)), (1, .int a1)]) hx hb dX11_leaves_8 rfl hl (by decide) rfl (fun ls hl => ?_)
  refine lv_iload_n hx hb dX11_leaves_9 rfl (lv_at hl 0 rfl) ?_
  refine lv_if_ge (tgt := 15) hx hb dX11_leaves_10 (by decide) (fun k_4 => absurd k_4 (by decide)) (fun k_4 => ?_)
  refine lv_iload_n hx hb dX11_leaves_13 rfl (lv_at hl 0 rfl) ?_
  exact xri E hr hlk hQ (rfl) dX11_leaves_14
set_option maxHeartbeats 4000000 in
set_option maxRecDepth 100000 in
theorem fX11_end (l : Launch) (g : GG) (ad : Nat → Nat) (hD : Dj ad 122) (S : SS) (hX : ∀ i, i < 122 → S i = X0 g ad i) (a1 : Int32) : Met l yX11_end (wG (.code yX11_end cX11_end 2 (some .int))) (Rm 0) (XPre g ad 122 S [.ref (ad 0), .int a1]) (va_Qi (fun r _ => r = ansEnd a1) (QB g ad 122) (FA ad 122)) 0 0 (FA ad 122) := by
  refine xmet cX11_end "EbbWreck" (by decide) rfl (Nat.le_of_ble_eq_true rfl) (fun p e s m below meth c E hr hlk hml hQ ls hl => ?_)
  have hx := E.1
  have hb := E.2.1
  have hs : Sp ad 122 (FA ad 122) := Sp.fa hD
  have hl : lv_has ls 2 [(0, .ref (ad 0)), (1, .int a1)] := hl
  refine lv_iload_n hx hb dX11_end_0 rfl (lv_at hl 1 rfl) ?_
  refine lv_if_lt (tgt := 12) hx hb dX11_end_1 (by decide) (fun k_1 => ?_) (fun k_1 => ?_)
  · refine lv_iconst (v := (-1)) hx hb dX11_end_12 (by decide) ?_
    exact xri E hr hlk hQ (by try simp only [i32_lt, i32_le, i32_eq, i64_lt, i64_le, w64, l_0, l_1, l_2, l_3, l_4, l_60, l_m1, L_0, L_2, L_3, L_9] at k_1; unfold ansEnd; (repeat' split) <;> first | rfl | omega) dX11_end_13
  · refine lv_iload_n hx hb dX11_end_4 rfl (lv_at hl 1 rfl) ?_
    refine lv_aload_n hx hb dX11_end_5 rfl (lv_at hl 0 rfl) ?_
    have c_2 : S 0 = .inr (11, [.ref (ad 1), .int 0, .int 0, .int (-1), .ref (ad 2), .ref (ad 20), .ref (ad 38), .ref (ad 93), .ref (ad 94), .ref (ad 95), .ref (ad 102), .ref (ad 104), .ref (ad 107), .ref (ad 111), .ref (ad 119)]) := (hX 0 (by decide))
    refine xget E hQ 0 (by decide) c_2 rfl 1 (by decide) q517 rfl dX11_end_6 ?_
    refine lv_icmp_le (tgt := 14) hx hb dX11_end_9 (by decide) (fun k_3 => ?_) (fun k_3 => ?_)
    · refine lv_aload_n hx hb dX11_end_14 rfl (lv_at hl 0 rfl) ?_
      refine lv_iload_n hx hb dX11_end_15 rfl (lv_at hl 1 rfl) ?_
      refine xputi E hs hQ 0 (by decide) c_2 rfl 1 (by decide) q517 rfl rfl (Nat.le_of_ble_eq_true rfl) dX11_end_16 (fun H locs S4 e4 hQ => ?_)
      have u4 : S4 0 = .inr (11, [.ref (ad 1), .int a1, .int 0, .int (-1), .ref (ad 2), .ref (ad 20), .ref (ad 38), .ref (ad 93), .ref (ad 94), .ref (ad 95), .ref (ad 102), .ref (ad 104), .ref (ad 107), .ref (ad 111), .ref (ad 119)]) := up_at e4 rfl
      refine lv_iload_n hx hb dX11_end_19 rfl (lv_at hl 1 rfl) ?_
      exact xri E hr hlk hQ (by try simp only [i32_lt, i32_le, i32_eq, i64_lt, i64_le, w64, l_0, l_1, l_2, l_3, l_4, l_60, l_m1, L_0, L_2, L_3, L_9] at k_1; try simp only [i32_lt, i32_le, i32_eq, i64_lt, i64_le, w64, l_0, l_1, l_2, l_3, l_4, l_60, l_m1, L_0, L_2, L_3, L_9] at k_3; unfold ansEnd; (repeat' split) <;> first | rfl | omega) dX11_end_20
    · refine lv_iconst (v := (-1)) hx hb dX11_end_12 (by decide) ?_
      exact xri E hr hlk hQ (by try simp only [i32_lt, i32_le, i32_eq, i64_lt, i64_le, w64, l_0, l_1, l_2, l_3, l_4, l_60, l_m1, L_0, L_2, L_3, L_9] at k_1; try simp only [i32_lt, i32_le, i32_eq, i64_lt, i64_le, w64, l_0, l_1, l_2, l_3, l_4, l_60, l_m1, L_0, L_2, L_3, L_9] at k_3; unfold ansEnd; (repeat' split) <;> first | rfl | omega) dX11_end_13
set_option maxHeartbeats 4000000 in
set_option maxRecDepth 100000 in
theorem fX11_fault (l : Launch) (g : GG) (ad : Nat → Nat) (hD : Dj ad 122) (S : SS) (hX : ∀ i, i < 122 → S i = X0 g ad i) (a1 : Int32) : Met l yX11_fault (wG (.code yX11_fault cX11_fault 2 (some .int))) (Rm 0) (XPre g ad 122 S [.ref (ad 0), .int a1]) (va_Qi (fun r _ => r = ansFault a1) (QB g ad 122) (FA ad 122)) 0 0 (FA ad 122) := by
  refine xmet cX11_fault "EbbWreck" (by decide) rfl (Nat.le_of_ble_eq_true rfl) (fun p e s m below meth c E hr hlk hml hQ ls hl => ?_)
  have hx := E.1
  have hb := E.2.1
  have hs : Sp ad 122 (FA ad 122) := Sp.fa hD
  have hl : lv_has ls 2 [(0, .ref (ad 0)), (1, .int a1)] := hl
  refine lv_iload_n hx hb dX11_fault_0 rfl (lv_at hl 1 rfl) ?_
  refine lv_if_ne (tgt := 9) hx hb dX11_fault_1 (by decide) (fun k_1 => ?_) (fun k_1 => ?_)
  · refine lv_iload_n hx hb dX11_fault_9 rfl (lv_at hl 1 rfl) ?_
    refine lv_iconst (v := 1) hx hb dX11_fault_10 (by decide) ?_
    refine lv_icmp_ne (tgt := 21) hx hb dX11_fault_11 (by decide) (fun k_2 => ?_) (fun k_2 => ?_)
    · refine lv_iconst (v := (-1)) hx hb dX11_fault_21 (by decide) ?_
      exact xri E hr hlk hQ (by try simp only [i32_lt, i32_le, i32_eq, i64_lt, i64_le, w64, l_0, l_1, l_2, l_3, l_4, l_60, l_m1, L_0, L_2, L_3, L_9] at k_1; try simp only [i32_lt, i32_le, i32_eq, i64_lt, i64_le, w64, l_0, l_1, l_2, l_3, l_4, l_60, l_m1, L_0, L_2, L_3, L_9] at k_2; unfold ansFault; (repeat' split) <;> first | rfl | omega) dX11_fault_22
    · refine lv_aload_n hx hb dX11_fault_14 rfl (lv_at hl 0 rfl) ?_
      have c_3 : S 0 = .inr (11, [.ref (ad 1), .int 0, .int 0, .int (-1), .ref (ad 2), .ref (ad 20), .ref (ad 38), .ref (ad 93), .ref (ad 94), .ref (ad 95), .ref (ad 102), .ref (ad 104), .ref (ad 107), .ref (ad 111), .ref (ad 119)]) := (hX 0 (by decide))
      refine xget E hQ 0 (by decide) c_3 rfl 3 (by decide) q519 rfl dX11_fault_15 ?_
      refine lv_goto (tgt := 22) hx hb dX11_fault_18 (by decide) ?_
      exact xri E hr hlk hQ (by try simp only [i32_lt, i32_le, i32_eq, i64_lt, i64_le, w64, l_0, l_1, l_2, l_3, l_4, l_60, l_m1, L_0, L_2, L_3, L_9] at k_1; try simp only [i32_lt, i32_le, i32_eq, i64_lt, i64_le, w64, l_0, l_1, l_2, l_3, l_4, l_60, l_m1, L_0, L_2, L_3, L_9] at k_2; unfold ansFault; (repeat' split) <;> first | rfl | omega) dX11_fault_22
  · refine lv_aload_n hx hb dX11_fault_4 rfl (lv_at hl 0 rfl) ?_
    have c_4 : S 0 = .inr (11, [.ref (ad 1), .int 0, .int 0, .int (-1), .ref (ad 2), .ref (ad 20), .ref (ad 38), .ref (ad 93), .ref (ad 94), .ref (ad 95), .ref (ad 102), .ref (ad 104), .ref (ad 107), .ref (ad 111), .ref (ad 119)]) := (hX 0 (by decide))
    refine xget E hQ 0 (by decide) c_4 rfl 2 (by decide) q518 rfl dX11_fault_5 ?_
    exact xri E hr hlk hQ (by try simp only [i32_lt, i32_le, i32_eq, i64_lt, i64_le, w64, l_0, l_1, l_2, l_3, l_4, l_60, l_m1, L_0, L_2, L_3, L_9] at k_1; unfold ansFault; (repeat' split) <;> first | rfl | omega) dX11_fault_8
set_option maxHeartbeats 4000000 in
set_option maxRecDepth 100000 in
theorem fX11_back (l : Launch) (g : GG) (ad : Nat → Nat) (hD : Dj ad 122) (S : SS) (hX : ∀ i, i < 122 → S i = X0 g ad i) (a1 : Int32) : Met l yX11_back (wG (.code yX11_back cX11_back 2 (some .int))) (Rm 0) (XPre g ad 122 S [.ref (ad 0), .int a1]) (va_Qi (fun r _ => r = ansBack a1) (QB g ad 122) (FA ad 122)) 0 0 (FA ad 122) := by
  refine xmet cX11_back "EbbWreck" (by decide) rfl (Nat.le_of_ble_eq_true rfl) (fun p e s m below meth c E hr hlk hml hQ ls hl => ?_)
  have hx := E.1
  have hb := E.2.1
  have hs : Sp ad 122 (FA ad 122) := Sp.fa hD
  have hl : lv_has ls 2 [(0, .ref (ad 0)), (1, .int a1)] := hl
  refine lv_iload_n hx hb dX11_back_0 rfl (lv_at hl 1 rfl) ?_
  refine lv_if_lt (tgt := 9) hx hb dX11_back_1 (by decide) (fun k_1 => ?_) (fun k_1 => ?_)
  · refine lv_bipush (v := (-2)) hx hb dX11_back_9 (by decide) ?_
    exact xri E hr hlk hQ (by try simp only [i32_lt, i32_le, i32_eq, i64_lt, i64_le, w64, l_0, l_1, l_2, l_3, l_4, l_60, l_m1, L_0, L_2, L_3, L_9] at k_1; unfold ansBack; (repeat' split) <;> first | rfl | omega) dX11_back_11
  · refine lv_iload_n hx hb dX11_back_4 rfl (lv_at hl 1 rfl) ?_
    refine lv_iconst (v := 3) hx hb dX11_back_5 (by decide) ?_
    refine lv_icmp_lt (tgt := 12) hx hb dX11_back_6 (by decide) (fun k_2 => ?_) (fun k_2 => ?_)
    · refine lv_aload_n hx hb dX11_back_12 rfl (lv_at hl 0 rfl) ?_
      have c_3 : S 0 = .inr (11, [.ref (ad 1), .int 0, .int 0, .int (-1), .ref (ad 2), .ref (ad 20), .ref (ad 38), .ref (ad 93), .ref (ad 94), .ref (ad 95), .ref (ad 102), .ref (ad 104), .ref (ad 107), .ref (ad 111), .ref (ad 119)]) := (hX 0 (by decide))
      refine xget E hQ 0 (by decide) c_3 rfl 7 (by decide) q523 rfl dX11_back_13 ?_
      refine lv_iload_n hx hb dX11_back_16 rfl (lv_at hl 1 rfl) ?_
      have c_4 : S 93 = .inl (g.2 3, 3, .inl zf) := (hX 93 (by decide))
      refine xzald E hQ 93 (by decide) c_4 (vp_in_of2 k_1 (Int32.not_le.mpr k_2) (by decide)) dX11_back_17 ?_
      refine sb_at (P := fun z => W _ _ _ _ _ _ _ _ _ _ _ _ _ _ _ (F0 _ _ _ (.int z :: _))) (show zf (a1 : Int32).toNatClampNeg = 0 from rfl) ?_
      refine lv_if_ne (tgt := 24) hx hb dX11_back_18 (by decide) (fun k_5 => absurd k_5 (by decide)) (fun k_5 => ?_)
      refine lv_bipush (v := (-6)) hx hb dX11_back_21 (by decide) ?_
      exact xri E hr hlk hQ (by try simp only [i32_lt, i32_le, i32_eq, i64_lt, i64_le, w64, l_0, l_1, l_2, l_3, l_4, l_60, l_m1, L_0, L_2, L_3, L_9] at k_1; try simp only [i32_lt, i32_le, i32_eq, i64_lt, i64_le, w64, l_0, l_1, l_2, l_3, l_4, l_60, l_m1, L_0, L_2, L_3, L_9] at k_2; unfold ansBack; (repeat' split) <;> first | rfl | omega) dX11_back_23
    · refine lv_bipush (v := (-2)) hx hb dX11_back_9 (by decide) ?_
      exact xri E hr hlk hQ (by try simp only [i32_lt, i32_le, i32_eq, i64_lt, i64_le, w64, l_0, l_1, l_2, l_3, l_4, l_60, l_m1, L_0, L_2, L_3, L_9] at k_1; try simp only [i32_lt, i32_le, i32_eq, i64_lt, i64_le, w64, l_0, l_1, l_2, l_3, l_4, l_60, l_m1, L_0, L_2, L_3, L_9] at k_2; unfold ansBack; (repeat' split) <;> first | rfl | omega) dX11_back_11
set_option maxHeartbeats 4000000 in
set_option maxRecDepth 100000 in
theorem fX11_write (l : Launch) (g : GG) (ad : Nat → Nat) (hD : Dj ad 122) (S : SS) (hX : ∀ i, i < 122 → S i = X0 g ad i) (a1 : Int32) (a2 : Int32) (a3 : Int64) : Met l yX11_write (wG (.code yX11_write cX11_write 5 (some .int))) (Rm 1) (XPre g ad 122 S [.ref (ad 0), .int a1, .int a2, .long a3]) (va_Qi (fun r _ => r = ansWrite a1) (QB g ad 122) (FA ad 122)) 0 0 (FA ad 122) := by
  refine xmet cX11_write "EbbWreck" (by decide) rfl (Nat.le_of_ble_eq_true rfl) (fun p e s m below meth c E hr hlk hml hQ ls hl => ?_)
  have hx := E.1
  have hb := E.2.1
  have hs : Sp ad 122 (FA ad 122) := Sp.fa hD
  have hl : lv_has ls 5 [(0, .ref (ad 0)), (1, .int a1), (2, .int a2), (3, .long a3)] := hl
  refine lv_iload_n hx hb dX11_write_0 rfl (lv_at hl 1 rfl) ?_
  refine xcSi E hs hQ hml hl.1 (uX8_isSlot l g ad _ hD S a1) mX8_isSlot q1433 rfl ⟨by decide, by decide⟩ ⟨by decide, by decide⟩ (by decide) rfl dX11_write_1 (fun r1 S1 H locs hp1 hQ => ?_)
  obtain ⟨rfl, hp1⟩ := hp1
  rcases hp1 with ⟨rfl, i1, j1⟩ | ⟨rfl, i1⟩
  · refine lv_if_ne (tgt := 10) hx hb dX11_write_4 (by decide) (fun k_2 => ?_) (fun k_2 => absurd k_2 (by decide))
    refine lv_aload_n hx hb dX11_write_10 rfl (lv_at hl 0 rfl) ?_
    have c_3 : S 0 = .inr (11, [.ref (ad 1), .int 0, .int 0, .int (-1), .ref (ad 2), .ref (ad 20), .ref (ad 38), .ref (ad 93), .ref (ad 94), .ref (ad 95), .ref (ad 102), .ref (ad 104), .ref (ad 107), .ref (ad 111), .ref (ad 119)]) := (hX 0 (by decide))
    refine xget E hQ 0 (by decide) c_3 rfl 13 (by decide) q529 rfl dX11_write_11 ?_
    refine lv_iload_n hx hb dX11_write_14 rfl (lv_at hl 1 rfl) ?_
    have c_4 : S 111 = .inr (8, [.ref (ad 112), .ref (ad 117), .ref (ad 118)]) := (hX 111 (by decide))
    have c_5 : S 118 = .inl (g.2 0, 4, .inl szF) := (hX 118 (by decide))
    refine xcVi E hs hQ hml hl.1 111 (fX8_hasRow l g ad hD S a1 (vp_in_of2 i1 j1 (by decide)) c_4 c_5) mX8_hasRow q1445 (by decide) c_4 rfl rfl ⟨by decide, by decide⟩ ⟨by decide, by decide⟩ (by decide) rfl dX11_write_15 (fun r6 S6 H locs hp6 hQ _ => ?_)
    obtain ⟨o6, rfl⟩ := hp6
    refine lv_if_ne (tgt := 24) hx hb dX11_write_18 (by decide) (fun k_7 => absurd k_7 (by decide)) (fun k_7 => ?_)
    refine lv_bipush (v := (-6)) hx hb dX11_write_21 (by decide) ?_
    exact xri E hr hlk hQ (by try simp only [i32_lt, i32_le, i32_eq, i64_lt, i64_le, w64, l_0, l_1, l_2, l_3, l_4, l_60, l_m1, L_0, L_2, L_3, L_9] at i1; try simp only [i32_lt, i32_le, i32_eq, i64_lt, i64_le, w64, l_0, l_1, l_2, l_3, l_4, l_60, l_m1, L_0, L_2, L_3, L_9] at j1; unfold ansWrite; (repeat' split) <;> first | rfl | omega) dX11_write_23
  · refine lv_if_ne (tgt := 10) hx hb dX11_write_4 (by decide) (fun k_8 => absurd k_8 (by decide)) (fun k_8 => ?_)
    refine lv_bipush (v := (-2)) hx hb dX11_write_7 (by decide) ?_
    exact xri E hr hlk hQ (by try simp only [i32_lt, i32_le, i32_eq, i64_lt, i64_le, w64, l_0, l_1, l_2, l_3, l_4, l_60, l_m1, L_0, L_2, L_3, L_9] at i1; unfold ansWrite; (repeat' split) <;> first | rfl | omega) dX11_write_9
set_option maxHeartbeats 4000000 in
set_option maxRecDepth 100000 in
theorem fX11_paste (l : Launch) (g : GG) (ad : Nat → Nat) (hD : Dj ad 122) (S : SS) (hX : ∀ i, i < 122 → S i = X0 g ad i) (a1 : Int32) (a2 : Int32) (a3 : Int32) (a4 : Int32) (a5 : Int32) : Met l yX11_paste (wG (.code yX11_paste cX11_paste 6 (some .int))) (Rm 1) (XPre g ad 122 S [.ref (ad 0), .int a1, .int a2, .int a3, .int a4, .int a5]) (va_Qi (fun r _ => r = ansPaste a1 a3) (QB g ad 122) (FA ad 122)) 0 0 (FA ad 122) := by
  refine xmet cX11_paste "EbbWreck" (by decide) rfl (Nat.le_of_ble_eq_true rfl) (fun p e s m below meth c E hr hlk hml hQ ls hl => ?_)
  have hx := E.1
  have hb := E.2.1
  have hs : Sp ad 122 (FA ad 122) := Sp.fa hD
  have hl : lv_has ls 6 [(0, .ref (ad 0)), (1, .int a1), (2, .int a2), (3, .int a3), (4, .int a4), (5, .int a5)] := hl
  refine lv_iload_n hx hb dX11_paste_0 rfl (lv_at hl 1 rfl) ?_
  refine xcSi E hs hQ hml hl.1 (uX8_isSlot l g ad _ hD S a1) mX8_isSlot q1433 rfl ⟨by decide, by decide⟩ ⟨by decide, by decide⟩ (by decide) rfl dX11_paste_1 (fun r1 S1 H locs hp1 hQ => ?_)
  obtain ⟨rfl, hp1⟩ := hp1
  rcases hp1 with ⟨rfl, i1, j1⟩ | ⟨rfl, i1⟩
  · refine lv_if_eq (tgt := 14) hx hb dX11_paste_4 (by decide) (fun k_2 => absurd k_2 (by decide)) (fun k_2 => ?_)
    refine lv_iload_n hx hb dX11_paste_7 rfl (lv_at hl 3 rfl) ?_
    refine xcSi E hs hQ hml hl.1 (uX8_isSlot l g ad _ hD S a3) mX8_isSlot q1433 rfl ⟨by decide, by decide⟩ ⟨by decide, by decide⟩ (by decide) rfl dX11_paste_8 (fun r3 S3 H locs hp3 hQ => ?_)
    obtain ⟨rfl, hp3⟩ := hp3
    rcases hp3 with ⟨rfl, i3, j3⟩ | ⟨rfl, i3⟩
    · refine lv_if_ne (tgt := 17) hx hb dX11_paste_11 (by decide) (fun k_4 => ?_) (fun k_4 => absurd k_4 (by decide))
      refine lv_aload_n hx hb dX11_paste_17 rfl (lv_at hl 0 rfl) ?_
      have c_5 : S 0 = .inr (11, [.ref (ad 1), .int 0, .int 0, .int (-1), .ref (ad 2), .ref (ad 20), .ref (ad 38), .ref (ad 93), .ref (ad 94), .ref (ad 95), .ref (ad 102), .ref (ad 104), .ref (ad 107), .ref (ad 111), .ref (ad 119)]) := (hX 0 (by decide))
      refine xget E hQ 0 (by decide) c_5 rfl 13 (by decide) q529 rfl dX11_paste_18 ?_
      refine lv_iload_n hx hb dX11_paste_21 rfl (lv_at hl 1 rfl) ?_
      have c_6 : S 111 = .inr (8, [.ref (ad 112), .ref (ad 117), .ref (ad 118)]) := (hX 111 (by decide))
      have c_7 : S 118 = .inl (g.2 0, 4, .inl szF) := (hX 118 (by decide))
      refine xcVi E hs hQ hml hl.1 111 (fX8_hasRow l g ad hD S a1 (vp_in_of2 i1 j1 (by decide)) c_6 c_7) mX8_hasRow q1445 (by decide) c_6 rfl rfl ⟨by decide, by decide⟩ ⟨by decide, by decide⟩ (by decide) rfl dX11_paste_22 (fun r8 S8 H locs hp8 hQ _ => ?_)
      obtain ⟨o8, rfl⟩ := hp8
      refine lv_if_eq (tgt := 39) hx hb dX11_paste_25 (by decide) (fun k_9 => ?_) (fun k_9 => absurd k_9 (by decide))
      refine lv_bipush (v := (-6)) hx hb dX11_paste_39 (by decide) ?_
      exact xri E hr hlk hQ (by try simp only [i32_lt, i32_le, i32_eq, i64_lt, i64_le, w64, l_0, l_1, l_2, l_3, l_4, l_60, l_m1, L_0, L_2, L_3, L_9] at i1; try simp only [i32_lt, i32_le, i32_eq, i64_lt, i64_le, w64, l_0, l_1, l_2, l_3, l_4, l_60, l_m1, L_0, L_2, L_3, L_9] at j1; try simp only [i32_lt, i32_le, i32_eq, i64_lt, i64_le, w64, l_0, l_1, l_2, l_3, l_4, l_60, l_m1, L_0, L_2, L_3, L_9] at i3; try simp only [i32_lt, i32_le, i32_eq, i64_lt, i64_le, w64, l_0, l_1, l_2, l_3, l_4, l_60, l_m1, L_0, L_2, L_3, L_9] at j3; unfold ansPaste; (repeat' split) <;> first | rfl | omega) dX11_paste_41
    · refine lv_if_ne (tgt := 17) hx hb dX11_paste_11 (by decide) (fun k_10 => absurd k_10 (by decide)) (fun k_10 => ?_)
      refine lv_bipush (v := (-2)) hx hb dX11_paste_14 (by decide) ?_
      exact xri E hr hlk hQ (by try simp only [i32_lt, i32_le, i32_eq, i64_lt, i64_le, w64, l_0, l_1, l_2, l_3, l_4, l_60, l_m1, L_0, L_2, L_3, L_9] at i1; try simp only [i32_lt, i32_le, i32_eq, i64_lt, i64_le, w64, l_0, l_1, l_2, l_3, l_4, l_60, l_m1, L_0, L_2, L_3, L_9] at j1; try simp only [i32_lt, i32_le, i32_eq, i64_lt, i64_le, w64, l_0, l_1, l_2, l_3, l_4, l_60, l_m1, L_0, L_2, L_3, L_9] at i3; unfold ansPaste; (repeat' split) <;> first | rfl | omega) dX11_paste_16
  · refine lv_if_eq (tgt := 14) hx hb dX11_paste_4 (by decide) (fun k_11 => ?_) (fun k_11 => absurd k_11 (by decide))
    refine lv_bipush (v := (-2)) hx hb dX11_paste_14 (by decide) ?_
    exact xri E hr hlk hQ (by try simp only [i32_lt, i32_le, i32_eq, i64_lt, i64_le, w64, l_0, l_1, l_2, l_3, l_4, l_60, l_m1, L_0, L_2, L_3, L_9] at i1; unfold ansPaste; (repeat' split) <;> first | rfl | omega) dX11_paste_16
