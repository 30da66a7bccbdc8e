set_option maxHeartbeats 4000000 in
set_option maxRecDepth 100000 in
theorem gX5_failed_94 (l : Launch) (g : GG) (ad : Nat → Nat) (hD : Dj ad 122) (S : SS) (hI : InvX g ad S) : Met l yX5_failed (wG (.code yX5_failed cX5_failed 1 (some .boolean))) (Rm 0) (XPre g ad 122 S [.ref (ad 94)]) (va_Qi (fun r S' => S = S' ∧ Bd r (0) (1)) (QB g ad 122) (FA ad 122)) 0 0 (FA ad 122) := by
  refine xmet cX5_failed "EbbWreck$Reader" (by decide) rfl (Nat.le_of_ble_eq_true rfl) (fun p e s m below meth c E hr hlk hml hQ ls hl => ?_)
  have hx := E.1
  have hb := E.2.1
  have hs : Sp ad 122 (FA ad 122) := Sp.fa hD
  have hl : lv_has ls 1 [(0, .ref (ad 94))] := hl
  refine lv_aload_n hx hb dX5_failed_0 rfl (lv_at hl 0 rfl) ?_
  obtain ⟨v1, v3, v4, v6, v8, v9, v10, c11, b2, b5, b7⟩ := invX_94 hI
  have c11 : S 94 = .inr (5, [.ref (ad 1), .ref (ad 20), .int v1, .int v3, .int v4, .int v6, .int v8, .int v9, .int v10]) := c11
  refine xget E hQ 94 (by decide) c11 rfl 7 (by decide) q349 rfl dX5_failed_1 ?_
  refine lv_if_eq (tgt := 11) hx hb dX5_failed_4 (by decide) (fun k12 => ?_) (fun k12 => ?_)
  · have h13 := ib_eq k12
    have b14 : Bd v9 (0) (0) := ⟨((rf_eq (ib_full v9) (by decide : Bd 0 (0) (0)) h13).1).1, ((rf_eq (ib_full v9) (by decide : Bd 0 (0) (0)) h13).1).2⟩
    refine lv_iconst (v := 0) hx hb dX5_failed_11 (by decide) ?_
    exact xrz E hr hlk hQ rfl (⟨rfl, (ib_wk (by decide : Bd 0 (0) (0)) (by decide) (by decide))⟩) dX5_failed_12
  · have h15 := ib_ne k12
    refine lv_iconst (v := 1) hx hb dX5_failed_7 (by decide) ?_
    refine lv_goto (tgt := 12) hx hb dX5_failed_8 (by decide) ?_
    exact xrz E hr hlk hQ rfl (⟨rfl, (ib_wk (by decide : Bd 1 (1) (1)) (by decide) (by decide))⟩) dX5_failed_12
set_option maxHeartbeats 4000000 in
set_option maxRecDepth 100000 in
theorem gX5_fail_94 (l : Launch) (g : GG) (ad : Nat → Nat) (hD : Dj ad 122) (S : SS) (hI : InvX g ad S) (a1 : Int32) : Met l yX5_fail (wG (.code yX5_fail cX5_fail 2 none)) (Rm 0) (XPre g ad 122 S [.ref (ad 94), .int a1]) (va_Qv (fun S' => InvX g ad S' ∧ (∀ j, j ∉ ([94] : List Nat) → S' j = S j)) (QB g ad 122) (FA ad 122)) 0 0 (FA ad 122) := by
  refine xmet cX5_fail "EbbWreck$Reader" (by decide) rfl (Nat.le_of_ble_eq_true rfl) (fun p e s m below meth c E hr hlk hml hQ ls hl => ?_)
  have hx := E.1
  have hb := E.2.1
  have hs : Sp ad 122 (FA ad 122) := Sp.fa hD
  have hl : lv_has ls 2 [(0, .ref (ad 94)), (1, .int a1)] := hl
  refine lv_aload_n hx hb dX5_fail_0 rfl (lv_at hl 0 rfl) ?_
  obtain ⟨v1, v3, v4, v6, v8, v9, v10, c11, b2, b5, b7⟩ := invX_94 hI
  have c11 : S 94 = .inr (5, [.ref (ad 1), .ref (ad 20), .int v1, .int v3, .int v4, .int v6, .int v8, .int v9, .int v10]) := c11
  refine xget E hQ 94 (by decide) c11 rfl 7 (by decide) q349 rfl dX5_fail_1 ?_
  refine lv_if_ne (tgt := 20) hx hb dX5_fail_4 (by decide) (fun k12 => ?_) (fun k12 => ?_)
  · have h13 := ib_ne k12
    exact xrv E hr hlk hQ (⟨hI, o_refl⟩) dX5_fail_20
  · have h14 := ib_eq k12
    have b15 : Bd v9 (0) (0) := ⟨((rf_eq (ib_full v9) (by decide : Bd 0 (0) (0)) h14).1).1, ((rf_eq (ib_full v9) (by decide : Bd 0 (0) (0)) h14).1).2⟩
    refine lv_aload_n hx hb dX5_fail_7 rfl (lv_at hl 0 rfl) ?_
    refine lv_iload_n hx hb dX5_fail_8 rfl (lv_at hl 1 rfl) ?_
    refine xputi E hs hQ 94 (by decide) c11 rfl 7 (by decide) q349 rfl rfl (Nat.le_of_ble_eq_true rfl) dX5_fail_9 (fun H locs S16 eS16 hQ => ?_)
    have hI := invX_up_94 hI eS16 ⟨v1, v3, v4, v6, v8, a1, v10, rfl, b2, b5, b7⟩
    have c17 : S16 94 = .inr (5, [.ref (ad 1), .ref (ad 20), .int v1, .int v3, .int v4, .int v6, .int v8, .int a1, .int v10]) := up_at eS16 rfl
    refine lv_aload_n hx hb dX5_fail_12 rfl (lv_at hl 0 rfl) ?_
    refine lv_aload_n hx hb dX5_fail_13 rfl (lv_at hl 0 rfl) ?_
    refine xget E hQ 94 (by decide) c17 rfl 4 (by decide) q346 rfl dX5_fail_14 ?_
    refine xputi E hs hQ 94 (by decide) c17 rfl 8 (by decide) q351 rfl rfl (Nat.le_of_ble_eq_true rfl) dX5_fail_17 (fun H locs S18 eS18 hQ => ?_)
    have hI := invX_up_94 hI eS18 ⟨v1, v3, v4, v6, v8, a1, v4, rfl, b2, b5, b7⟩
    have c19 : S18 94 = .inr (5, [.ref (ad 1), .ref (ad 20), .int v1, .int v3, .int v4, .int v6, .int v8, .int a1, .int v4]) := up_at eS18 rfl
    exact xrv E hr hlk hQ (⟨hI, (up_o (up_o o_refl eS16 (by decide)) eS18 (by decide))⟩) dX5_fail_20
set_option maxHeartbeats 4000000 in
set_option maxRecDepth 100000 in
theorem gX5_kindOf (l : Launch) (g : GG) (ad : Nat → Nat) (hD : Dj ad 122) (S : SS) (hI : InvX g ad S) (a1 : Int32) (ba1 : Bd a1 (-128) (127)) : Met l yX5_kindOf (wG (.code yX5_kindOf cX5_kindOf 1 (some .int))) (Rm 0) (XPre g ad 122 S [.int a1]) (va_Qi (fun r S' => S = S' ∧ Bd r (1) (5)) (QB g ad 122) (FA ad 122)) 0 0 (FA ad 122) := by
  refine xmet cX5_kindOf "EbbWreck$Reader" (by decide) rfl (Nat.le_of_ble_eq_true rfl) (fun p e s m below meth c E hr hlk hml hQ ls hl => ?_)
  have hx := E.1
  have hb := E.2.1
  have hs : Sp ad 122 (FA ad 122) := Sp.fa hD
  have hl : lv_has ls 1 [(0, .int a1)] := hl
  refine lv_iload_n hx hb dX5_kindOf_0 rfl (lv_at hl 0 rfl) ?_
  refine lv_bipush (v := 97) hx hb dX5_kindOf_1 (by decide) ?_
  refine lv_icmp_lt (tgt := 14) hx hb dX5_kindOf_3 (by decide) (fun k1 => ?_) (fun k1 => ?_)
  · have h2 := ib_lt k1
    have b3 : Bd a1 (-128) (96) := ⟨(ba1).1, ((rf_lt ba1 (by decide : Bd 97 (97) (97)) h2).1).2⟩
    refine lv_iload_n hx hb dX5_kindOf_14 rfl (lv_at hl 0 rfl) ?_
    refine lv_bipush (v := 48) hx hb dX5_kindOf_15 (by decide) ?_
    refine lv_icmp_lt (tgt := 28) hx hb dX5_kindOf_17 (by decide) (fun k4 => ?_) (fun k4 => ?_)
    · have h5 := ib_lt k4
      have b6 : Bd a1 (-128) (47) := ⟨(b3).1, ((rf_lt b3 (by decide : Bd 48 (48) (48)) h5).1).2⟩
      refine lv_iload_n hx hb dX5_kindOf_28 rfl (lv_at hl 0 rfl) ?_
      refine lv_bipush (v := 32) hx hb dX5_kindOf_29 (by decide) ?_
      refine lv_icmp_eq (tgt := 40) hx hb dX5_kindOf_31 (by decide) (fun k7 => ?_) (fun k7 => ?_)
      · have h8 := ib_eq k7
        have b9 : Bd a1 (32) (32) := ⟨((rf_eq b6 (by decide : Bd 32 (32) (32)) h8).1).1, ((rf_eq b6 (by decide : Bd 32 (32) (32)) h8).1).2⟩
        refine lv_iconst (v := 5) hx hb dX5_kindOf_40 (by decide) ?_
        exact xri E hr hlk hQ (⟨rfl, (ib_wk (by decide : Bd 5 (5) (5)) (by decide) (by decide))⟩) dX5_kindOf_41
      · have h10 := ib_ne k7
        refine lv_iload_n hx hb dX5_kindOf_34 rfl (lv_at hl 0 rfl) ?_
        refine lv_bipush (v := 10) hx hb dX5_kindOf_35 (by decide) ?_
        refine lv_icmp_ne (tgt := 42) hx hb dX5_kindOf_37 (by decide) (fun k11 => ?_) (fun k11 => ?_)
        · have h12 := ib_ne k11
          refine lv_iload_n hx hb dX5_kindOf_42 rfl (lv_at hl 0 rfl) ?_
          refine lv_bipush (v := 59) hx hb dX5_kindOf_43 (by decide) ?_
          refine lv_icmp_ne (tgt := 52) hx hb dX5_kindOf_45 (by decide) (fun k13 => ?_) (fun k13 => ?_)
          · have h14 := ib_ne k13
            refine lv_iconst (v := 4) hx hb dX5_kindOf_52 (by decide) ?_
            exact xri E hr hlk hQ (⟨rfl, (ib_wk (by decide : Bd 4 (4) (4)) (by decide) (by decide))⟩) dX5_kindOf_53
          · have h15 := ib_eq k13
            have b16 : Bd a1 (59) (47) := ⟨((rf_eq b6 (by decide : Bd 59 (59) (59)) h15).1).1, (b6).2⟩
            exact absurd (Int.le_trans b16.1 b16.2) (by decide)
        · have h17 := ib_eq k11
          have b18 : Bd a1 (10) (10) := ⟨((rf_eq b6 (by decide : Bd 10 (10) (10)) h17).1).1, ((rf_eq b6 (by decide : Bd 10 (10) (10)) h17).1).2⟩
          refine lv_iconst (v := 5) hx hb dX5_kindOf_40 (by decide) ?_
          exact xri E hr hlk hQ (⟨rfl, (ib_wk (by decide : Bd 5 (5) (5)) (by decide) (by decide))⟩) dX5_kindOf_41
    · have h19 := ib_nlt k4
      have b20 : Bd a1 (48) (96) := ⟨((rf_le (by decide : Bd 48 (48) (48)) b3 h19).2).1, (b3).2⟩
      refine lv_iload_n hx hb dX5_kindOf_20 rfl (lv_at hl 0 rfl) ?_
      refine lv_bipush (v := 57) hx hb dX5_kindOf_21 (by decide) ?_
      refine lv_icmp_gt (tgt := 28) hx hb dX5_kindOf_23 (by decide) (fun k21 => ?_) (fun k21 => ?_)
      · have h22 := ib_lt k21
        have b23 : Bd a1 (58) (96) := ⟨((rf_lt (by decide : Bd 57 (57) (57)) b20 h22).2).1, (b20).2⟩
        refine lv_iload_n hx hb dX5_kindOf_28 rfl (lv_at hl 0 rfl) ?_
        refine lv_bipush (v := 32) hx hb dX5_kindOf_29 (by decide) ?_
        refine lv_icmp_eq (tgt := 40) hx hb dX5_kindOf_31 (by decide) (fun k24 => ?_) (fun k24 => ?_)
        · have h25 := ib_eq k24
          have b26 : Bd a1 (58) (32) := ⟨(b23).1, ((rf_eq b23 (by decide : Bd 32 (32) (32)) h25).1).2⟩
          exact absurd (Int.le_trans b26.1 b26.2) (by decide)
        · have h27 := ib_ne k24
          refine lv_iload_n hx hb dX5_kindOf_34 rfl (lv_at hl 0 rfl) ?_
          refine lv_bipush (v := 10) hx hb dX5_kindOf_35 (by decide) ?_
          refine lv_icmp_ne (tgt := 42) hx hb dX5_kindOf_37 (by decide) (fun k28 => ?_) (fun k28 => ?_)
          · have h29 := ib_ne k28
            refine lv_iload_n hx hb dX5_kindOf_42 rfl (lv_at hl 0 rfl) ?_
            refine lv_bipush (v := 59) hx hb dX5_kindOf_43 (by decide) ?_
            refine lv_icmp_ne (tgt := 52) hx hb dX5_kindOf_45 (by decide) (fun k30 => ?_) (fun k30 => ?_)
            · have h31 := ib_ne k30
              refine lv_iconst (v := 4) hx hb dX5_kindOf_52 (by decide) ?_
              exact xri E hr hlk hQ (⟨rfl, (ib_wk (by decide : Bd 4 (4) (4)) (by decide) (by decide))⟩) dX5_kindOf_53
            · have h32 := ib_eq k30
              have b33 : Bd a1 (59) (59) := ⟨((rf_eq b23 (by decide : Bd 59 (59) (59)) h32).1).1, ((rf_eq b23 (by decide : Bd 59 (59) (59)) h32).1).2⟩
              refine lv_iconst (v := 3) hx hb dX5_kindOf_48 (by decide) ?_
              refine lv_goto (tgt := 53) hx hb dX5_kindOf_49 (by decide) ?_
              exact xri E hr hlk hQ (⟨rfl, (ib_wk (by decide : Bd 3 (3) (3)) (by decide) (by decide))⟩) dX5_kindOf_53
          · have h34 := ib_eq k28
            have b35 : Bd a1 (58) (10) := ⟨(b23).1, ((rf_eq b23 (by decide : Bd 10 (10) (10)) h34).1).2⟩
            exact absurd (Int.le_trans b35.1 b35.2) (by decide)
      · have h36 := ib_nlt k21
        have b37 : Bd a1 (48) (57) := ⟨(b20).1, ((rf_le b20 (by decide : Bd 57 (57) (57)) h36).1).2⟩
        refine lv_iconst (v := 2) hx hb dX5_kindOf_26 (by decide) ?_
        exact xri E hr hlk hQ (⟨rfl, (ib_wk (by decide : Bd 2 (2) (2)) (by decide) (by decide))⟩) dX5_kindOf_27
  · have h38 := ib_nlt k1
    have b39 : Bd a1 (97) (127) := ⟨((rf_le (by decide : Bd 97 (97) (97)) ba1 h38).2).1, (ba1).2⟩
    refine lv_iload_n hx hb dX5_kindOf_6 rfl (lv_at hl 0 rfl) ?_
    refine lv_bipush (v := 122) hx hb dX5_kindOf_7 (by decide) ?_
    refine lv_icmp_gt (tgt := 14) hx hb dX5_kindOf_9 (by decide) (fun k40 => ?_) (fun k40 => ?_)
    · have h41 := ib_lt k40
      have b42 : Bd a1 (123) (127) := ⟨((rf_lt (by decide : Bd 122 (122) (122)) b39 h41).2).1, (b39).2⟩
      refine lv_iload_n hx hb dX5_kindOf_14 rfl (lv_at hl 0 rfl) ?_
      refine lv_bipush (v := 48) hx hb dX5_kindOf_15 (by decide) ?_
      refine lv_icmp_lt (tgt := 28) hx hb dX5_kindOf_17 (by decide) (fun k43 => ?_) (fun k43 => ?_)
      · have h44 := ib_lt k43
        have b45 : Bd a1 (123) (47) := ⟨(b42).1, ((rf_lt b42 (by decide : Bd 48 (48) (48)) h44).1).2⟩
        exact absurd (Int.le_trans b45.1 b45.2) (by decide)
      · have h46 := ib_nlt k43
        refine lv_iload_n hx hb dX5_kindOf_20 rfl (lv_at hl 0 rfl) ?_
        refine lv_bipush (v := 57) hx hb dX5_kindOf_21 (by decide) ?_
        refine lv_icmp_gt (tgt := 28) hx hb dX5_kindOf_23 (by decide) (fun k47 => ?_) (fun k47 => ?_)
        · have h48 := ib_lt k47
          refine lv_iload_n hx hb dX5_kindOf_28 rfl (lv_at hl 0 rfl) ?_
          refine lv_bipush (v := 32) hx hb dX5_kindOf_29 (by decide) ?_
          refine lv_icmp_eq (tgt := 40) hx hb dX5_kindOf_31 (by decide) (fun k49 => ?_) (fun k49 => ?_)
          · have h50 := ib_eq k49
            have b51 : Bd a1 (123) (32) := ⟨(b42).1, ((rf_eq b42 (by decide : Bd 32 (32) (32)) h50).1).2⟩
            exact absurd (Int.le_trans b51.1 b51.2) (by decide)
          · have h52 := ib_ne k49
            refine lv_iload_n hx hb dX5_kindOf_34 rfl (lv_at hl 0 rfl) ?_
            refine lv_bipush (v := 10) hx hb dX5_kindOf_35 (by decide) ?_
            refine lv_icmp_ne (tgt := 42) hx hb dX5_kindOf_37 (by decide) (fun k53 => ?_) (fun k53 => ?_)
            · have h54 := ib_ne k53
              refine lv_iload_n hx hb dX5_kindOf_42 rfl (lv_at hl 0 rfl) ?_
              refine lv_bipush (v := 59) hx hb dX5_kindOf_43 (by decide) ?_
              refine lv_icmp_ne (tgt := 52) hx hb dX5_kindOf_45 (by decide) (fun k55 => ?_) (fun k55 => ?_)
              · have h56 := ib_ne k55
                refine lv_iconst (v := 4) hx hb dX5_kindOf_52 (by decide) ?_
                exact xri E hr hlk hQ (⟨rfl, (ib_wk (by decide : Bd 4 (4) (4)) (by decide) (by decide))⟩) dX5_kindOf_53
              · have h57 := ib_eq k55
                have b58 : Bd a1 (123) (59) := ⟨(b42).1, ((rf_eq b42 (by decide : Bd 59 (59) (59)) h57).1).2⟩
                exact absurd (Int.le_trans b58.1 b58.2) (by decide)
            · have h59 := ib_eq k53
              have b60 : Bd a1 (123) (10) := ⟨(b42).1, ((rf_eq b42 (by decide : Bd 10 (10) (10)) h59).1).2⟩
              exact absurd (Int.le_trans b60.1 b60.2) (by decide)
        · have h61 := ib_nlt k47
          have b62 : Bd a1 (123) (57) := ⟨(b42).1, ((rf_le b42 (by decide : Bd 57 (57) (57)) h61).1).2⟩
          exact absurd (Int.le_trans b62.1 b62.2) (by decide)
    · have h63 := ib_nlt k40
      have b64 : Bd a1 (97) (122) := ⟨(b39).1, ((rf_le b39 (by decide : Bd 122 (122) (122)) h63).1).2⟩
      refine lv_iconst (v := 1) hx hb dX5_kindOf_12 (by decide) ?_
      exact xri E hr hlk hQ (⟨rfl, (ib_wk (by decide : Bd 1 (1) (1)) (by decide) (by decide))⟩) dX5_kindOf_13
set_option maxHeartbeats 4000000 in
set_option maxRecDepth 100000 in
theorem gX5_isLong_94 (l : Launch) (g : GG) (ad : Nat → Nat) (hD : Dj ad 122) (S : SS) (hI : InvX g ad S) : Met l yX5_isLong (wG (.code yX5_isLong cX5_isLong 1 (some .boolean))) (Rm 0) (XPre g ad 122 S [.ref (ad 94)]) (va_Qi (fun r S' => S = S' ∧ Bd r (0) (1)) (QB g ad 122) (FA ad 122)) 0 0 (FA ad 122) := by
  refine xmet cX5_isLong "EbbWreck$Reader" (by decide) rfl (Nat.le_of_ble_eq_true rfl) (fun p e s m below meth c E hr hlk hml hQ ls hl => ?_)
  have hx := E.1
  have hb := E.2.1
  have hs : Sp ad 122 (FA ad 122) := Sp.fa hD
  have hl : lv_has ls 1 [(0, .ref (ad 94))] := hl
  refine lv_aload_n hx hb dX5_isLong_0 rfl (lv_at hl 0 rfl) ?_
  obtain ⟨v1, v3, v4, v6, v8, v9, v10, c11, b2, b5, b7⟩ := invX_94 hI
  have c11 : S 94 = .inr (5, [.ref (ad 1), .ref (ad 20), .int v1, .int v3, .int v4, .int v6, .int v8, .int v9, .int v10]) := c11
  refine xget E hQ 94 (by decide) c11 rfl 3 (by decide) q345 rfl dX5_isLong_1 ?_
  refine lv_iconst (v := 1) hx hb dX5_isLong_4 (by decide) ?_
  refine lv_icmp_eq (tgt := 16) hx hb dX5_isLong_5 (by decide) (fun k12 => ?_) (fun k12 => ?_)
  · have h13 := ib_eq k12
    have b14 : Bd v3 (1) (1) := ⟨((rf_eq (ib_full v3) (by decide : Bd 1 (1) (1)) h13).1).1, ((rf_eq (ib_full v3) (by decide : Bd 1 (1) (1)) h13).1).2⟩
    refine lv_iconst (v := 1) hx hb dX5_isLong_16 (by decide) ?_
    refine lv_goto (tgt := 21) hx hb dX5_isLong_17 (by decide) ?_
    exact xrz E hr hlk hQ rfl (⟨rfl, (ib_wk (by decide : Bd 1 (1) (1)) (by decide) (by decide))⟩) dX5_isLong_21
  · have h15 := ib_ne k12
    refine lv_aload_n hx hb dX5_isLong_8 rfl (lv_at hl 0 rfl) ?_
    refine xget E hQ 94 (by decide) c11 rfl 3 (by decide) q345 rfl dX5_isLong_9 ?_
    refine lv_iconst (v := 2) hx hb dX5_isLong_12 (by decide) ?_
    refine lv_icmp_ne (tgt := 20) hx hb dX5_isLong_13 (by decide) (fun k16 => ?_) (fun k16 => ?_)
    · have h17 := ib_ne k16
      refine lv_iconst (v := 0) hx hb dX5_isLong_20 (by decide) ?_
      exact xrz E hr hlk hQ rfl (⟨rfl, (ib_wk (by decide : Bd 0 (0) (0)) (by decide) (by decide))⟩) dX5_isLong_21
    · have h18 := ib_eq k16
      have b19 : Bd v3 (2) (2) := ⟨((rf_eq (ib_full v3) (by decide : Bd 2 (2) (2)) h18).1).1, ((rf_eq (ib_full v3) (by decide : Bd 2 (2) (2)) h18).1).2⟩
      refine lv_iconst (v := 1) hx hb dX5_isLong_16 (by decide) ?_
      refine lv_goto (tgt := 21) hx hb dX5_isLong_17 (by decide) ?_
      exact xrz E hr hlk hQ rfl (⟨rfl, (ib_wk (by decide : Bd 1 (1) (1)) (by decide) (by decide))⟩) dX5_isLong_21
set_option maxHeartbeats 4000000 in
set_option maxRecDepth 100000 in
theorem gX5_advance_94 (l : Launch) (g : GG) (ad : Nat → Nat) (hD : Dj ad 122) (S : SS) (hI : InvX g ad S) : Met l yX5_advance (wG (.code yX5_advance cX5_advance 1 none)) (Rm 1) (XPre g ad 122 S [.ref (ad 94)]) (va_Qv (fun S' => InvX g ad S' ∧ (∀ j, j ∉ ([94] : List Nat) → S' j = S j)) (QB g ad 122) (FA ad 122)) 0 0 (FA ad 122) := by
  refine xmet cX5_advance "EbbWreck$Reader" (by decide) rfl (Nat.le_of_ble_eq_true rfl) (fun p e s m below meth c E hr hlk hml hQ ls hl => ?_)
  have hx := E.1
  have hb := E.2.1
  have hs : Sp ad 122 (FA ad 122) := Sp.fa hD
  have hl : lv_has ls 1 [(0, .ref (ad 94))] := hl
  refine lv_aload_n hx hb dX5_advance_0 rfl (lv_at hl 0 rfl) ?_
  refine lv_aload_n hx hb dX5_advance_1 rfl (lv_at hl 0 rfl) ?_
  obtain ⟨v1, v3, v4, v6, v8, v9, v10, c11, b2, b5, b7⟩ := invX_94 hI
  have c11 : S 94 = .inr (5, [.ref (ad 1), .ref (ad 20), .int v1, .int v3, .int v4, .int v6, .int v8, .int v9, .int v10]) := c11
  refine xget E hQ 94 (by decide) c11 rfl 5 (by decide) q347 rfl dX5_advance_2 ?_
  refine xputi E hs hQ 94 (by decide) c11 rfl 4 (by decide) q346 rfl rfl (Nat.le_of_ble_eq_true rfl) dX5_advance_5 (fun H locs S12 eS12 hQ => ?_)
  have hI := invX_up_94 hI eS12 ⟨v1, v3, v6, v6, v8, v9, v10, rfl, b2, b7, b7⟩
  have c13 : S12 94 = .inr (5, [.ref (ad 1), .ref (ad 20), .int v1, .int v3, .int v6, .int v6, .int v8, .int v9, .int v10]) := up_at eS12 rfl
  have loop8 : ∀ (n : Nat) (S_8 : SS) (H : Heap) (locs : List Loc) (ls : Array Slot) (y8_94_2 : Int32) (y8_94_3 : Int32) (y8_94_4 : Int32) (y8_94_5 : Int32) (y8_94_6 : Int32) (y8_94_7 : Int32) (y8_94_8 : Int32), Bd y8_94_2 (0) (1200) → Bd y8_94_4 (0) (1200) → Bd y8_94_5 (0) (1200) → (-1) * y8_94_4.toInt + 1200 < ((n : Nat) : Int) → InvX g ad S_8 → (∀ j, j ∉ ([94] : List Nat) → S_8 j = S12 j) → S_8 94 = .inr (5, [.ref (ad 1), .ref (ad 20), .int y8_94_2, .int y8_94_3, .int y8_94_4, .int y8_94_5, .int y8_94_6, .int y8_94_7, .int y8_94_8]) → Hp g ad 122 S_8 (FA ad 122) s.heap H locs → lv_has ls 1 [(0, .ref (ad 94))] → W p l e (Rm 1) s m [.ref (ad 94)].toArray below meth c H locs 0 0 (MQ below (va_Qv (fun S' => InvX g ad S' ∧ (∀ j, j ∉ ([94] : List Nat) → S' j = S j)) (QB g ad 122) (FA ad 122)) [.ref (ad 94)].toArray s 0 0 (FA ad 122)) (F0 m 8 ls []) := by
    intro n
    induction n with
    | zero => intro S_8 H locs ls y8_94_2 y8_94_3 y8_94_4 y8_94_5 y8_94_6 y8_94_7 y8_94_8 By8_94_2 By8_94_4 By8_94_5 hn8_ hI hf8 cl8_94 hQ hl; exfalso; have := (By8_94_4).2; omega
    | succ n8_ ih8 =>
      intro S_8 H locs ls y8_94_2 y8_94_3 y8_94_4 y8_94_5 y8_94_6 y8_94_7 y8_94_8 By8_94_2 By8_94_4 By8_94_5 hn8_ hI hf8 cl8_94 hQ hl
      refine lv_aload_n hx hb dX5_advance_8 rfl (lv_at hl 0 rfl) ?_
      refine xget E hQ 94 (by decide) cl8_94 rfl 4 (by decide) q346 rfl dX5_advance_9 ?_
      refine lv_aload_n hx hb dX5_advance_12 rfl (lv_at hl 0 rfl) ?_
      refine xget E hQ 94 (by decide) cl8_94 rfl 2 (by decide) q344 rfl dX5_advance_13 ?_
      refine lv_icmp_ge (tgt := 48) hx hb dX5_advance_16 (by decide) (fun k14 => ?_) (fun k14 => ?_)
      · have h15 := ib_le k14
        refine lv_aload_n hx hb dX5_advance_48 rfl (lv_at hl 0 rfl) ?_
        refine lv_aload_n hx hb dX5_advance_49 rfl (lv_at hl 0 rfl) ?_
        refine xget E hQ 94 (by decide) cl8_94 rfl 4 (by decide) q346 rfl dX5_advance_50 ?_
        refine xputi E hs hQ 94 (by decide) cl8_94 rfl 5 (by decide) q347 rfl rfl (Nat.le_of_ble_eq_true rfl) dX5_advance_53 (fun H locs S16 eS16 hQ => ?_)
        have hI := invX_up_94 hI eS16 ⟨y8_94_2, y8_94_3, y8_94_4, y8_94_4, y8_94_6, y8_94_7, y8_94_8, rfl, By8_94_2, By8_94_4, By8_94_4⟩
        have c17 : S16 94 = .inr (5, [.ref (ad 1), .ref (ad 20), .int y8_94_2, .int y8_94_3, .int y8_94_4, .int y8_94_4, .int y8_94_6, .int y8_94_7, .int y8_94_8]) := up_at eS16 rfl
        refine lv_aload_n hx hb dX5_advance_56 rfl (lv_at hl 0 rfl) ?_
        refine lv_iconst (v := 0) hx hb dX5_advance_57 (by decide) ?_
        refine xputi E hs hQ 94 (by decide) c17 rfl 6 (by decide) q348 rfl rfl (Nat.le_of_ble_eq_true rfl) dX5_advance_58 (fun H locs S18 eS18 hQ => ?_)
        have hI := invX_up_94 hI eS18 ⟨y8_94_2, y8_94_3, y8_94_4, y8_94_4, 0, y8_94_7, y8_94_8, rfl, By8_94_2, By8_94_4, By8_94_4⟩
        have c19 : S18 94 = .inr (5, [.ref (ad 1), .ref (ad 20), .int y8_94_2, .int y8_94_3, .int y8_94_4, .int y8_94_4, .int 0, .int y8_94_7, .int y8_94_8]) := up_at eS18 rfl
        refine lv_aload_n hx hb dX5_advance_61 rfl (lv_at hl 0 rfl) ?_
        refine lv_aload_n hx hb dX5_advance_62 rfl (lv_at hl 0 rfl) ?_
        refine xget E hQ 94 (by decide) c19 rfl 4 (by decide) q346 rfl dX5_advance_63 ?_
        refine lv_aload_n hx hb dX5_advance_66 rfl (lv_at hl 0 rfl) ?_
        refine xget E hQ 94 (by decide) c19 rfl 2 (by decide) q344 rfl dX5_advance_67 ?_
        refine lv_icmp_ge (tgt := 88) hx hb dX5_advance_70 (by decide) (fun k20 => ?_) (fun k20 => ?_)
        · have h21 := ib_le k20
          refine lv_iconst (v := 0) hx hb dX5_advance_88 (by decide) ?_
          refine xputi E hs hQ 94 (by decide) c19 rfl 3 (by decide) q345 rfl rfl (Nat.le_of_ble_eq_true rfl) dX5_advance_89 (fun H locs S22 eS22 hQ => ?_)
          have hI := invX_up_94 hI eS22 ⟨y8_94_2, 0, y8_94_4, y8_94_4, 0, y8_94_7, y8_94_8, rfl, By8_94_2, By8_94_4, By8_94_4⟩
          have c23 : S22 94 = .inr (5, [.ref (ad 1), .ref (ad 20), .int y8_94_2, .int 0, .int y8_94_4, .int y8_94_4, .int 0, .int y8_94_7, .int y8_94_8]) := up_at eS22 rfl
          have loop92 : ∀ (n : Nat) (S_92 : SS) (H : Heap) (locs : List Loc) (ls : Array Slot) (y92_94_2 : Int32) (y92_94_3 : Int32) (y92_94_4 : Int32) (y92_94_5 : Int32) (y92_94_6 : Int32) (y92_94_7 : Int32) (y92_94_8 : Int32), Bd y92_94_2 (0) (1200) → Bd y92_94_3 (0) (5) → Bd y92_94_4 (0) (1200) → Bd y92_94_5 (0) (1200) → Bd y92_94_6 (-2147483648) (1000000) → (-1) * y92_94_5.toInt + 1200 < ((n : Nat) : Int) → InvX g ad S_92 → (∀ j, j ∉ ([94] : List Nat) → S_92 j = S22 j) → S_92 94 = .inr (5, [.ref (ad 1), .ref (ad 20), .int y92_94_2, .int y92_94_3, .int y92_94_4, .int y92_94_5, .int y92_94_6, .int y92_94_7, .int y92_94_8]) → Hp g ad 122 S_92 (FA ad 122) s.heap H locs → lv_has ls 1 [(0, .ref (ad 94))] → W p l e (Rm 1) s m [.ref (ad 94)].toArray below meth c H locs 0 0 (MQ below (va_Qv (fun S' => InvX g ad S' ∧ (∀ j, j ∉ ([94] : List Nat) → S' j = S j)) (QB g ad 122) (FA ad 122)) [.ref (ad 94)].toArray s 0 0 (FA ad 122)) (F0 m 92 ls []) := by
            intro n
            induction n with
            | zero => intro S_92 H locs ls y92_94_2 y92_94_3 y92_94_4 y92_94_5 y92_94_6 y92_94_7 y92_94_8 By92_94_2 By92_94_3 By92_94_4 By92_94_5 By92_94_6 hn92_ hI hf92 cl92_94 hQ hl; exfalso; have := (By92_94_5).2; omega
            | succ n92_ ih92 =>
              intro S_92 H locs ls y92_94_2 y92_94_3 y92_94_4 y92_94_5 y92_94_6 y92_94_7 y92_94_8 By92_94_2 By92_94_3 By92_94_4 By92_94_5 By92_94_6 hn92_ hI hf92 cl92_94 hQ hl
              refine lv_aload_n hx hb dX5_advance_92 rfl (lv_at hl 0 rfl) ?_
              refine xget E hQ 94 (by decide) cl92_94 rfl 5 (by decide) q347 rfl dX5_advance_93 ?_
              refine lv_aload_n hx hb dX5_advance_96 rfl (lv_at hl 0 rfl) ?_
              refine xget E hQ 94 (by decide) cl92_94 rfl 2 (by decide) q344 rfl dX5_advance_97 ?_
              refine lv_icmp_ge (tgt := 190) hx hb dX5_advance_100 (by decide) (fun k24 => ?_) (fun k24 => ?_)
              · have h25 := ib_le k24
                exact xrv E hr hlk hQ (⟨hI, (o_trans (up_o (up_o (up_o (o_trans (up_o o_refl eS12 (by decide)) hf8 (by decide)) eS16 (by decide)) eS18 (by decide)) eS22 (by decide)) hf92 (by decide))⟩) dX5_advance_190
              · have h26 := ib_nle k24
                have b27 : Bd y92_94_5 (0) (1199) := ⟨(By92_94_5).1, ((rf_lt By92_94_5 By92_94_2 h26).1).2⟩
                have b28 : Bd y92_94_2 (1) (1200) := ⟨((rf_lt By92_94_5 By92_94_2 h26).2).1, (By92_94_2).2⟩
                refine lv_aload_n hx hb dX5_advance_103 rfl (lv_at hl 0 rfl) ?_
                refine xget E hQ 94 (by decide) cl92_94 rfl 5 (by decide) q347 rfl dX5_advance_104 ?_
                refine lv_aload_n hx hb dX5_advance_107 rfl (lv_at hl 0 rfl) ?_
                refine xget E hQ 94 (by decide) cl92_94 rfl 4 (by decide) q346 rfl dX5_advance_108 ?_
                refine lv_icmp_eq (tgt := 121) hx hb dX5_advance_111 (by decide) (fun k29 => ?_) (fun k29 => ?_)
                · have h30 := ib_eq k29
                  have b31 : Bd y92_94_4 (0) (1199) := ⟨(By92_94_4).1, ((rf_eq b27 By92_94_4 h30).2).2⟩
                  refine lv_aload_n hx hb dX5_advance_121 rfl (lv_at hl 0 rfl) ?_
                  refine xget E hQ 94 (by decide) cl92_94 rfl 0 (by decide) q342 rfl dX5_advance_122 ?_
                  refine lv_aload_n hx hb dX5_advance_125 rfl (lv_at hl 0 rfl) ?_
                  refine xget E hQ 94 (by decide) cl92_94 rfl 5 (by decide) q347 rfl dX5_advance_126 ?_
                  obtain ⟨f32, c33, b34⟩ := invX_1 hI
                  refine xbald E hQ 1 (by decide) c33 (ib_in b27 (by decide) (by decide)) dX5_advance_129 ?_
                  refine lv_topi (fun z35 e36 => ?_)
                  have b37 : Bd z35 (-128) (127) := (by rw [e36]; exact b34 _)
                  refine xcSi E hs hQ hml hl.1 (gX5_kindOf l g ad hD S_92 hI z35 b37) mX5_kindOf q602 rfl ⟨(Nat.le_of_ble_eq_true rfl), (Nat.le_of_ble_eq_true rfl)⟩ ⟨(Nat.le_of_ble_eq_true rfl), (Nat.le_of_ble_eq_true rfl)⟩ (Nat.le_of_ble_eq_true rfl) rfl dX5_advance_130 (fun r38 S38 H locs hp38 hQ => ?_)
                  obtain ⟨rfl, b38⟩ := hp38
                  refine lv_aload_n hx hb dX5_advance_133 rfl (lv_at hl 0 rfl) ?_
                  refine xget E hQ 94 (by decide) cl92_94 rfl 3 (by decide) q345 rfl dX5_advance_134 ?_
                  refine lv_icmp_ne (tgt := 190) hx hb dX5_advance_137 (by decide) (fun k39 => ?_) (fun k39 => ?_)
                  · have h40 := ib_ne k39
                    exact xrv E hr hlk hQ (⟨hI, (o_trans (up_o (up_o (up_o (o_trans (up_o o_refl eS12 (by decide)) hf8 (by decide)) eS16 (by decide)) eS18 (by decide)) eS22 (by decide)) hf92 (by decide))⟩) dX5_advance_190
                  · have h41 := ib_eq k39
                    have b42 : Bd y92_94_3 (1) (5) := ⟨((rf_eq b38 By92_94_3 h41).2).1, (By92_94_3).2⟩
                    refine lv_aload_n hx hb dX5_advance_140 rfl (lv_at hl 0 rfl) ?_
                    refine xget E hQ 94 (by decide) cl92_94 rfl 3 (by decide) q345 rfl dX5_advance_141 ?_
                    refine lv_iconst (v := 2) hx hb dX5_advance_144 (by decide) ?_
                    refine lv_icmp_ne (tgt := 177) hx hb dX5_advance_145 (by decide) (fun k43 => ?_) (fun k43 => ?_)
                    · have h44 := ib_ne k43
                      refine lv_aload_n hx hb dX5_advance_177 rfl (lv_at hl 0 rfl) ?_
                      refine lv_dup hx hb dX5_advance_178 rfl ?_
                      refine xget E hQ 94 (by decide) cl92_94 rfl 5 (by decide) q347 rfl dX5_advance_179 ?_
                      refine lv_iconst (v := 1) hx hb dX5_advance_182 (by decide) ?_
                      refine lv_iadd hx hb dX5_advance_183 ?_
                      refine lv_topi (fun z45 e46 => ?_)
                      have t47 := ib_add e46 b27 (by decide : Bd 1 (1) (1)) (by decide) (by decide)
                      have b48 : Bd z45 (1) (1200) := ib_addb t47 b27 (by decide : Bd 1 (1) (1))
                      have t47 : z45.toInt = y92_94_5.toInt + 1 := fold_add t47 rfl (by decide)
                      refine xputi E hs hQ 94 (by decide) cl92_94 rfl 5 (by decide) q347 rfl rfl (Nat.le_of_ble_eq_true rfl) dX5_advance_184 (fun H locs S49 eS49 hQ => ?_)
                      have hI := invX_up_94 hI eS49 ⟨y92_94_2, y92_94_3, y92_94_4, z45, y92_94_6, y92_94_7, y92_94_8, rfl, (ib_wk b28 (by decide) (by decide)), (ib_wk b31 (by decide) (by decide)), (ib_wk b48 (by decide) (by decide))⟩
                      have c50 : S49 94 = .inr (5, [.ref (ad 1), .ref (ad 20), .int y92_94_2, .int y92_94_3, .int y92_94_4, .int z45, .int y92_94_6, .int y92_94_7, .int y92_94_8]) := up_at eS49 rfl
                      refine lv_goto (tgt := 92) hx hb dX5_advance_187 (by decide) ?_
                      exact ih92 _ _ _ _ y92_94_2 y92_94_3 y92_94_4 z45 y92_94_6 y92_94_7 y92_94_8 (ib_wk b28 (by decide) (by decide)) (ib_wk b42 (by decide) (by decide)) (ib_wk b31 (by decide) (by decide)) (ib_wk b48 (by decide) (by decide)) By92_94_6 (by omega) hI (up_o hf92 eS49 (by decide)) c50 hQ (lv_sub hl [0] rfl)
                    · have h51 := ib_eq k43
                      have b52 : Bd y92_94_3 (2) (2) := ⟨((rf_eq b42 (by decide : Bd 2 (2) (2)) h51).1).1, ((rf_eq b42 (by decide : Bd 2 (2) (2)) h51).1).2⟩
                      refine lv_aload_n hx hb dX5_advance_148 rfl (lv_at hl 0 rfl) ?_
                      refine lv_aload_n hx hb dX5_advance_149 rfl (lv_at hl 0 rfl) ?_
                      refine xget E hQ 94 (by decide) cl92_94 rfl 6 (by decide) q348 rfl dX5_advance_150 ?_
                      refine lv_bipush (v := 10) hx hb dX5_advance_153 (by decide) ?_
                      refine lv_imul hx hb dX5_advance_155 ?_
                      refine lv_topi (fun z53 e54 => ?_)
                      refine lv_aload_n hx hb dX5_advance_156 rfl (lv_at hl 0 rfl) ?_
                      refine xget E hQ 94 (by decide) cl92_94 rfl 0 (by decide) q342 rfl dX5_advance_157 ?_
                      refine lv_aload_n hx hb dX5_advance_160 rfl (lv_at hl 0 rfl) ?_
                      refine xget E hQ 94 (by decide) cl92_94 rfl 5 (by decide) q347 rfl dX5_advance_161 ?_
                      refine xbald E hQ 1 (by decide) c33 (ib_in b27 (by decide) (by decide)) dX5_advance_164 ?_
                      refine lv_topi (fun z55 e56 => ?_)
                      have b57 : Bd z55 (-128) (127) := (by rw [e56]; exact b34 _)
                      refine lv_iadd hx hb dX5_advance_165 ?_
                      refine lv_topi (fun z58 e59 => ?_)
                      refine lv_bipush (v := 48) hx hb dX5_advance_166 (by decide) ?_
                      refine lv_isub hx hb dX5_advance_168 ?_
                      refine lv_topi (fun z60 e61 => ?_)
                      refine lv_ldc (v := 1000000) hx hb E.2.2.1 (E.2.2.2.1 _ q609) dX5_advance_169 ?_
                      refine va_mmin hx hb (hml.trans hl.1.symm) E.2.2.1 (E.2.2.2.1 _ q582) (E.2.2.2.1 _ q583) (E.2.2.2.1 _ q128) (E.2.2.2.1 _ q584) (Nat.le_of_ble_eq_true rfl) (Nat.le_of_ble_eq_true rfl) (Nat.le_of_ble_eq_true rfl) (Nat.le_of_ble_eq_true rfl) dX5_advance_171 ?_
                      refine lv_topi (fun z62 e63 => ?_)
                      have b64 : Bd z62 (-2147483648) (1000000) := ib_min e63 (ib_full z60) (by decide : Bd 1000000 (1000000) (1000000)) (by decide) (by decide) (by decide) (by decide)
                      have t65 := ib_minx (p := z60.toInt) (q := 1000000) e63 rfl (by decide)
                      refine xputi E hs hQ 94 (by decide) cl92_94 rfl 6 (by decide) q348 rfl rfl (Nat.le_of_ble_eq_true rfl) dX5_advance_174 (fun H locs S66 eS66 hQ => ?_)
                      have hI := invX_up_94 hI eS66 ⟨y92_94_2, y92_94_3, y92_94_4, y92_94_5, z62, y92_94_7, y92_94_8, rfl, (ib_wk b28 (by decide) (by decide)), (ib_wk b31 (by decide) (by decide)), (ib_wk b27 (by decide) (by decide))⟩
                      have c67 : S66 94 = .inr (5, [.ref (ad 1), .ref (ad 20), .int y92_94_2, .int y92_94_3, .int y92_94_4, .int y92_94_5, .int z62, .int y92_94_7, .int y92_94_8]) := up_at eS66 rfl
                      refine lv_aload_n hx hb dX5_advance_177 rfl (lv_at hl 0 rfl) ?_
                      refine lv_dup hx hb dX5_advance_178 rfl ?_
                      refine xget E hQ 94 (by decide) c67 rfl 5 (by decide) q347 rfl dX5_advance_179 ?_
                      refine lv_iconst (v := 1) hx hb dX5_advance_182 (by decide) ?_
                      refine lv_iadd hx hb dX5_advance_183 ?_
                      refine lv_topi (fun z68 e69 => ?_)
                      have t70 := ib_add e69 b27 (by decide : Bd 1 (1) (1)) (by decide) (by decide)
                      have b71 : Bd z68 (1) (1200) := ib_addb t70 b27 (by decide : Bd 1 (1) (1))
                      have t70 : z68.toInt = y92_94_5.toInt + 1 := fold_add t70 rfl (by decide)
                      refine xputi E hs hQ 94 (by decide) c67 rfl 5 (by decide) q347 rfl rfl (Nat.le_of_ble_eq_true rfl) dX5_advance_184 (fun H locs S72 eS72 hQ => ?_)
                      have hI := invX_up_94 hI eS72 ⟨y92_94_2, y92_94_3, y92_94_4, z68, z62, y92_94_7, y92_94_8, rfl, (ib_wk b28 (by decide) (by decide)), (ib_wk b31 (by decide) (by decide)), (ib_wk b71 (by decide) (by decide))⟩
                      have c73 : S72 94 = .inr (5, [.ref (ad 1), .ref (ad 20), .int y92_94_2, .int y92_94_3, .int y92_94_4, .int z68, .int z62, .int y92_94_7, .int y92_94_8]) := up_at eS72 rfl
                      refine lv_goto (tgt := 92) hx hb dX5_advance_187 (by decide) ?_
                      exact ih92 _ _ _ _ y92_94_2 y92_94_3 y92_94_4 z68 z62 y92_94_7 y92_94_8 (ib_wk b28 (by decide) (by decide)) (ib_wk b52 (by decide) (by decide)) (ib_wk b31 (by decide) (by decide)) (ib_wk b71 (by decide) (by decide)) b64 (by omega) hI (up_o (up_o hf92 eS66 (by decide)) eS72 (by decide)) c73 hQ (lv_sub hl [0] rfl)
                · have h74 := ib_ne k29
                  refine lv_aload_n hx hb dX5_advance_114 rfl (lv_at hl 0 rfl) ?_
                  refine xcVi E hs hQ hml hl.1 94 (gX5_isLong_94 l g ad hD S_92 hI ) mX5_isLong q605 (by decide) cl92_94 rfl rfl ⟨(Nat.le_of_ble_eq_true rfl), (Nat.le_of_ble_eq_true rfl)⟩ ⟨(Nat.le_of_ble_eq_true rfl), (Nat.le_of_ble_eq_true rfl)⟩ (Nat.le_of_ble_eq_true rfl) rfl dX5_advance_115 (fun r75 S75 H locs hp75 hQ _ => ?_)
                  obtain ⟨rfl, b75⟩ := hp75
                  refine lv_if_eq (tgt := 190) hx hb dX5_advance_118 (by decide) (fun k76 => ?_) (fun k76 => ?_)
                  · have h77 := ib_eq k76
                    have b78 : Bd r75 (0) (0) := ⟨(b75).1, ((rf_eq b75 (by decide : Bd 0 (0) (0)) h77).1).2⟩
                    exact xrv E hr hlk hQ (⟨hI, (o_trans (up_o (up_o (up_o (o_trans (up_o o_refl eS12 (by decide)) hf8 (by decide)) eS16 (by decide)) eS18 (by decide)) eS22 (by decide)) hf92 (by decide))⟩) dX5_advance_190
                  · have h79 := ib_ne k76
                    have b80 : Bd r75 (1) (1) := rf_nlo b75 (by decide : Bd 0 (0) (0)) h79
                    refine lv_aload_n hx hb dX5_advance_121 rfl (lv_at hl 0 rfl) ?_
                    refine xget E hQ 94 (by decide) cl92_94 rfl 0 (by decide) q342 rfl dX5_advance_122 ?_
                    refine lv_aload_n hx hb dX5_advance_125 rfl (lv_at hl 0 rfl) ?_
                    refine xget E hQ 94 (by decide) cl92_94 rfl 5 (by decide) q347 rfl dX5_advance_126 ?_
                    obtain ⟨f81, c82, b83⟩ := invX_1 hI
                    refine xbald E hQ 1 (by decide) c82 (ib_in b27 (by decide) (by decide)) dX5_advance_129 ?_
                    refine lv_topi (fun z84 e85 => ?_)
                    have b86 : Bd z84 (-128) (127) := (by rw [e85]; exact b83 _)
                    refine xcSi E hs hQ hml hl.1 (gX5_kindOf l g ad hD S_92 hI z84 b86) mX5_kindOf q602 rfl ⟨(Nat.le_of_ble_eq_true rfl), (Nat.le_of_ble_eq_true rfl)⟩ ⟨(Nat.le_of_ble_eq_true rfl), (Nat.le_of_ble_eq_true rfl)⟩ (Nat.le_of_ble_eq_true rfl) rfl dX5_advance_130 (fun r87 S87 H locs hp87 hQ => ?_)
                    obtain ⟨rfl, b87⟩ := hp87
                    refine lv_aload_n hx hb dX5_advance_133 rfl (lv_at hl 0 rfl) ?_
                    refine xget E hQ 94 (by decide) cl92_94 rfl 3 (by decide) q345 rfl dX5_advance_134 ?_
                    refine lv_icmp_ne (tgt := 190) hx hb dX5_advance_137 (by decide) (fun k88 => ?_) (fun k88 => ?_)
                    · have h89 := ib_ne k88
                      exact xrv E hr hlk hQ (⟨hI, (o_trans (up_o (up_o (up_o (o_trans (up_o o_refl eS12 (by decide)) hf8 (by decide)) eS16 (by decide)) eS18 (by decide)) eS22 (by decide)) hf92 (by decide))⟩) dX5_advance_190
                    · have h90 := ib_eq k88
                      have b91 : Bd y92_94_3 (1) (5) := ⟨((rf_eq b87 By92_94_3 h90).2).1, (By92_94_3).2⟩
                      refine lv_aload_n hx hb dX5_advance_140 rfl (lv_at hl 0 rfl) ?_
                      refine xget E hQ 94 (by decide) cl92_94 rfl 3 (by decide) q345 rfl dX5_advance_141 ?_
                      refine lv_iconst (v := 2) hx hb dX5_advance_144 (by decide) ?_
                      refine lv_icmp_ne (tgt := 177) hx hb dX5_advance_145 (by decide) (fun k92 => ?_) (fun k92 => ?_)
                      · have h93 := ib_ne k92
                        refine lv_aload_n hx hb dX5_advance_177 rfl (lv_at hl 0 rfl) ?_
                        refine lv_dup hx hb dX5_advance_178 rfl ?_
                        refine xget E hQ 94 (by decide) cl92_94 rfl 5 (by decide) q347 rfl dX5_advance_179 ?_
                        refine lv_iconst (v := 1) hx hb dX5_advance_182 (by decide) ?_
                        refine lv_iadd hx hb dX5_advance_183 ?_
                        refine lv_topi (fun z94 e95 => ?_)
                        have t96 := ib_add e95 b27 (by decide : Bd 1 (1) (1)) (by decide) (by decide)
                        have b97 : Bd z94 (1) (1200) := ib_addb t96 b27 (by decide : Bd 1 (1) (1))
                        have t96 : z94.toInt = y92_94_5.toInt + 1 := fold_add t96 rfl (by decide)
                        refine xputi E hs hQ 94 (by decide) cl92_94 rfl 5 (by decide) q347 rfl rfl (Nat.le_of_ble_eq_true rfl) dX5_advance_184 (fun H locs S98 eS98 hQ => ?_)
                        have hI := invX_up_94 hI eS98 ⟨y92_94_2, y92_94_3, y92_94_4, z94, y92_94_6, y92_94_7, y92_94_8, rfl, (ib_wk b28 (by decide) (by decide)), By92_94_4, (ib_wk b97 (by decide) (by decide))⟩
                        have c99 : S98 94 = .inr (5, [.ref (ad 1), .ref (ad 20), .int y92_94_2, .int y92_94_3, .int y92_94_4, .int z94, .int y92_94_6, .int y92_94_7, .int y92_94_8]) := up_at eS98 rfl
                        refine lv_goto (tgt := 92) hx hb dX5_advance_187 (by decide) ?_
                        exact ih92 _ _ _ _ y92_94_2 y92_94_3 y92_94_4 z94 y92_94_6 y92_94_7 y92_94_8 (ib_wk b28 (by decide) (by decide)) (ib_wk b91 (by decide) (by decide)) By92_94_4 (ib_wk b97 (by decide) (by decide)) By92_94_6 (by omega) hI (up_o hf92 eS98 (by decide)) c99 hQ (lv_sub hl [0] rfl)
                      · have h100 := ib_eq k92
                        have b101 : Bd y92_94_3 (2) (2) := ⟨((rf_eq b91 (by decide : Bd 2 (2) (2)) h100).1).1, ((rf_eq b91 (by decide : Bd 2 (2) (2)) h100).1).2⟩
                        refine lv_aload_n hx hb dX5_advance_148 rfl (lv_at hl 0 rfl) ?_
                        refine lv_aload_n hx hb dX5_advance_149 rfl (lv_at hl 0 rfl) ?_
                        refine xget E hQ 94 (by decide) cl92_94 rfl 6 (by decide) q348 rfl dX5_advance_150 ?_
                        refine lv_bipush (v := 10) hx hb dX5_advance_153 (by decide) ?_
                        refine lv_imul hx hb dX5_advance_155 ?_
                        refine lv_topi (fun z102 e103 => ?_)
                        refine lv_aload_n hx hb dX5_advance_156 rfl (lv_at hl 0 rfl) ?_
                        refine xget E hQ 94 (by decide) cl92_94 rfl 0 (by decide) q342 rfl dX5_advance_157 ?_
                        refine lv_aload_n hx hb dX5_advance_160 rfl (lv_at hl 0 rfl) ?_
                        refine xget E hQ 94 (by decide) cl92_94 rfl 5 (by decide) q347 rfl dX5_advance_161 ?_
                        refine xbald E hQ 1 (by decide) c82 (ib_in b27 (by decide) (by decide)) dX5_advance_164 ?_
                        refine lv_topi (fun z104 e105 => ?_)
                        have b106 : Bd z104 (-128) (127) := (by rw [e105]; exact b83 _)
                        refine lv_iadd hx hb dX5_advance_165 ?_
                        refine lv_topi (fun z107 e108 => ?_)
                        refine lv_bipush (v := 48) hx hb dX5_advance_166 (by decide) ?_
                        refine lv_isub hx hb dX5_advance_168 ?_
                        refine lv_topi (fun z109 e110 => ?_)
                        refine lv_ldc (v := 1000000) hx hb E.2.2.1 (E.2.2.2.1 _ q609) dX5_advance_169 ?_
                        refine va_mmin hx hb (hml.trans hl.1.symm) E.2.2.1 (E.2.2.2.1 _ q582) (E.2.2.2.1 _ q583) (E.2.2.2.1 _ q128) (E.2.2.2.1 _ q584) (Nat.le_of_ble_eq_true rfl) (Nat.le_of_ble_eq_true rfl) (Nat.le_of_ble_eq_true rfl) (Nat.le_of_ble_eq_true rfl) dX5_advance_171 ?_
                        refine lv_topi (fun z111 e112 => ?_)
                        have b113 : Bd z111 (-2147483648) (1000000) := ib_min e112 (ib_full z109) (by decide : Bd 1000000 (1000000) (1000000)) (by decide) (by decide) (by decide) (by decide)
                        have t114 := ib_minx (p := z109.toInt) (q := 1000000) e112 rfl (by decide)
                        refine xputi E hs hQ 94 (by decide) cl92_94 rfl 6 (by decide) q348 rfl rfl (Nat.le_of_ble_eq_true rfl) dX5_advance_174 (fun H locs S115 eS115 hQ => ?_)
                        have hI := invX_up_94 hI eS115 ⟨y92_94_2, y92_94_3, y92_94_4, y92_94_5, z111, y92_94_7, y92_94_8, rfl, (ib_wk b28 (by decide) (by decide)), By92_94_4, (ib_wk b27 (by decide) (by decide))⟩
                        have c116 : S115 94 = .inr (5, [.ref (ad 1), .ref (ad 20), .int y92_94_2, .int y92_94_3, .int y92_94_4, .int y92_94_5, .int z111, .int y92_94_7, .int y92_94_8]) := up_at eS115 rfl
                        refine lv_aload_n hx hb dX5_advance_177 rfl (lv_at hl 0 rfl) ?_
                        refine lv_dup hx hb dX5_advance_178 rfl ?_
                        refine xget E hQ 94 (by decide) c116 rfl 5 (by decide) q347 rfl dX5_advance_179 ?_
                        refine lv_iconst (v := 1) hx hb dX5_advance_182 (by decide) ?_
                        refine lv_iadd hx hb dX5_advance_183 ?_
                        refine lv_topi (fun z117 e118 => ?_)
                        have t119 := ib_add e118 b27 (by decide : Bd 1 (1) (1)) (by decide) (by decide)
                        have b120 : Bd z117 (1) (1200) := ib_addb t119 b27 (by decide : Bd 1 (1) (1))
                        have t119 : z117.toInt = y92_94_5.toInt + 1 := fold_add t119 rfl (by decide)
                        refine xputi E hs hQ 94 (by decide) c116 rfl 5 (by decide) q347 rfl rfl (Nat.le_of_ble_eq_true rfl) dX5_advance_184 (fun H locs S121 eS121 hQ => ?_)
                        have hI := invX_up_94 hI eS121 ⟨y92_94_2, y92_94_3, y92_94_4, z117, z111, y92_94_7, y92_94_8, rfl, (ib_wk b28 (by decide) (by decide)), By92_94_4, (ib_wk b120 (by decide) (by decide))⟩
                        have c122 : S121 94 = .inr (5, [.ref (ad 1), .ref (ad 20), .int y92_94_2, .int y92_94_3, .int y92_94_4, .int z117, .int z111, .int y92_94_7, .int y92_94_8]) := up_at eS121 rfl
                        refine lv_goto (tgt := 92) hx hb dX5_advance_187 (by decide) ?_
                        exact ih92 _ _ _ _ y92_94_2 y92_94_3 y92_94_4 z117 z111 y92_94_7 y92_94_8 (ib_wk b28 (by decide) (by decide)) (ib_wk b101 (by decide) (by decide)) By92_94_4 (ib_wk b120 (by decide) (by decide)) b113 (by omega) hI (up_o (up_o hf92 eS115 (by decide)) eS121 (by decide)) c122 hQ (lv_sub hl [0] rfl)
          obtain ⟨n92, hn92⟩ := fu_n ((-1) * y8_94_4.toInt + 1200)
          exact loop92 n92 _ _ _ _ y8_94_2 0 y8_94_4 y8_94_4 0 y8_94_7 y8_94_8 By8_94_2 (ib_wk (by decide : Bd 0 (0) (0)) (by decide) (by decide)) By8_94_4 By8_94_4 (ib_wk (by decide : Bd 0 (0) (0)) (by decide) (by decide)) (by have : (0 : Int32).toInt = 0 := (by decide); omega) hI o_refl c23 hQ (lv_sub hl [0] rfl)
        · have h123 := ib_nle k20
          have b124 : Bd y8_94_4 (0) (1199) := ⟨(By8_94_4).1, ((rf_lt By8_94_4 By8_94_2 h123).1).2⟩
          have b125 : Bd y8_94_2 (1) (1200) := ⟨((rf_lt By8_94_4 By8_94_2 h123).2).1, (By8_94_2).2⟩
          refine lv_aload_n hx hb dX5_advance_73 rfl (lv_at hl 0 rfl) ?_
          refine xget E hQ 94 (by decide) c19 rfl 0 (by decide) q342 rfl dX5_advance_74 ?_
          refine lv_aload_n hx hb dX5_advance_77 rfl (lv_at hl 0 rfl) ?_
          refine xget E hQ 94 (by decide) c19 rfl 4 (by decide) q346 rfl dX5_advance_78 ?_
          obtain ⟨f126, c127, b128⟩ := invX_1 hI
          refine xbald E hQ 1 (by decide) c127 (ib_in b124 (by decide) (by decide)) dX5_advance_81 ?_
          refine lv_topi (fun z129 e130 => ?_)
          have b131 : Bd z129 (-128) (127) := (by rw [e130]; exact b128 _)
          refine xcSi E hs hQ hml hl.1 (gX5_kindOf l g ad hD S18 hI z129 b131) mX5_kindOf q602 rfl ⟨(Nat.le_of_ble_eq_true rfl), (Nat.le_of_ble_eq_true rfl)⟩ ⟨(Nat.le_of_ble_eq_true rfl), (Nat.le_of_ble_eq_true rfl)⟩ (Nat.le_of_ble_eq_true rfl) rfl dX5_advance_82 (fun r132 S132 H locs hp132 hQ => ?_)
          obtain ⟨rfl, b132⟩ := hp132
          refine lv_goto (tgt := 89) hx hb dX5_advance_85 (by decide) ?_
          refine xputi E hs hQ 94 (by decide) c19 rfl 3 (by decide) q345 rfl rfl (Nat.le_of_ble_eq_true rfl) dX5_advance_89 (fun H locs S133 eS133 hQ => ?_)
          have hI := invX_up_94 hI eS133 ⟨y8_94_2, r132, y8_94_4, y8_94_4, 0, y8_94_7, y8_94_8, rfl, (ib_wk b125 (by decide) (by decide)), (ib_wk b124 (by decide) (by decide)), (ib_wk b124 (by decide) (by decide))⟩
          have c134 : S133 94 = .inr (5, [.ref (ad 1), .ref (ad 20), .int y8_94_2, .int r132, .int y8_94_4, .int y8_94_4, .int 0, .int y8_94_7, .int y8_94_8]) := up_at eS133 rfl
          have loop92 : ∀ (n : Nat) (S_92 : SS) (H : Heap) (locs : List Loc) (ls : Array Slot) (y92_94_2 : Int32) (y92_94_3 : Int32) (y92_94_4 : Int32) (y92_94_5 : Int32) (y92_94_6 : Int32) (y92_94_7 : Int32) (y92_94_8 : Int32), Bd y92_94_2 (0) (1200) → Bd y92_94_3 (0) (5) → Bd y92_94_4 (0) (1200) → Bd y92_94_5 (0) (1200) → Bd y92_94_6 (-2147483648) (1000000) → (-1) * y92_94_5.toInt + 1200 < ((n : Nat) : Int) → InvX g ad S_92 → (∀ j, j ∉ ([94] : List Nat) → S_92 j = S133 j) → S_92 94 = .inr (5, [.ref (ad 1), .ref (ad 20), .int y92_94_2, .int y92_94_3, .int y92_94_4, .int y92_94_5, .int y92_94_6, .int y92_94_7, .int y92_94_8]) → Hp g ad 122 S_92 (FA ad 122) s.heap H locs → lv_has ls 1 [(0, .ref (ad 94))] → W p l e (Rm 1) s m [.ref (ad 94)].toArray below meth c H locs 0 0 (MQ below (va_Qv (fun S' => InvX g ad S' ∧ (∀ j, j ∉ ([94] : List Nat) → S' j = S j)) (QB g ad 122) (FA ad 122)) [.ref (ad 94)].toArray s 0 0 (FA ad 122)) (F0 m 92 ls []) := by
            intro n
            induction n with
            | zero => intro S_92 H locs ls y92_94_2 y92_94_3 y92_94_4 y92_94_5 y92_94_6 y92_94_7 y92_94_8 By92_94_2 By92_94_3 By92_94_4 By92_94_5 By92_94_6 hn92_ hI hf92 cl92_94 hQ hl; exfalso; have := (By92_94_5).2; omega
            | succ n92_ ih92 =>
              intro S_92 H locs ls y92_94_2 y92_94_3 y92_94_4 y92_94_5 y92_94_6 y92_94_7 y92_94_8 By92_94_2 By92_94_3 By92_94_4 By92_94_5 By92_94_6 hn92_ hI hf92 cl92_94 hQ hl
              refine lv_aload_n hx hb dX5_advance_92 rfl (lv_at hl 0 rfl) ?_
              refine xget E hQ 94 (by decide) cl92_94 rfl 5 (by decide) q347 rfl dX5_advance_93 ?_
              refine lv_aload_n hx hb dX5_advance_96 rfl (lv_at hl 0 rfl) ?_
              refine xget E hQ 94 (by decide) cl92_94 rfl 2 (by decide) q344 rfl dX5_advance_97 ?_
              refine lv_icmp_ge (tgt := 190) hx hb dX5_advance_100 (by decide) (fun k135 => ?_) (fun k135 => ?_)
              · have h136 := ib_le k135
                exact xrv E hr hlk hQ (⟨hI, (o_trans (up_o (up_o (up_o (o_trans (up_o o_refl eS12 (by decide)) hf8 (by decide)) eS16 (by decide)) eS18 (by decide)) eS133 (by decide)) hf92 (by decide))⟩) dX5_advance_190
              · have h137 := ib_nle k135
                have b138 : Bd y92_94_5 (0) (1199) := ⟨(By92_94_5).1, ((rf_lt By92_94_5 By92_94_2 h137).1).2⟩
                have b139 : Bd y92_94_2 (1) (1200) := ⟨((rf_lt By92_94_5 By92_94_2 h137).2).1, (By92_94_2).2⟩
                refine lv_aload_n hx hb dX5_advance_103 rfl (lv_at hl 0 rfl) ?_
                refine xget E hQ 94 (by decide) cl92_94 rfl 5 (by decide) q347 rfl dX5_advance_104 ?_
                refine lv_aload_n hx hb dX5_advance_107 rfl (lv_at hl 0 rfl) ?_
                refine xget E hQ 94 (by decide) cl92_94 rfl 4 (by decide) q346 rfl dX5_advance_108 ?_
                refine lv_icmp_eq (tgt := 121) hx hb dX5_advance_111 (by decide) (fun k140 => ?_) (fun k140 => ?_)
                · have h141 := ib_eq k140
                  have b142 : Bd y92_94_4 (0) (1199) := ⟨(By92_94_4).1, ((rf_eq b138 By92_94_4 h141).2).2⟩
                  refine lv_aload_n hx hb dX5_advance_121 rfl (lv_at hl 0 rfl) ?_
                  refine xget E hQ 94 (by decide) cl92_94 rfl 0 (by decide) q342 rfl dX5_advance_122 ?_
                  refine lv_aload_n hx hb dX5_advance_125 rfl (lv_at hl 0 rfl) ?_
                  refine xget E hQ 94 (by decide) cl92_94 rfl 5 (by decide) q347 rfl dX5_advance_126 ?_
                  have c143 : S_92 1 = .inl (g.2 1, 1200, .inl f126) := ((hf92 1 (by decide)).trans (up_ne eS133 (by decide) c127))
                  refine xbald E hQ 1 (by decide) c143 (ib_in b138 (by decide) (by decide)) dX5_advance_129 ?_
                  refine lv_topi (fun z144 e145 => ?_)
                  have b146 : Bd z144 (-128) (127) := (by rw [e145]; exact b128 _)
                  refine xcSi E hs hQ hml hl.1 (gX5_kindOf l g ad hD S_92 hI z144 b146) mX5_kindOf q602 rfl ⟨(Nat.le_of_ble_eq_true rfl), (Nat.le_of_ble_eq_true rfl)⟩ ⟨(Nat.le_of_ble_eq_true rfl), (Nat.le_of_ble_eq_true rfl)⟩ (Nat.le_of_ble_eq_true rfl) rfl dX5_advance_130 (fun r147 S147 H locs hp147 hQ => ?_)
                  obtain ⟨rfl, b147⟩ := hp147
                  refine lv_aload_n hx hb dX5_advance_133 rfl (lv_at hl 0 rfl) ?_
                  refine xget E hQ 94 (by decide) cl92_94 rfl 3 (by decide) q345 rfl dX5_advance_134 ?_
                  refine lv_icmp_ne (tgt := 190) hx hb dX5_advance_137 (by decide) (fun k148 => ?_) (fun k148 => ?_)
                  · have h149 := ib_ne k148
                    exact xrv E hr hlk hQ (⟨hI, (o_trans (up_o (up_o (up_o (o_trans (up_o o_refl eS12 (by decide)) hf8 (by decide)) eS16 (by decide)) eS18 (by decide)) eS133 (by decide)) hf92 (by decide))⟩) dX5_advance_190
                  · have h150 := ib_eq k148
                    have b151 : Bd y92_94_3 (1) (5) := ⟨((rf_eq b147 By92_94_3 h150).2).1, (By92_94_3).2⟩
                    refine lv_aload_n hx hb dX5_advance_140 rfl (lv_at hl 0 rfl) ?_
                    refine xget E hQ 94 (by decide) cl92_94 rfl 3 (by decide) q345 rfl dX5_advance_141 ?_
                    refine lv_iconst (v := 2) hx hb dX5_advance_144 (by decide) ?_
                    refine lv_icmp_ne (tgt := 177) hx hb dX5_advance_145 (by decide) (fun k152 => ?_) (fun k152 => ?_)
                    · have h153 := ib_ne k152
                      refine lv_aload_n hx hb dX5_advance_177 rfl (lv_at hl 0 rfl) ?_
                      refine lv_dup hx hb dX5_advance_178 rfl ?_
                      refine xget E hQ 94 (by decide) cl92_94 rfl 5 (by decide) q347 rfl dX5_advance_179 ?_
                      refine lv_iconst (v := 1) hx hb dX5_advance_182 (by decide) ?_
                      refine lv_iadd hx hb dX5_advance_183 ?_
                      refine lv_topi (fun z154 e155 => ?_)
                      have t156 := ib_add e155 b138 (by decide : Bd 1 (1) (1)) (by decide) (by decide)
                      have b157 : Bd z154 (1) (1200) := ib_addb t156 b138 (by decide : Bd 1 (1) (1))
                      have t156 : z154.toInt = y92_94_5.toInt + 1 := fold_add t156 rfl (by decide)
                      refine xputi E hs hQ 94 (by decide) cl92_94 rfl 5 (by decide) q347 rfl rfl (Nat.le_of_ble_eq_true rfl) dX5_advance_184 (fun H locs S158 eS158 hQ => ?_)
                      have hI := invX_up_94 hI eS158 ⟨y92_94_2, y92_94_3, y92_94_4, z154, y92_94_6, y92_94_7, y92_94_8, rfl, (ib_wk b139 (by decide) (by decide)), (ib_wk b142 (by decide) (by decide)), (ib_wk b157 (by decide) (by decide))⟩
                      have c159 : S158 94 = .inr (5, [.ref (ad 1), .ref (ad 20), .int y92_94_2, .int y92_94_3, .int y92_94_4, .int z154, .int y92_94_6, .int y92_94_7, .int y92_94_8]) := up_at eS158 rfl
                      refine lv_goto (tgt := 92) hx hb dX5_advance_187 (by decide) ?_
                      exact ih92 _ _ _ _ y92_94_2 y92_94_3 y92_94_4 z154 y92_94_6 y92_94_7 y92_94_8 (ib_wk b139 (by decide) (by decide)) (ib_wk b151 (by decide) (by decide)) (ib_wk b142 (by decide) (by decide)) (ib_wk b157 (by decide) (by decide)) By92_94_6 (by omega) hI (up_o hf92 eS158 (by decide)) c159 hQ (lv_sub hl [0] rfl)
                    · have h160 := ib_eq k152
                      have b161 : Bd y92_94_3 (2) (2) := ⟨((rf_eq b151 (by decide : Bd 2 (2) (2)) h160).1).1, ((rf_eq b151 (by decide : Bd 2 (2) (2)) h160).1).2⟩
                      refine lv_aload_n hx hb dX5_advance_148 rfl (lv_at hl 0 rfl) ?_
                      refine lv_aload_n hx hb dX5_advance_149 rfl (lv_at hl 0 rfl) ?_
                      refine xget E hQ 94 (by decide) cl92_94 rfl 6 (by decide) q348 rfl dX5_advance_150 ?_
                      refine lv_bipush (v := 10) hx hb dX5_advance_153 (by decide) ?_
                      refine lv_imul hx hb dX5_advance_155 ?_
                      refine lv_topi (fun z162 e163 => ?_)
                      refine lv_aload_n hx hb dX5_advance_156 rfl (lv_at hl 0 rfl) ?_
                      refine xget E hQ 94 (by decide) cl92_94 rfl 0 (by decide) q342 rfl dX5_advance_157 ?_
                      refine lv_aload_n hx hb dX5_advance_160 rfl (lv_at hl 0 rfl) ?_
                      refine xget E hQ 94 (by decide) cl92_94 rfl 5 (by decide) q347 rfl dX5_advance_161 ?_
                      refine xbald E hQ 1 (by decide) c143 (ib_in b138 (by decide) (by decide)) dX5_advance_164 ?_
                      refine lv_topi (fun z164 e165 => ?_)
                      have b166 : Bd z164 (-128) (127) := (by rw [e165]; exact b128 _)
                      refine lv_iadd hx hb dX5_advance_165 ?_
                      refine lv_topi (fun z167 e168 => ?_)
                      refine lv_bipush (v := 48) hx hb dX5_advance_166 (by decide) ?_
                      refine lv_isub hx hb dX5_advance_168 ?_
                      refine lv_topi (fun z169 e170 => ?_)
                      refine lv_ldc (v := 1000000) hx hb E.2.2.1 (E.2.2.2.1 _ q609) dX5_advance_169 ?_
                      refine va_mmin hx hb (hml.trans hl.1.symm) E.2.2.1 (E.2.2.2.1 _ q582) (E.2.2.2.1 _ q583) (E.2.2.2.1 _ q128) (E.2.2.2.1 _ q584) (Nat.le_of_ble_eq_true rfl) (Nat.le_of_ble_eq_true rfl) (Nat.le_of_ble_eq_true rfl) (Nat.le_of_ble_eq_true rfl) dX5_advance_171 ?_
                      refine lv_topi (fun z171 e172 => ?_)
                      have b173 : Bd z171 (-2147483648) (1000000) := ib_min e172 (ib_full z169) (by decide : Bd 1000000 (1000000) (1000000)) (by decide) (by decide) (by decide) (by decide)
                      have t174 := ib_minx (p := z169.toInt) (q := 1000000) e172 rfl (by decide)
                      refine xputi E hs hQ 94 (by decide) cl92_94 rfl 6 (by decide) q348 rfl rfl (Nat.le_of_ble_eq_true rfl) dX5_advance_174 (fun H locs S175 eS175 hQ => ?_)
                      have hI := invX_up_94 hI eS175 ⟨y92_94_2, y92_94_3, y92_94_4, y92_94_5, z171, y92_94_7, y92_94_8, rfl, (ib_wk b139 (by decide) (by decide)), (ib_wk b142 (by decide) (by decide)), (ib_wk b138 (by decide) (by decide))⟩
                      have c176 : S175 94 = .inr (5, [.ref (ad 1), .ref (ad 20), .int y92_94_2, .int y92_94_3, .int y92_94_4, .int y92_94_5, .int z171, .int y92_94_7, .int y92_94_8]) := up_at eS175 rfl
                      refine lv_aload_n hx hb dX5_advance_177 rfl (lv_at hl 0 rfl) ?_
                      refine lv_dup hx hb dX5_advance_178 rfl ?_
                      refine xget E hQ 94 (by decide) c176 rfl 5 (by decide) q347 rfl dX5_advance_179 ?_
                      refine lv_iconst (v := 1) hx hb dX5_advance_182 (by decide) ?_
                      refine lv_iadd hx hb dX5_advance_183 ?_
                      refine lv_topi (fun z177 e178 => ?_)
                      have t179 := ib_add e178 b138 (by decide : Bd 1 (1) (1)) (by decide) (by decide)
                      have b180 : Bd z177 (1) (1200) := ib_addb t179 b138 (by decide : Bd 1 (1) (1))
                      have t179 : z177.toInt = y92_94_5.toInt + 1 := fold_add t179 rfl (by decide)
                      refine xputi E hs hQ 94 (by decide) c176 rfl 5 (by decide) q347 rfl rfl (Nat.le_of_ble_eq_true rfl) dX5_advance_184 (fun H locs S181 eS181 hQ => ?_)
                      have hI := invX_up_94 hI eS181 ⟨y92_94_2, y92_94_3, y92_94_4, z177, z171, y92_94_7, y92_94_8, rfl, (ib_wk b139 (by decide) (by decide)), (ib_wk b142 (by decide) (by decide)), (ib_wk b180 (by decide) (by decide))⟩
                      have c182 : S181 94 = .inr (5, [.ref (ad 1), .ref (ad 20), .int y92_94_2, .int y92_94_3, .int y92_94_4, .int z177, .int z171, .int y92_94_7, .int y92_94_8]) := up_at eS181 rfl
                      refine lv_goto (tgt := 92) hx hb dX5_advance_187 (by decide) ?_
                      exact ih92 _ _ _ _ y92_94_2 y92_94_3 y92_94_4 z177 z171 y92_94_7 y92_94_8 (ib_wk b139 (by decide) (by decide)) (ib_wk b161 (by decide) (by decide)) (ib_wk b142 (by decide) (by decide)) (ib_wk b180 (by decide) (by decide)) b173 (by omega) hI (up_o (up_o hf92 eS175 (by decide)) eS181 (by decide)) c182 hQ (lv_sub hl [0] rfl)
                · have h183 := ib_ne k140
                  refine lv_aload_n hx hb dX5_advance_114 rfl (lv_at hl 0 rfl) ?_
                  refine xcVi E hs hQ hml hl.1 94 (gX5_isLong_94 l g ad hD S_92 hI ) mX5_isLong q605 (by decide) cl92_94 rfl rfl ⟨(Nat.le_of_ble_eq_true rfl), (Nat.le_of_ble_eq_true rfl)⟩ ⟨(Nat.le_of_ble_eq_true rfl), (Nat.le_of_ble_eq_true rfl)⟩ (Nat.le_of_ble_eq_true rfl) rfl dX5_advance_115 (fun r184 S184 H locs hp184 hQ _ => ?_)
                  obtain ⟨rfl, b184⟩ := hp184
                  refine lv_if_eq (tgt := 190) hx hb dX5_advance_118 (by decide) (fun k185 => ?_) (fun k185 => ?_)
                  · have h186 := ib_eq k185
                    have b187 : Bd r184 (0) (0) := ⟨(b184).1, ((rf_eq b184 (by decide : Bd 0 (0) (0)) h186).1).2⟩
                    exact xrv E hr hlk hQ (⟨hI, (o_trans (up_o (up_o (up_o (o_trans (up_o o_refl eS12 (by decide)) hf8 (by decide)) eS16 (by decide)) eS18 (by decide)) eS133 (by decide)) hf92 (by decide))⟩) dX5_advance_190
                  · have h188 := ib_ne k185
                    have b189 : Bd r184 (1) (1) := rf_nlo b184 (by decide : Bd 0 (0) (0)) h188
                    refine lv_aload_n hx hb dX5_advance_121 rfl (lv_at hl 0 rfl) ?_
                    refine xget E hQ 94 (by decide) cl92_94 rfl 0 (by decide) q342 rfl dX5_advance_122 ?_
                    refine lv_aload_n hx hb dX5_advance_125 rfl (lv_at hl 0 rfl) ?_
                    refine xget E hQ 94 (by decide) cl92_94 rfl 5 (by decide) q347 rfl dX5_advance_126 ?_
                    have c190 : S_92 1 = .inl (g.2 1, 1200, .inl f126) := ((hf92 1 (by decide)).trans (up_ne eS133 (by decide) c127))
                    refine xbald E hQ 1 (by decide) c190 (ib_in b138 (by decide) (by decide)) dX5_advance_129 ?_
                    refine lv_topi (fun z191 e192 => ?_)
                    have b193 : Bd z191 (-128) (127) := (by rw [e192]; exact b128 _)
                    refine xcSi E hs hQ hml hl.1 (gX5_kindOf l g ad hD S_92 hI z191 b193) mX5_kindOf q602 rfl ⟨(Nat.le_of_ble_eq_true rfl), (Nat.le_of_ble_eq_true rfl)⟩ ⟨(Nat.le_of_ble_eq_true rfl), (Nat.le_of_ble_eq_true rfl)⟩ (Nat.le_of_ble_eq_true rfl) rfl dX5_advance_130 (fun r194 S194 H locs hp194 hQ => ?_)
                    obtain ⟨rfl, b194⟩ := hp194
                    refine lv_aload_n hx hb dX5_advance_133 rfl (lv_at hl 0 rfl) ?_
                    refine xget E hQ 94 (by decide) cl92_94 rfl 3 (by decide) q345 rfl dX5_advance_134 ?_
                    refine lv_icmp_ne (tgt := 190) hx hb dX5_advance_137 (by decide) (fun k195 => ?_) (fun k195 => ?_)
                    · have h196 := ib_ne k195
                      exact xrv E hr hlk hQ (⟨hI, (o_trans (up_o (up_o (up_o (o_trans (up_o o_refl eS12 (by decide)) hf8 (by decide)) eS16 (by decide)) eS18 (by decide)) eS133 (by decide)) hf92 (by decide))⟩) dX5_advance_190
                    · have h197 := ib_eq k195
                      have b198 : Bd y92_94_3 (1) (5) := ⟨((rf_eq b194 By92_94_3 h197).2).1, (By92_94_3).2⟩
                      refine lv_aload_n hx hb dX5_advance_140 rfl (lv_at hl 0 rfl) ?_
                      refine xget E hQ 94 (by decide) cl92_94 rfl 3 (by decide) q345 rfl dX5_advance_141 ?_
                      refine lv_iconst (v := 2) hx hb dX5_advance_144 (by decide) ?_
                      refine lv_icmp_ne (tgt := 177) hx hb dX5_advance_145 (by decide) (fun k199 => ?_) (fun k199 => ?_)
                      · have h200 := ib_ne k199
                        refine lv_aload_n hx hb dX5_advance_177 rfl (lv_at hl 0 rfl) ?_
                        refine lv_dup hx hb dX5_advance_178 rfl ?_
                        refine xget E hQ 94 (by decide) cl92_94 rfl 5 (by decide) q347 rfl dX5_advance_179 ?_
                        refine lv_iconst (v := 1) hx hb dX5_advance_182 (by decide) ?_
                        refine lv_iadd hx hb dX5_advance_183 ?_
                        refine lv_topi (fun z201 e202 => ?_)
                        have t203 := ib_add e202 b138 (by decide : Bd 1 (1) (1)) (by decide) (by decide)
                        have b204 : Bd z201 (1) (1200) := ib_addb t203 b138 (by decide : Bd 1 (1) (1))
                        have t203 : z201.toInt = y92_94_5.toInt + 1 := fold_add t203 rfl (by decide)
                        refine xputi E hs hQ 94 (by decide) cl92_94 rfl 5 (by decide) q347 rfl rfl (Nat.le_of_ble_eq_true rfl) dX5_advance_184 (fun H locs S205 eS205 hQ => ?_)
                        have hI := invX_up_94 hI eS205 ⟨y92_94_2, y92_94_3, y92_94_4, z201, y92_94_6, y92_94_7, y92_94_8, rfl, (ib_wk b139 (by decide) (by decide)), By92_94_4, (ib_wk b204 (by decide) (by decide))⟩
                        have c206 : S205 94 = .inr (5, [.ref (ad 1), .ref (ad 20), .int y92_94_2, .int y92_94_3, .int y92_94_4, .int z201, .int y92_94_6, .int y92_94_7, .int y92_94_8]) := up_at eS205 rfl
                        refine lv_goto (tgt := 92) hx hb dX5_advance_187 (by decide) ?_
                        exact ih92 _ _ _ _ y92_94_2 y92_94_3 y92_94_4 z201 y92_94_6 y92_94_7 y92_94_8 (ib_wk b139 (by decide) (by decide)) (ib_wk b198 (by decide) (by decide)) By92_94_4 (ib_wk b204 (by decide) (by decide)) By92_94_6 (by omega) hI (up_o hf92 eS205 (by decide)) c206 hQ (lv_sub hl [0] rfl)
                      · have h207 := ib_eq k199
                        have b208 : Bd y92_94_3 (2) (2) := ⟨((rf_eq b198 (by decide : Bd 2 (2) (2)) h207).1).1, ((rf_eq b198 (by decide : Bd 2 (2) (2)) h207).1).2⟩
                        refine lv_aload_n hx hb dX5_advance_148 rfl (lv_at hl 0 rfl) ?_
                        refine lv_aload_n hx hb dX5_advance_149 rfl (lv_at hl 0 rfl) ?_
                        refine xget E hQ 94 (by decide) cl92_94 rfl 6 (by decide) q348 rfl dX5_advance_150 ?_
                        refine lv_bipush (v := 10) hx hb dX5_advance_153 (by decide) ?_
                        refine lv_imul hx hb dX5_advance_155 ?_
                        refine lv_topi (fun z209 e210 => ?_)
                        refine lv_aload_n hx hb dX5_advance_156 rfl (lv_at hl 0 rfl) ?_
                        refine xget E hQ 94 (by decide) cl92_94 rfl 0 (by decide) q342 rfl dX5_advance_157 ?_
                        refine lv_aload_n hx hb dX5_advance_160 rfl (lv_at hl 0 rfl) ?_
                        refine xget E hQ 94 (by decide) cl92_94 rfl 5 (by decide) q347 rfl dX5_advance_161 ?_
                        refine xbald E hQ 1 (by decide) c190 (ib_in b138 (by decide) (by decide)) dX5_advance_164 ?_
                        refine lv_topi (fun z211 e212 => ?_)
                        have b213 : Bd z211 (-128) (127) := (by rw [e212]; exact b128 _)
                        refine lv_iadd hx hb dX5_advance_165 ?_
                        refine lv_topi (fun z214 e215 => ?_)
                        refine lv_bipush (v := 48) hx hb dX5_advance_166 (by decide) ?_
                        refine lv_isub hx hb dX5_advance_168 ?_
                        refine lv_topi (fun z216 e217 => ?_)
                        refine lv_ldc (v := 1000000) hx hb E.2.2.1 (E.2.2.2.1 _ q609) dX5_advance_169 ?_
                        refine va_mmin hx hb (hml.trans hl.1.symm) E.2.2.1 (E.2.2.2.1 _ q582) (E.2.2.2.1 _ q583) (E.2.2.2.1 _ q128) (E.2.2.2.1 _ q584) (Nat.le_of_ble_eq_true rfl) (Nat.le_of_ble_eq_true rfl) (Nat.le_of_ble_eq_true rfl) (Nat.le_of_ble_eq_true rfl) dX5_advance_171 ?_
                        refine lv_topi (fun z218 e219 => ?_)
                        have b220 : Bd z218 (-2147483648) (1000000) := ib_min e219 (ib_full z216) (by decide : Bd 1000000 (1000000) (1000000)) (by decide) (by decide) (by decide) (by decide)
                        have t221 := ib_minx (p := z216.toInt) (q := 1000000) e219 rfl (by decide)
                        refine xputi E hs hQ 94 (by decide) cl92_94 rfl 6 (by decide) q348 rfl rfl (Nat.le_of_ble_eq_true rfl) dX5_advance_174 (fun H locs S222 eS222 hQ => ?_)
                        have hI := invX_up_94 hI eS222 ⟨y92_94_2, y92_94_3, y92_94_4, y92_94_5, z218, y92_94_7, y92_94_8, rfl, (ib_wk b139 (by decide) (by decide)), By92_94_4, (ib_wk b138 (by decide) (by decide))⟩
                        have c223 : S222 94 = .inr (5, [.ref (ad 1), .ref (ad 20), .int y92_94_2, .int y92_94_3, .int y92_94_4, .int y92_94_5, .int z218, .int y92_94_7, .int y92_94_8]) := up_at eS222 rfl
                        refine lv_aload_n hx hb dX5_advance_177 rfl (lv_at hl 0 rfl) ?_
                        refine lv_dup hx hb dX5_advance_178 rfl ?_
                        refine xget E hQ 94 (by decide) c223 rfl 5 (by decide) q347 rfl dX5_advance_179 ?_
                        refine lv_iconst (v := 1) hx hb dX5_advance_182 (by decide) ?_
                        refine lv_iadd hx hb dX5_advance_183 ?_
                        refine lv_topi (fun z224 e225 => ?_)
                        have t226 := ib_add e225 b138 (by decide : Bd 1 (1) (1)) (by decide) (by decide)
                        have b227 : Bd z224 (1) (1200) := ib_addb t226 b138 (by decide : Bd 1 (1) (1))
                        have t226 : z224.toInt = y92_94_5.toInt + 1 := fold_add t226 rfl (by decide)
                        refine xputi E hs hQ 94 (by decide) c223 rfl 5 (by decide) q347 rfl rfl (Nat.le_of_ble_eq_true rfl) dX5_advance_184 (fun H locs S228 eS228 hQ => ?_)
                        have hI := invX_up_94 hI eS228 ⟨y92_94_2, y92_94_3, y92_94_4, z224, z218, y92_94_7, y92_94_8, rfl, (ib_wk b139 (by decide) (by decide)), By92_94_4, (ib_wk b227 (by decide) (by decide))⟩
                        have c229 : S228 94 = .inr (5, [.ref (ad 1), .ref (ad 20), .int y92_94_2, .int y92_94_3, .int y92_94_4, .int z224, .int z218, .int y92_94_7, .int y92_94_8]) := up_at eS228 rfl
                        refine lv_goto (tgt := 92) hx hb dX5_advance_187 (by decide) ?_
                        exact ih92 _ _ _ _ y92_94_2 y92_94_3 y92_94_4 z224 z218 y92_94_7 y92_94_8 (ib_wk b139 (by decide) (by decide)) (ib_wk b208 (by decide) (by decide)) By92_94_4 (ib_wk b227 (by decide) (by decide)) b220 (by omega) hI (up_o (up_o hf92 eS222 (by decide)) eS228 (by decide)) c229 hQ (lv_sub hl [0] rfl)
          obtain ⟨n92, hn92⟩ := fu_n ((-1) * y8_94_4.toInt + 1200)
          exact loop92 n92 _ _ _ _ y8_94_2 r132 y8_94_4 y8_94_4 0 y8_94_7 y8_94_8 (ib_wk b125 (by decide) (by decide)) (ib_wk b132 (by decide) (by decide)) (ib_wk b124 (by decide) (by decide)) (ib_wk b124 (by decide) (by decide)) (ib_wk (by decide : Bd 0 (0) (0)) (by decide) (by decide)) (by have : (0 : Int32).toInt = 0 := (by decide); omega) hI o_refl c134 hQ (lv_sub hl [0] rfl)
      · have h230 := ib_nle k14
        have b231 : Bd y8_94_4 (0) (1199) := ⟨(By8_94_4).1, ((rf_lt By8_94_4 By8_94_2 h230).1).2⟩
        have b232 : Bd y8_94_2 (1) (1200) := ⟨((rf_lt By8_94_4 By8_94_2 h230).2).1, (By8_94_2).2⟩
        refine lv_aload_n hx hb dX5_advance_19 rfl (lv_at hl 0 rfl) ?_
        refine xget E hQ 94 (by decide) cl8_94 rfl 0 (by decide) q342 rfl dX5_advance_20 ?_
        refine lv_aload_n hx hb dX5_advance_23 rfl (lv_at hl 0 rfl) ?_
        refine xget E hQ 94 (by decide) cl8_94 rfl 4 (by decide) q346 rfl dX5_advance_24 ?_
        obtain ⟨f233, c234, b235⟩ := invX_1 hI
        refine xbald E hQ 1 (by decide) c234 (ib_in b231 (by decide) (by decide)) dX5_advance_27 ?_
        refine lv_topi (fun z236 e237 => ?_)
        have b238 : Bd z236 (-128) (127) := (by rw [e237]; exact b235 _)
        refine xcSi E hs hQ hml hl.1 (gX5_kindOf l g ad hD S_8 hI z236 b238) mX5_kindOf q602 rfl ⟨(Nat.le_of_ble_eq_true rfl), (Nat.le_of_ble_eq_true rfl)⟩ ⟨(Nat.le_of_ble_eq_true rfl), (Nat.le_of_ble_eq_true rfl)⟩ (Nat.le_of_ble_eq_true rfl) rfl dX5_advance_28 (fun r239 S239 H locs hp239 hQ => ?_)
        obtain ⟨rfl, b239⟩ := hp239
        refine lv_iconst (v := 5) hx hb dX5_advance_31 (by decide) ?_
        refine lv_icmp_ne (tgt := 48) hx hb dX5_advance_32 (by decide) (fun k240 => ?_) (fun k240 => ?_)
        · have h241 := ib_ne k240
          have b242 : Bd r239 (1) (4) := rf_nhi b239 (by decide : Bd 5 (5) (5)) h241
          refine lv_aload_n hx hb dX5_advance_48 rfl (lv_at hl 0 rfl) ?_
          refine lv_aload_n hx hb dX5_advance_49 rfl (lv_at hl 0 rfl) ?_
          refine xget E hQ 94 (by decide) cl8_94 rfl 4 (by decide) q346 rfl dX5_advance_50 ?_
          refine xputi E hs hQ 94 (by decide) cl8_94 rfl 5 (by decide) q347 rfl rfl (Nat.le_of_ble_eq_true rfl) dX5_advance_53 (fun H locs S243 eS243 hQ => ?_)
          have hI := invX_up_94 hI eS243 ⟨y8_94_2, y8_94_3, y8_94_4, y8_94_4, y8_94_6, y8_94_7, y8_94_8, rfl, (ib_wk b232 (by decide) (by decide)), (ib_wk b231 (by decide) (by decide)), (ib_wk b231 (by decide) (by decide))⟩
          have c244 : S243 94 = .inr (5, [.ref (ad 1), .ref (ad 20), .int y8_94_2, .int y8_94_3, .int y8_94_4, .int y8_94_4, .int y8_94_6, .int y8_94_7, .int y8_94_8]) := up_at eS243 rfl
          refine lv_aload_n hx hb dX5_advance_56 rfl (lv_at hl 0 rfl) ?_
          refine lv_iconst (v := 0) hx hb dX5_advance_57 (by decide) ?_
          refine xputi E hs hQ 94 (by decide) c244 rfl 6 (by decide) q348 rfl rfl (Nat.le_of_ble_eq_true rfl) dX5_advance_58 (fun H locs S245 eS245 hQ => ?_)
          have hI := invX_up_94 hI eS245 ⟨y8_94_2, y8_94_3, y8_94_4, y8_94_4, 0, y8_94_7, y8_94_8, rfl, (ib_wk b232 (by decide) (by decide)), (ib_wk b231 (by decide) (by decide)), (ib_wk b231 (by decide) (by decide))⟩
          have c246 : S245 94 = .inr (5, [.ref (ad 1), .ref (ad 20), .int y8_94_2, .int y8_94_3, .int y8_94_4, .int y8_94_4, .int 0, .int y8_94_7, .int y8_94_8]) := up_at eS245 rfl
          refine lv_aload_n hx hb dX5_advance_61 rfl (lv_at hl 0 rfl) ?_
          refine lv_aload_n hx hb dX5_advance_62 rfl (lv_at hl 0 rfl) ?_
          refine xget E hQ 94 (by decide) c246 rfl 4 (by decide) q346 rfl dX5_advance_63 ?_
          refine lv_aload_n hx hb dX5_advance_66 rfl (lv_at hl 0 rfl) ?_
          refine xget E hQ 94 (by decide) c246 rfl 2 (by decide) q344 rfl dX5_advance_67 ?_
          refine lv_icmp_ge (tgt := 88) hx hb dX5_advance_70 (by decide) (fun k247 => ?_) (fun k247 => ?_)
          · have h248 := ib_le k247
            have b249 : Bd y8_94_2 (1) (1199) := ⟨(b232).1, ((rf_le b232 b231 h248).1).2⟩
            have b250 : Bd y8_94_4 (1) (1199) := ⟨((rf_le b232 b231 h248).2).1, (b231).2⟩
            refine lv_iconst (v := 0) hx hb dX5_advance_88 (by decide) ?_
            refine xputi E hs hQ 94 (by decide) c246 rfl 3 (by decide) q345 rfl rfl (Nat.le_of_ble_eq_true rfl) dX5_advance_89 (fun H locs S251 eS251 hQ => ?_)
            have hI := invX_up_94 hI eS251 ⟨y8_94_2, 0, y8_94_4, y8_94_4, 0, y8_94_7, y8_94_8, rfl, (ib_wk b249 (by decide) (by decide)), (ib_wk b250 (by decide) (by decide)), (ib_wk b250 (by decide) (by decide))⟩
            have c252 : S251 94 = .inr (5, [.ref (ad 1), .ref (ad 20), .int y8_94_2, .int 0, .int y8_94_4, .int y8_94_4, .int 0, .int y8_94_7, .int y8_94_8]) := up_at eS251 rfl
            have loop92 : ∀ (n : Nat) (S_92 : SS) (H : Heap) (locs : List Loc) (ls : Array Slot) (y92_94_2 : Int32) (y92_94_3 : Int32) (y92_94_4 : Int32) (y92_94_5 : Int32) (y92_94_6 : Int32) (y92_94_7 : Int32) (y92_94_8 : Int32), Bd y92_94_2 (0) (1200) → Bd y92_94_3 (0) (5) → Bd y92_94_4 (0) (1200) → Bd y92_94_5 (0) (1200) → Bd y92_94_6 (-2147483648) (1000000) → (-1) * y92_94_5.toInt + 1200 < ((n : Nat) : Int) → InvX g ad S_92 → (∀ j, j ∉ ([94] : List Nat) → S_92 j = S251 j) → S_92 94 = .inr (5, [.ref (ad 1), .ref (ad 20), .int y92_94_2, .int y92_94_3, .int y92_94_4, .int y92_94_5, .int y92_94_6, .int y92_94_7, .int y92_94_8]) → Hp g ad 122 S_92 (FA ad 122) s.heap H locs → lv_has ls 1 [(0, .ref (ad 94))] → W p l e (Rm 1) s m [.ref (ad 94)].toArray below meth c H locs 0 0 (MQ below (va_Qv (fun S' => InvX g ad S' ∧ (∀ j, j ∉ ([94] : List Nat) → S' j = S j)) (QB g ad 122) (FA ad 122)) [.ref (ad 94)].toArray s 0 0 (FA ad 122)) (F0 m 92 ls []) := by
              intro n
              induction n with
              | zero => intro S_92 H locs ls y92_94_2 y92_94_3 y92_94_4 y92_94_5 y92_94_6 y92_94_7 y92_94_8 By92_94_2 By92_94_3 By92_94_4 By92_94_5 By92_94_6 hn92_ hI hf92 cl92_94 hQ hl; exfalso; have := (By92_94_5).2; omega
              | succ n92_ ih92 =>
                intro S_92 H locs ls y92_94_2 y92_94_3 y92_94_4 y92_94_5 y92_94_6 y92_94_7 y92_94_8 By92_94_2 By92_94_3 By92_94_4 By92_94_5 By92_94_6 hn92_ hI hf92 cl92_94 hQ hl
                refine lv_aload_n hx hb dX5_advance_92 rfl (lv_at hl 0 rfl) ?_
                refine xget E hQ 94 (by decide) cl92_94 rfl 5 (by decide) q347 rfl dX5_advance_93 ?_
                refine lv_aload_n hx hb dX5_advance_96 rfl (lv_at hl 0 rfl) ?_
                refine xget E hQ 94 (by decide) cl92_94 rfl 2 (by decide) q344 rfl dX5_advance_97 ?_
                refine lv_icmp_ge (tgt := 190) hx hb dX5_advance_100 (by decide) (fun k253 => ?_) (fun k253 => ?_)
                · have h254 := ib_le k253
                  exact xrv E hr hlk hQ (⟨hI, (o_trans (up_o (up_o (up_o (o_trans (up_o o_refl eS12 (by decide)) hf8 (by decide)) eS243 (by decide)) eS245 (by decide)) eS251 (by decide)) hf92 (by decide))⟩) dX5_advance_190
                · have h255 := ib_nle k253
                  have b256 : Bd y92_94_5 (0) (1199) := ⟨(By92_94_5).1, ((rf_lt By92_94_5 By92_94_2 h255).1).2⟩
                  have b257 : Bd y92_94_2 (1) (1200) := ⟨((rf_lt By92_94_5 By92_94_2 h255).2).1, (By92_94_2).2⟩
                  refine lv_aload_n hx hb dX5_advance_103 rfl (lv_at hl 0 rfl) ?_
                  refine xget E hQ 94 (by decide) cl92_94 rfl 5 (by decide) q347 rfl dX5_advance_104 ?_
                  refine lv_aload_n hx hb dX5_advance_107 rfl (lv_at hl 0 rfl) ?_
                  refine xget E hQ 94 (by decide) cl92_94 rfl 4 (by decide) q346 rfl dX5_advance_108 ?_
                  refine lv_icmp_eq (tgt := 121) hx hb dX5_advance_111 (by decide) (fun k258 => ?_) (fun k258 => ?_)
                  · have h259 := ib_eq k258
                    have b260 : Bd y92_94_4 (0) (1199) := ⟨(By92_94_4).1, ((rf_eq b256 By92_94_4 h259).2).2⟩
                    refine lv_aload_n hx hb dX5_advance_121 rfl (lv_at hl 0 rfl) ?_
                    refine xget E hQ 94 (by decide) cl92_94 rfl 0 (by decide) q342 rfl dX5_advance_122 ?_
                    refine lv_aload_n hx hb dX5_advance_125 rfl (lv_at hl 0 rfl) ?_
                    refine xget E hQ 94 (by decide) cl92_94 rfl 5 (by decide) q347 rfl dX5_advance_126 ?_
                    have c261 : S_92 1 = .inl (g.2 1, 1200, .inl f233) := ((hf92 1 (by decide)).trans (up_ne eS251 (by decide) (up_ne eS245 (by decide) (up_ne eS243 (by decide) c234))))
                    refine xbald E hQ 1 (by decide) c261 (ib_in b256 (by decide) (by decide)) dX5_advance_129 ?_
                    refine lv_topi (fun z262 e263 => ?_)
                    have b264 : Bd z262 (-128) (127) := (by rw [e263]; exact b235 _)
                    refine xcSi E hs hQ hml hl.1 (gX5_kindOf l g ad hD S_92 hI z262 b264) mX5_kindOf q602 rfl ⟨(Nat.le_of_ble_eq_true rfl), (Nat.le_of_ble_eq_true rfl)⟩ ⟨(Nat.le_of_ble_eq_true rfl), (Nat.le_of_ble_eq_true rfl)⟩ (Nat.le_of_ble_eq_true rfl) rfl dX5_advance_130 (fun r265 S265 H locs hp265 hQ => ?_)
                    obtain ⟨rfl, b265⟩ := hp265
                    refine lv_aload_n hx hb dX5_advance_133 rfl (lv_at hl 0 rfl) ?_
                    refine xget E hQ 94 (by decide) cl92_94 rfl 3 (by decide) q345 rfl dX5_advance_134 ?_
                    refine lv_icmp_ne (tgt := 190) hx hb dX5_advance_137 (by decide) (fun k266 => ?_) (fun k266 => ?_)
                    · have h267 := ib_ne k266
                      exact xrv E hr hlk hQ (⟨hI, (o_trans (up_o (up_o (up_o (o_trans (up_o o_refl eS12 (by decide)) hf8 (by decide)) eS243 (by decide)) eS245 (by decide)) eS251 (by decide)) hf92 (by decide))⟩) dX5_advance_190
                    · have h268 := ib_eq k266
                      have b269 : Bd y92_94_3 (1) (5) := ⟨((rf_eq b265 By92_94_3 h268).2).1, (By92_94_3).2⟩
                      refine lv_aload_n hx hb dX5_advance_140 rfl (lv_at hl 0 rfl) ?_
                      refine xget E hQ 94 (by decide) cl92_94 rfl 3 (by decide) q345 rfl dX5_advance_141 ?_
                      refine lv_iconst (v := 2) hx hb dX5_advance_144 (by decide) ?_
                      refine lv_icmp_ne (tgt := 177) hx hb dX5_advance_145 (by decide) (fun k270 => ?_) (fun k270 => ?_)
                      · have h271 := ib_ne k270
                        refine lv_aload_n hx hb dX5_advance_177 rfl (lv_at hl 0 rfl) ?_
                        refine lv_dup hx hb dX5_advance_178 rfl ?_
                        refine xget E hQ 94 (by decide) cl92_94 rfl 5 (by decide) q347 rfl dX5_advance_179 ?_
                        refine lv_iconst (v := 1) hx hb dX5_advance_182 (by decide) ?_
                        refine lv_iadd hx hb dX5_advance_183 ?_
                        refine lv_topi (fun z272 e273 => ?_)
                        have t274 := ib_add e273 b256 (by decide : Bd 1 (1) (1)) (by decide) (by decide)
                        have b275 : Bd z272 (1) (1200) := ib_addb t274 b256 (by decide : Bd 1 (1) (1))
                        have t274 : z272.toInt = y92_94_5.toInt + 1 := fold_add t274 rfl (by decide)
                        refine xputi E hs hQ 94 (by decide) cl92_94 rfl 5 (by decide) q347 rfl rfl (Nat.le_of_ble_eq_true rfl) dX5_advance_184 (fun H locs S276 eS276 hQ => ?_)
                        have hI := invX_up_94 hI eS276 ⟨y92_94_2, y92_94_3, y92_94_4, z272, y92_94_6, y92_94_7, y92_94_8, rfl, (ib_wk b257 (by decide) (by decide)), (ib_wk b260 (by decide) (by decide)), (ib_wk b275 (by decide) (by decide))⟩
                        have c277 : S276 94 = .inr (5, [.ref (ad 1), .ref (ad 20), .int y92_94_2, .int y92_94_3, .int y92_94_4, .int z272, .int y92_94_6, .int y92_94_7, .int y92_94_8]) := up_at eS276 rfl
                        refine lv_goto (tgt := 92) hx hb dX5_advance_187 (by decide) ?_
                        exact ih92 _ _ _ _ y92_94_2 y92_94_3 y92_94_4 z272 y92_94_6 y92_94_7 y92_94_8 (ib_wk b257 (by decide) (by decide)) (ib_wk b269 (by decide) (by decide)) (ib_wk b260 (by decide) (by decide)) (ib_wk b275 (by decide) (by decide)) By92_94_6 (by omega) hI (up_o hf92 eS276 (by decide)) c277 hQ (lv_sub hl [0] rfl)
                      · have h278 := ib_eq k270
                        have b279 : Bd y92_94_3 (2) (2) := ⟨((rf_eq b269 (by decide : Bd 2 (2) (2)) h278).1).1, ((rf_eq b269 (by decide : Bd 2 (2) (2)) h278).1).2⟩
                        refine lv_aload_n hx hb dX5_advance_148 rfl (lv_at hl 0 rfl) ?_
                        refine lv_aload_n hx hb dX5_advance_149 rfl (lv_at hl 0 rfl) ?_
                        refine xget E hQ 94 (by decide) cl92_94 rfl 6 (by decide) q348 rfl dX5_advance_150 ?_
                        refine lv_bipush (v := 10) hx hb dX5_advance_153 (by decide) ?_
                        refine lv_imul hx hb dX5_advance_155 ?_
                        refine lv_topi (fun z280 e281 => ?_)
                        refine lv_aload_n hx hb dX5_advance_156 rfl (lv_at hl 0 rfl) ?_
                        refine xget E hQ 94 (by decide) cl92_94 rfl 0 (by decide) q342 rfl dX5_advance_157 ?_
                        refine lv_aload_n hx hb dX5_advance_160 rfl (lv_at hl 0 rfl) ?_
                        refine xget E hQ 94 (by decide) cl92_94 rfl 5 (by decide) q347 rfl dX5_advance_161 ?_
                        refine xbald E hQ 1 (by decide) c261 (ib_in b256 (by decide) (by decide)) dX5_advance_164 ?_
                        refine lv_topi (fun z282 e283 => ?_)
                        have b284 : Bd z282 (-128) (127) := (by rw [e283]; exact b235 _)
                        refine lv_iadd hx hb dX5_advance_165 ?_
                        refine lv_topi (fun z285 e286 => ?_)
                        refine lv_bipush (v := 48) hx hb dX5_advance_166 (by decide) ?_
                        refine lv_isub hx hb dX5_advance_168 ?_
                        refine lv_topi (fun z287 e288 => ?_)
                        refine lv_ldc (v := 1000000) hx hb E.2.2.1 (E.2.2.2.1 _ q609) dX5_advance_169 ?_
                        refine va_mmin hx hb (hml.trans hl.1.symm) E.2.2.1 (E.2.2.2.1 _ q582) (E.2.2.2.1 _ q583) (E.2.2.2.1 _ q128) (E.2.2.2.1 _ q584) (Nat.le_of_ble_eq_true rfl) (Nat.le_of_ble_eq_true rfl) (Nat.le_of_ble_eq_true rfl) (Nat.le_of_ble_eq_true rfl) dX5_advance_171 ?_
                        refine lv_topi (fun z289 e290 => ?_)
                        have b291 : Bd z289 (-2147483648) (1000000) := ib_min e290 (ib_full z287) (by decide : Bd 1000000 (1000000) (1000000)) (by decide) (by decide) (by decide) (by decide)
                        have t292 := ib_minx (p := z287.toInt) (q := 1000000) e290 rfl (by decide)
                        refine xputi E hs hQ 94 (by decide) cl92_94 rfl 6 (by decide) q348 rfl rfl (Nat.le_of_ble_eq_true rfl) dX5_advance_174 (fun H locs S293 eS293 hQ => ?_)
                        have hI := invX_up_94 hI eS293 ⟨y92_94_2, y92_94_3, y92_94_4, y92_94_5, z289, y92_94_7, y92_94_8, rfl, (ib_wk b257 (by decide) (by decide)), (ib_wk b260 (by decide) (by decide)), (ib_wk b256 (by decide) (by decide))⟩
                        have c294 : S293 94 = .inr (5, [.ref (ad 1), .ref (ad 20), .int y92_94_2, .int y92_94_3, .int y92_94_4, .int y92_94_5, .int z289, .int y92_94_7, .int y92_94_8]) := up_at eS293 rfl
                        refine lv_aload_n hx hb dX5_advance_177 rfl (lv_at hl 0 rfl) ?_
                        refine lv_dup hx hb dX5_advance_178 rfl ?_
                        refine xget E hQ 94 (by decide) c294 rfl 5 (by decide) q347 rfl dX5_advance_179 ?_
                        refine lv_iconst (v := 1) hx hb dX5_advance_182 (by decide) ?_
                        refine lv_iadd hx hb dX5_advance_183 ?_
                        refine lv_topi (fun z295 e296 => ?_)
                        have t297 := ib_add e296 b256 (by decide : Bd 1 (1) (1)) (by decide) (by decide)
                        have b298 : Bd z295 (1) (1200) := ib_addb t297 b256 (by decide : Bd 1 (1) (1))
                        have t297 : z295.toInt = y92_94_5.toInt + 1 := fold_add t297 rfl (by decide)
                        refine xputi E hs hQ 94 (by decide) c294 rfl 5 (by decide) q347 rfl rfl (Nat.le_of_ble_eq_true rfl) dX5_advance_184 (fun H locs S299 eS299 hQ => ?_)
                        have hI := invX_up_94 hI eS299 ⟨y92_94_2, y92_94_3, y92_94_4, z295, z289, y92_94_7, y92_94_8, rfl, (ib_wk b257 (by decide) (by decide)), (ib_wk b260 (by decide) (by decide)), (ib_wk b298 (by decide) (by decide))⟩
                        have c300 : S299 94 = .inr (5, [.ref (ad 1), .ref (ad 20), .int y92_94_2, .int y92_94_3, .int y92_94_4, .int z295, .int z289, .int y92_94_7, .int y92_94_8]) := up_at eS299 rfl
                        refine lv_goto (tgt := 92) hx hb dX5_advance_187 (by decide) ?_
                        exact ih92 _ _ _ _ y92_94_2 y92_94_3 y92_94_4 z295 z289 y92_94_7 y92_94_8 (ib_wk b257 (by decide) (by decide)) (ib_wk b279 (by decide) (by decide)) (ib_wk b260 (by decide) (by decide)) (ib_wk b298 (by decide) (by decide)) b291 (by omega) hI (up_o (up_o hf92 eS293 (by decide)) eS299 (by decide)) c300 hQ (lv_sub hl [0] rfl)
                  · have h301 := ib_ne k258
                    refine lv_aload_n hx hb dX5_advance_114 rfl (lv_at hl 0 rfl) ?_
                    refine xcVi E hs hQ hml hl.1 94 (gX5_isLong_94 l g ad hD S_92 hI ) mX5_isLong q605 (by decide) cl92_94 rfl rfl ⟨(Nat.le_of_ble_eq_true rfl), (Nat.le_of_ble_eq_true rfl)⟩ ⟨(Nat.le_of_ble_eq_true rfl), (Nat.le_of_ble_eq_true rfl)⟩ (Nat.le_of_ble_eq_true rfl) rfl dX5_advance_115 (fun r302 S302 H locs hp302 hQ _ => ?_)
                    obtain ⟨rfl, b302⟩ := hp302
                    refine lv_if_eq (tgt := 190) hx hb dX5_advance_118 (by decide) (fun k303 => ?_) (fun k303 => ?_)
                    · have h304 := ib_eq k303
                      have b305 : Bd r302 (0) (0) := ⟨(b302).1, ((rf_eq b302 (by decide : Bd 0 (0) (0)) h304).1).2⟩
                      exact xrv E hr hlk hQ (⟨hI, (o_trans (up_o (up_o (up_o (o_trans (up_o o_refl eS12 (by decide)) hf8 (by decide)) eS243 (by decide)) eS245 (by decide)) eS251 (by decide)) hf92 (by decide))⟩) dX5_advance_190
                    · have h306 := ib_ne k303
                      have b307 : Bd r302 (1) (1) := rf_nlo b302 (by decide : Bd 0 (0) (0)) h306
                      refine lv_aload_n hx hb dX5_advance_121 rfl (lv_at hl 0 rfl) ?_
                      refine xget E hQ 94 (by decide) cl92_94 rfl 0 (by decide) q342 rfl dX5_advance_122 ?_
                      refine lv_aload_n hx hb dX5_advance_125 rfl (lv_at hl 0 rfl) ?_
                      refine xget E hQ 94 (by decide) cl92_94 rfl 5 (by decide) q347 rfl dX5_advance_126 ?_
                      have c308 : S_92 1 = .inl (g.2 1, 1200, .inl f233) := ((hf92 1 (by decide)).trans (up_ne eS251 (by decide) (up_ne eS245 (by decide) (up_ne eS243 (by decide) c234))))
                      refine xbald E hQ 1 (by decide) c308 (ib_in b256 (by decide) (by decide)) dX5_advance_129 ?_
                      refine lv_topi (fun z309 e310 => ?_)
                      have b311 : Bd z309 (-128) (127) := (by rw [e310]; exact b235 _)
                      refine xcSi E hs hQ hml hl.1 (gX5_kindOf l g ad hD S_92 hI z309 b311) mX5_kindOf q602 rfl ⟨(Nat.le_of_ble_eq_true rfl), (Nat.le_of_ble_eq_true rfl)⟩ ⟨(Nat.le_of_ble_eq_true rfl), (Nat.le_of_ble_eq_true rfl)⟩ (Nat.le_of_ble_eq_true rfl) rfl dX5_advance_130 (fun r312 S312 H locs hp312 hQ => ?_)
                      obtain ⟨rfl, b312⟩ := hp312
                      refine lv_aload_n hx hb dX5_advance_133 rfl (lv_at hl 0 rfl) ?_
                      refine xget E hQ 94 (by decide) cl92_94 rfl 3 (by decide) q345 rfl dX5_advance_134 ?_
                      refine lv_icmp_ne (tgt := 190) hx hb dX5_advance_137 (by decide) (fun k313 => ?_) (fun k313 => ?_)
                      · have h314 := ib_ne k313
                        exact xrv E hr hlk hQ (⟨hI, (o_trans (up_o (up_o (up_o (o_trans (up_o o_refl eS12 (by decide)) hf8 (by decide)) eS243 (by decide)) eS245 (by decide)) eS251 (by decide)) hf92 (by decide))⟩) dX5_advance_190
                      · have h315 := ib_eq k313
                        have b316 : Bd y92_94_3 (1) (5) := ⟨((rf_eq b312 By92_94_3 h315).2).1, (By92_94_3).2⟩
                        refine lv_aload_n hx hb dX5_advance_140 rfl (lv_at hl 0 rfl) ?_
                        refine xget E hQ 94 (by decide) cl92_94 rfl 3 (by decide) q345 rfl dX5_advance_141 ?_
                        refine lv_iconst (v := 2) hx hb dX5_advance_144 (by decide) ?_
                        refine lv_icmp_ne (tgt := 177) hx hb dX5_advance_145 (by decide) (fun k317 => ?_) (fun k317 => ?_)
                        · have h318 := ib_ne k317
                          refine lv_aload_n hx hb dX5_advance_177 rfl (lv_at hl 0 rfl) ?_
                          refine lv_dup hx hb dX5_advance_178 rfl ?_
                          refine xget E hQ 94 (by decide) cl92_94 rfl 5 (by decide) q347 rfl dX5_advance_179 ?_
                          refine lv_iconst (v := 1) hx hb dX5_advance_182 (by decide) ?_
                          refine lv_iadd hx hb dX5_advance_183 ?_
                          refine lv_topi (fun z319 e320 => ?_)
                          have t321 := ib_add e320 b256 (by decide : Bd 1 (1) (1)) (by decide) (by decide)
                          have b322 : Bd z319 (1) (1200) := ib_addb t321 b256 (by decide : Bd 1 (1) (1))
                          have t321 : z319.toInt = y92_94_5.toInt + 1 := fold_add t321 rfl (by decide)
                          refine xputi E hs hQ 94 (by decide) cl92_94 rfl 5 (by decide) q347 rfl rfl (Nat.le_of_ble_eq_true rfl) dX5_advance_184 (fun H locs S323 eS323 hQ => ?_)
                          have hI := invX_up_94 hI eS323 ⟨y92_94_2, y92_94_3, y92_94_4, z319, y92_94_6, y92_94_7, y92_94_8, rfl, (ib_wk b257 (by decide) (by decide)), By92_94_4, (ib_wk b322 (by decide) (by decide))⟩
                          have c324 : S323 94 = .inr (5, [.ref (ad 1), .ref (ad 20), .int y92_94_2, .int y92_94_3, .int y92_94_4, .int z319, .int y92_94_6, .int y92_94_7, .int y92_94_8]) := up_at eS323 rfl
                          refine lv_goto (tgt := 92) hx hb dX5_advance_187 (by decide) ?_
                          exact ih92 _ _ _ _ y92_94_2 y92_94_3 y92_94_4 z319 y92_94_6 y92_94_7 y92_94_8 (ib_wk b257 (by decide) (by decide)) (ib_wk b316 (by decide) (by decide)) By92_94_4 (ib_wk b322 (by decide) (by decide)) By92_94_6 (by omega) hI (up_o hf92 eS323 (by decide)) c324 hQ (lv_sub hl [0] rfl)
                        · have h325 := ib_eq k317
                          have b326 : Bd y92_94_3 (2) (2) := ⟨((rf_eq b316 (by decide : Bd 2 (2) (2)) h325).1).1, ((rf_eq b316 (by decide : Bd 2 (2) (2)) h325).1).2⟩
                          refine lv_aload_n hx hb dX5_advance_148 rfl (lv_at hl 0 rfl) ?_
                          refine lv_aload_n hx hb dX5_advance_149 rfl (lv_at hl 0 rfl) ?_
                          refine xget E hQ 94 (by decide) cl92_94 rfl 6 (by decide) q348 rfl dX5_advance_150 ?_
                          refine lv_bipush (v := 10) hx hb dX5_advance_153 (by decide) ?_
                          refine lv_imul hx hb dX5_advance_155 ?_
                          refine lv_topi (fun z327 e328 => ?_)
                          refine lv_aload_n hx hb dX5_advance_156 rfl (lv_at hl 0 rfl) ?_
                          refine xget E hQ 94 (by decide) cl92_94 rfl 0 (by decide) q342 rfl dX5_advance_157 ?_
                          refine lv_aload_n hx hb dX5_advance_160 rfl (lv_at hl 0 rfl) ?_
                          refine xget E hQ 94 (by decide) cl92_94 rfl 5 (by decide) q347 rfl dX5_advance_161 ?_
                          refine xbald E hQ 1 (by decide) c308 (ib_in b256 (by decide) (by decide)) dX5_advance_164 ?_
                          refine lv_topi (fun z329 e330 => ?_)
                          have b331 : Bd z329 (-128) (127) := (by rw [e330]; exact b235 _)
                          refine lv_iadd hx hb dX5_advance_165 ?_
                          refine lv_topi (fun z332 e333 => ?_)
                          refine lv_bipush (v := 48) hx hb dX5_advance_166 (by decide) ?_
                          refine lv_isub hx hb dX5_advance_168 ?_
                          refine lv_topi (fun z334 e335 => ?_)
                          refine lv_ldc (v := 1000000) hx hb E.2.2.1 (E.2.2.2.1 _ q609) dX5_advance_169 ?_
                          refine va_mmin hx hb (hml.trans hl.1.symm) E.2.2.1 (E.2.2.2.1 _ q582) (E.2.2.2.1 _ q583) (E.2.2.2.1 _ q128) (E.2.2.2.1 _ q584) (Nat.le_of_ble_eq_true rfl) (Nat.le_of_ble_eq_true rfl) (Nat.le_of_ble_eq_true rfl) (Nat.le_of_ble_eq_true rfl) dX5_advance_171 ?_
                          refine lv_topi (fun z336 e337 => ?_)
                          have b338 : Bd z336 (-2147483648) (1000000) := ib_min e337 (ib_full z334) (by decide : Bd 1000000 (1000000) (1000000)) (by decide) (by decide) (by decide) (by decide)
                          have t339 := ib_minx (p := z334.toInt) (q := 1000000) e337 rfl (by decide)
                          refine xputi E hs hQ 94 (by decide) cl92_94 rfl 6 (by decide) q348 rfl rfl (Nat.le_of_ble_eq_true rfl) dX5_advance_174 (fun H locs S340 eS340 hQ => ?_)
                          have hI := invX_up_94 hI eS340 ⟨y92_94_2, y92_94_3, y92_94_4, y92_94_5, z336, y92_94_7, y92_94_8, rfl, (ib_wk b257 (by decide) (by decide)), By92_94_4, (ib_wk b256 (by decide) (by decide))⟩
                          have c341 : S340 94 = .inr (5, [.ref (ad 1), .ref (ad 20), .int y92_94_2, .int y92_94_3, .int y92_94_4, .int y92_94_5, .int z336, .int y92_94_7, .int y92_94_8]) := up_at eS340 rfl
                          refine lv_aload_n hx hb dX5_advance_177 rfl (lv_at hl 0 rfl) ?_
                          refine lv_dup hx hb dX5_advance_178 rfl ?_
                          refine xget E hQ 94 (by decide) c341 rfl 5 (by decide) q347 rfl dX5_advance_179 ?_
                          refine lv_iconst (v := 1) hx hb dX5_advance_182 (by decide) ?_
                          refine lv_iadd hx hb dX5_advance_183 ?_
                          refine lv_topi (fun z342 e343 => ?_)
                          have t344 := ib_add e343 b256 (by decide : Bd 1 (1) (1)) (by decide) (by decide)
                          have b345 : Bd z342 (1) (1200) := ib_addb t344 b256 (by decide : Bd 1 (1) (1))
                          have t344 : z342.toInt = y92_94_5.toInt + 1 := fold_add t344 rfl (by decide)
                          refine xputi E hs hQ 94 (by decide) c341 rfl 5 (by decide) q347 rfl rfl (Nat.le_of_ble_eq_true rfl) dX5_advance_184 (fun H locs S346 eS346 hQ => ?_)
                          have hI := invX_up_94 hI eS346 ⟨y92_94_2, y92_94_3, y92_94_4, z342, z336, y92_94_7, y92_94_8, rfl, (ib_wk b257 (by decide) (by decide)), By92_94_4, (ib_wk b345 (by decide) (by decide))⟩
                          have c347 : S346 94 = .inr (5, [.ref (ad 1), .ref (ad 20), .int y92_94_2, .int y92_94_3, .int y92_94_4, .int z342, .int z336, .int y92_94_7, .int y92_94_8]) := up_at eS346 rfl
                          refine lv_goto (tgt := 92) hx hb dX5_advance_187 (by decide) ?_
                          exact ih92 _ _ _ _ y92_94_2 y92_94_3 y92_94_4 z342 z336 y92_94_7 y92_94_8 (ib_wk b257 (by decide) (by decide)) (ib_wk b326 (by decide) (by decide)) By92_94_4 (ib_wk b345 (by decide) (by decide)) b338 (by omega) hI (up_o (up_o hf92 eS340 (by decide)) eS346 (by decide)) c347 hQ (lv_sub hl [0] rfl)
            obtain ⟨n92, hn92⟩ := fu_n ((-1) * y8_94_4.toInt + 1200)
            exact loop92 n92 _ _ _ _ y8_94_2 0 y8_94_4 y8_94_4 0 y8_94_7 y8_94_8 (ib_wk b249 (by decide) (by decide)) (ib_wk (by decide : Bd 0 (0) (0)) (by decide) (by decide)) (ib_wk b250 (by decide) (by decide)) (ib_wk b250 (by decide) (by decide)) (ib_wk (by decide : Bd 0 (0) (0)) (by decide) (by decide)) (by have : (0 : Int32).toInt = 0 := (by decide); omega) hI o_refl c252 hQ (lv_sub hl [0] rfl)
          · have h348 := ib_nle k247
            refine lv_aload_n hx hb dX5_advance_73 rfl (lv_at hl 0 rfl) ?_
            refine xget E hQ 94 (by decide) c246 rfl 0 (by decide) q342 rfl dX5_advance_74 ?_
            refine lv_aload_n hx hb dX5_advance_77 rfl (lv_at hl 0 rfl) ?_
            refine xget E hQ 94 (by decide) c246 rfl 4 (by decide) q346 rfl dX5_advance_78 ?_
            have c349 : S245 1 = .inl (g.2 1, 1200, .inl f233) := (up_ne eS245 (by decide) (up_ne eS243 (by decide) c234))
            refine xbald E hQ 1 (by decide) c349 (ib_in b231 (by decide) (by decide)) dX5_advance_81 ?_
            refine lv_topi (fun z350 e351 => ?_)
            have b352 : Bd z350 (-128) (127) := (by rw [e351]; exact b235 _)
            refine xcSi E hs hQ hml hl.1 (gX5_kindOf l g ad hD S245 hI z350 b352) mX5_kindOf q602 rfl ⟨(Nat.le_of_ble_eq_true rfl), (Nat.le_of_ble_eq_true rfl)⟩ ⟨(Nat.le_of_ble_eq_true rfl), (Nat.le_of_ble_eq_true rfl)⟩ (Nat.le_of_ble_eq_true rfl) rfl dX5_advance_82 (fun r353 S353 H locs hp353 hQ => ?_)
            obtain ⟨rfl, b353⟩ := hp353
            refine lv_goto (tgt := 89) hx hb dX5_advance_85 (by decide) ?_
            refine xputi E hs hQ 94 (by decide) c246 rfl 3 (by decide) q345 rfl rfl (Nat.le_of_ble_eq_true rfl) dX5_advance_89 (fun H locs S354 eS354 hQ => ?_)
            have hI := invX_up_94 hI eS354 ⟨y8_94_2, r353, y8_94_4, y8_94_4, 0, y8_94_7, y8_94_8, rfl, (ib_wk b232 (by decide) (by decide)), (ib_wk b231 (by decide) (by decide)), (ib_wk b231 (by decide) (by decide))⟩
            have c355 : S354 94 = .inr (5, [.ref (ad 1), .ref (ad 20), .int y8_94_2, .int r353, .int y8_94_4, .int y8_94_4, .int 0, .int y8_94_7, .int y8_94_8]) := up_at eS354 rfl
            have loop92 : ∀ (n : Nat) (S_92 : SS) (H : Heap) (locs : List Loc) (ls : Array Slot) (y92_94_2 : Int32) (y92_94_3 : Int32) (y92_94_4 : Int32) (y92_94_5 : Int32) (y92_94_6 : Int32) (y92_94_7 : Int32) (y92_94_8 : Int32), Bd y92_94_2 (0) (1200) → Bd y92_94_3 (0) (5) → Bd y92_94_4 (0) (1200) → Bd y92_94_5 (0) (1200) → Bd y92_94_6 (-2147483648) (1000000) → (-1) * y92_94_5.toInt + 1200 < ((n : Nat) : Int) → InvX g ad S_92 → (∀ j, j ∉ ([94] : List Nat) → S_92 j = S354 j) → S_92 94 = .inr (5, [.ref (ad 1), .ref (ad 20), .int y92_94_2, .int y92_94_3, .int y92_94_4, .int y92_94_5, .int y92_94_6, .int y92_94_7, .int y92_94_8]) → Hp g ad 122 S_92 (FA ad 122) s.heap H locs → lv_has ls 1 [(0, .ref (ad 94))] → W p l e (Rm 1) s m [.ref (ad 94)].toArray below meth c H locs 0 0 (MQ below (va_Qv (fun S' => InvX g ad S' ∧ (∀ j, j ∉ ([94] : List Nat) → S' j = S j)) (QB g ad 122) (FA ad 122)) [.ref (ad 94)].toArray s 0 0 (FA ad 122)) (F0 m 92 ls []) := by
              intro n
              induction n with
              | zero => intro S_92 H locs ls y92_94_2 y92_94_3 y92_94_4 y92_94_5 y92_94_6 y92_94_7 y92_94_8 By92_94_2 By92_94_3 By92_94_4 By92_94_5 By92_94_6 hn92_ hI hf92 cl92_94 hQ hl; exfalso; have := (By92_94_5).2; omega
              | succ n92_ ih92 =>
                intro S_92 H locs ls y92_94_2 y92_94_3 y92_94_4 y92_94_5 y92_94_6 y92_94_7 y92_94_8 By92_94_2 By92_94_3 By92_94_4 By92_94_5 By92_94_6 hn92_ hI hf92 cl92_94 hQ hl
                refine lv_aload_n hx hb dX5_advance_92 rfl (lv_at hl 0 rfl) ?_
                refine xget E hQ 94 (by decide) cl92_94 rfl 5 (by decide) q347 rfl dX5_advance_93 ?_
                refine lv_aload_n hx hb dX5_advance_96 rfl (lv_at hl 0 rfl) ?_
                refine xget E hQ 94 (by decide) cl92_94 rfl 2 (by decide) q344 rfl dX5_advance_97 ?_
                refine lv_icmp_ge (tgt := 190) hx hb dX5_advance_100 (by decide) (fun k356 => ?_) (fun k356 => ?_)
                · have h357 := ib_le k356
                  exact xrv E hr hlk hQ (⟨hI, (o_trans (up_o (up_o (up_o (o_trans (up_o o_refl eS12 (by decide)) hf8 (by decide)) eS243 (by decide)) eS245 (by decide)) eS354 (by decide)) hf92 (by decide))⟩) dX5_advance_190
                · have h358 := ib_nle k356
                  have b359 : Bd y92_94_5 (0) (1199) := ⟨(By92_94_5).1, ((rf_lt By92_94_5 By92_94_2 h358).1).2⟩
                  have b360 : Bd y92_94_2 (1) (1200) := ⟨((rf_lt By92_94_5 By92_94_2 h358).2).1, (By92_94_2).2⟩
                  refine lv_aload_n hx hb dX5_advance_103 rfl (lv_at hl 0 rfl) ?_
                  refine xget E hQ 94 (by decide) cl92_94 rfl 5 (by decide) q347 rfl dX5_advance_104 ?_
                  refine lv_aload_n hx hb dX5_advance_107 rfl (lv_at hl 0 rfl) ?_
                  refine xget E hQ 94 (by decide) cl92_94 rfl 4 (by decide) q346 rfl dX5_advance_108 ?_
                  refine lv_icmp_eq (tgt := 121) hx hb dX5_advance_111 (by decide) (fun k361 => ?_) (fun k361 => ?_)
                  · have h362 := ib_eq k361
                    have b363 : Bd y92_94_4 (0) (1199) := ⟨(By92_94_4).1, ((rf_eq b359 By92_94_4 h362).2).2⟩
                    refine lv_aload_n hx hb dX5_advance_121 rfl (lv_at hl 0 rfl) ?_
                    refine xget E hQ 94 (by decide) cl92_94 rfl 0 (by decide) q342 rfl dX5_advance_122 ?_
                    refine lv_aload_n hx hb dX5_advance_125 rfl (lv_at hl 0 rfl) ?_
                    refine xget E hQ 94 (by decide) cl92_94 rfl 5 (by decide) q347 rfl dX5_advance_126 ?_
                    have c364 : S_92 1 = .inl (g.2 1, 1200, .inl f233) := ((hf92 1 (by decide)).trans (up_ne eS354 (by decide) c349))
                    refine xbald E hQ 1 (by decide) c364 (ib_in b359 (by decide) (by decide)) dX5_advance_129 ?_
                    refine lv_topi (fun z365 e366 => ?_)
                    have b367 : Bd z365 (-128) (127) := (by rw [e366]; exact b235 _)
                    refine xcSi E hs hQ hml hl.1 (gX5_kindOf l g ad hD S_92 hI z365 b367) mX5_kindOf q602 rfl ⟨(Nat.le_of_ble_eq_true rfl), (Nat.le_of_ble_eq_true rfl)⟩ ⟨(Nat.le_of_ble_eq_true rfl), (Nat.le_of_ble_eq_true rfl)⟩ (Nat.le_of_ble_eq_true rfl) rfl dX5_advance_130 (fun r368 S368 H locs hp368 hQ => ?_)
                    obtain ⟨rfl, b368⟩ := hp368
                    refine lv_aload_n hx hb dX5_advance_133 rfl (lv_at hl 0 rfl) ?_
                    refine xget E hQ 94 (by decide) cl92_94 rfl 3 (by decide) q345 rfl dX5_advance_134 ?_
                    refine lv_icmp_ne (tgt := 190) hx hb dX5_advance_137 (by decide) (fun k369 => ?_) (fun k369 => ?_)
                    · have h370 := ib_ne k369
                      exact xrv E hr hlk hQ (⟨hI, (o_trans (up_o (up_o (up_o (o_trans (up_o o_refl eS12 (by decide)) hf8 (by decide)) eS243 (by decide)) eS245 (by decide)) eS354 (by decide)) hf92 (by decide))⟩) dX5_advance_190
                    · have h371 := ib_eq k369
                      have b372 : Bd y92_94_3 (1) (5) := ⟨((rf_eq b368 By92_94_3 h371).2).1, (By92_94_3).2⟩
                      refine lv_aload_n hx hb dX5_advance_140 rfl (lv_at hl 0 rfl) ?_
                      refine xget E hQ 94 (by decide) cl92_94 rfl 3 (by decide) q345 rfl dX5_advance_141 ?_
                      refine lv_iconst (v := 2) hx hb dX5_advance_144 (by decide) ?_
                      refine lv_icmp_ne (tgt := 177) hx hb dX5_advance_145 (by decide) (fun k373 => ?_) (fun k373 => ?_)
                      · have h374 := ib_ne k373
                        refine lv_aload_n hx hb dX5_advance_177 rfl (lv_at hl 0 rfl) ?_
                        refine lv_dup hx hb dX5_advance_178 rfl ?_
                        refine xget E hQ 94 (by decide) cl92_94 rfl 5 (by decide) q347 rfl dX5_advance_179 ?_
                        refine lv_iconst (v := 1) hx hb dX5_advance_182 (by decide) ?_
                        refine lv_iadd hx hb dX5_advance_183 ?_
                        refine lv_topi (fun z375 e376 => ?_)
                        have t377 := ib_add e376 b359 (by decide : Bd 1 (1) (1)) (by decide) (by decide)
                        have b378 : Bd z375 (1) (1200) := ib_addb t377 b359 (by decide : Bd 1 (1) (1))
                        have t377 : z375.toInt = y92_94_5.toInt + 1 := fold_add t377 rfl (by decide)
                        refine xputi E hs hQ 94 (by decide) cl92_94 rfl 5 (by decide) q347 rfl rfl (Nat.le_of_ble_eq_true rfl) dX5_advance_184 (fun H locs S379 eS379 hQ => ?_)
                        have hI := invX_up_94 hI eS379 ⟨y92_94_2, y92_94_3, y92_94_4, z375, y92_94_6, y92_94_7, y92_94_8, rfl, (ib_wk b360 (by decide) (by decide)), (ib_wk b363 (by decide) (by decide)), (ib_wk b378 (by decide) (by decide))⟩
                        have c380 : S379 94 = .inr (5, [.ref (ad 1), .ref (ad 20), .int y92_94_2, .int y92_94_3, .int y92_94_4, .int z375, .int y92_94_6, .int y92_94_7, .int y92_94_8]) := up_at eS379 rfl
                        refine lv_goto (tgt := 92) hx hb dX5_advance_187 (by decide) ?_
                        exact ih92 _ _ _ _ y92_94_2 y92_94_3 y92_94_4 z375 y92_94_6 y92_94_7 y92_94_8 (ib_wk b360 (by decide) (by decide)) (ib_wk b372 (by decide) (by decide)) (ib_wk b363 (by decide) (by decide)) (ib_wk b378 (by decide) (by decide)) By92_94_6 (by omega) hI (up_o hf92 eS379 (by decide)) c380 hQ (lv_sub hl [0] rfl)
                      · have h381 := ib_eq k373
                        have b382 : Bd y92_94_3 (2) (2) := ⟨((rf_eq b372 (by decide : Bd 2 (2) (2)) h381).1).1, ((rf_eq b372 (by decide : Bd 2 (2) (2)) h381).1).2⟩
                        refine lv_aload_n hx hb dX5_advance_148 rfl (lv_at hl 0 rfl) ?_
                        refine lv_aload_n hx hb dX5_advance_149 rfl (lv_at hl 0 rfl) ?_
                        refine xget E hQ 94 (by decide) cl92_94 rfl 6 (by decide) q348 rfl dX5_advance_150 ?_
                        refine lv_bipush (v := 10) hx hb dX5_advance_153 (by decide) ?_
                        refine lv_imul hx hb dX5_advance_155 ?_
                        refine lv_topi (fun z383 e384 => ?_)
                        refine lv_aload_n hx hb dX5_advance_156 rfl (lv_at hl 0 rfl) ?_
                        refine xget E hQ 94 (by decide) cl92_94 rfl 0 (by decide) q342 rfl dX5_advance_157 ?_
                        refine lv_aload_n hx hb dX5_advance_160 rfl (lv_at hl 0 rfl) ?_
                        refine xget E hQ 94 (by decide) cl92_94 rfl 5 (by decide) q347 rfl dX5_advance_161 ?_
                        refine xbald E hQ 1 (by decide) c364 (ib_in b359 (by decide) (by decide)) dX5_advance_164 ?_
                        refine lv_topi (fun z385 e386 => ?_)
                        have b387 : Bd z385 (-128) (127) := (by rw [e386]; exact b235 _)
                        refine lv_iadd hx hb dX5_advance_165 ?_
                        refine lv_topi (fun z388 e389 => ?_)
                        refine lv_bipush (v := 48) hx hb dX5_advance_166 (by decide) ?_
                        refine lv_isub hx hb dX5_advance_168 ?_
                        refine lv_topi (fun z390 e391 => ?_)
                        refine lv_ldc (v := 1000000) hx hb E.2.2.1 (E.2.2.2.1 _ q609) dX5_advance_169 ?_
                        refine va_mmin hx hb (hml.trans hl.1.symm) E.2.2.1 (E.2.2.2.1 _ q582) (E.2.2.2.1 _ q583) (E.2.2.2.1 _ q128) (E.2.2.2.1 _ q584) (Nat.le_of_ble_eq_true rfl) (Nat.le_of_ble_eq_true rfl) (Nat.le_of_ble_eq_true rfl) (Nat.le_of_ble_eq_true rfl) dX5_advance_171 ?_
                        refine lv_topi (fun z392 e393 => ?_)
                        have b394 : Bd z392 (-2147483648) (1000000) := ib_min e393 (ib_full z390) (by decide : Bd 1000000 (1000000) (1000000)) (by decide) (by decide) (by decide) (by decide)
                        have t395 := ib_minx (p := z390.toInt) (q := 1000000) e393 rfl (by decide)
                        refine xputi E hs hQ 94 (by decide) cl92_94 rfl 6 (by decide) q348 rfl rfl (Nat.le_of_ble_eq_true rfl) dX5_advance_174 (fun H locs S396 eS396 hQ => ?_)
                        have hI := invX_up_94 hI eS396 ⟨y92_94_2, y92_94_3, y92_94_4, y92_94_5, z392, y92_94_7, y92_94_8, rfl, (ib_wk b360 (by decide) (by decide)), (ib_wk b363 (by decide) (by decide)), (ib_wk b359 (by decide) (by decide))⟩
                        have c397 : S396 94 = .inr (5, [.ref (ad 1), .ref (ad 20), .int y92_94_2, .int y92_94_3, .int y92_94_4, .int y92_94_5, .int z392, .int y92_94_7, .int y92_94_8]) := up_at eS396 rfl
                        refine lv_aload_n hx hb dX5_advance_177 rfl (lv_at hl 0 rfl) ?_
                        refine lv_dup hx hb dX5_advance_178 rfl ?_
                        refine xget E hQ 94 (by decide) c397 rfl 5 (by decide) q347 rfl dX5_advance_179 ?_
                        refine lv_iconst (v := 1) hx hb dX5_advance_182 (by decide) ?_
                        refine lv_iadd hx hb dX5_advance_183 ?_
                        refine lv_topi (fun z398 e399 => ?_)
                        have t400 := ib_add e399 b359 (by decide : Bd 1 (1) (1)) (by decide) (by decide)
                        have b401 : Bd z398 (1) (1200) := ib_addb t400 b359 (by decide : Bd 1 (1) (1))
                        have t400 : z398.toInt = y92_94_5.toInt + 1 := fold_add t400 rfl (by decide)
                        refine xputi E hs hQ 94 (by decide) c397 rfl 5 (by decide) q347 rfl rfl (Nat.le_of_ble_eq_true rfl) dX5_advance_184 (fun H locs S402 eS402 hQ => ?_)
                        have hI := invX_up_94 hI eS402 ⟨y92_94_2, y92_94_3, y92_94_4, z398, z392, y92_94_7, y92_94_8, rfl, (ib_wk b360 (by decide) (by decide)), (ib_wk b363 (by decide) (by decide)), (ib_wk b401 (by decide) (by decide))⟩
                        have c403 : S402 94 = .inr (5, [.ref (ad 1), .ref (ad 20), .int y92_94_2, .int y92_94_3, .int y92_94_4, .int z398, .int z392, .int y92_94_7, .int y92_94_8]) := up_at eS402 rfl
                        refine lv_goto (tgt := 92) hx hb dX5_advance_187 (by decide) ?_
                        exact ih92 _ _ _ _ y92_94_2 y92_94_3 y92_94_4 z398 z392 y92_94_7 y92_94_8 (ib_wk b360 (by decide) (by decide)) (ib_wk b382 (by decide) (by decide)) (ib_wk b363 (by decide) (by decide)) (ib_wk b401 (by decide) (by decide)) b394 (by omega) hI (up_o (up_o hf92 eS396 (by decide)) eS402 (by decide)) c403 hQ (lv_sub hl [0] rfl)
                  · have h404 := ib_ne k361
                    refine lv_aload_n hx hb dX5_advance_114 rfl (lv_at hl 0 rfl) ?_
                    refine xcVi E hs hQ hml hl.1 94 (gX5_isLong_94 l g ad hD S_92 hI ) mX5_isLong q605 (by decide) cl92_94 rfl rfl ⟨(Nat.le_of_ble_eq_true rfl), (Nat.le_of_ble_eq_true rfl)⟩ ⟨(Nat.le_of_ble_eq_true rfl), (Nat.le_of_ble_eq_true rfl)⟩ (Nat.le_of_ble_eq_true rfl) rfl dX5_advance_115 (fun r405 S405 H locs hp405 hQ _ => ?_)
                    obtain ⟨rfl, b405⟩ := hp405
                    refine lv_if_eq (tgt := 190) hx hb dX5_advance_118 (by decide) (fun k406 => ?_) (fun k406 => ?_)
                    · have h407 := ib_eq k406
                      have b408 : Bd r405 (0) (0) := ⟨(b405).1, ((rf_eq b405 (by decide : Bd 0 (0) (0)) h407).1).2⟩
                      exact xrv E hr hlk hQ (⟨hI, (o_trans (up_o (up_o (up_o (o_trans (up_o o_refl eS12 (by decide)) hf8 (by decide)) eS243 (by decide)) eS245 (by decide)) eS354 (by decide)) hf92 (by decide))⟩) dX5_advance_190
                    · have h409 := ib_ne k406
                      have b410 : Bd r405 (1) (1) := rf_nlo b405 (by decide : Bd 0 (0) (0)) h409
                      refine lv_aload_n hx hb dX5_advance_121 rfl (lv_at hl 0 rfl) ?_
                      refine xget E hQ 94 (by decide) cl92_94 rfl 0 (by decide) q342 rfl dX5_advance_122 ?_
                      refine lv_aload_n hx hb dX5_advance_125 rfl (lv_at hl 0 rfl) ?_
                      refine xget E hQ 94 (by decide) cl92_94 rfl 5 (by decide) q347 rfl dX5_advance_126 ?_
                      have c411 : S_92 1 = .inl (g.2 1, 1200, .inl f233) := ((hf92 1 (by decide)).trans (up_ne eS354 (by decide) c349))
                      refine xbald E hQ 1 (by decide) c411 (ib_in b359 (by decide) (by decide)) dX5_advance_129 ?_
                      refine lv_topi (fun z412 e413 => ?_)
                      have b414 : Bd z412 (-128) (127) := (by rw [e413]; exact b235 _)
                      refine xcSi E hs hQ hml hl.1 (gX5_kindOf l g ad hD S_92 hI z412 b414) mX5_kindOf q602 rfl ⟨(Nat.le_of_ble_eq_true rfl), (Nat.le_of_ble_eq_true rfl)⟩ ⟨(Nat.le_of_ble_eq_true rfl), (Nat.le_of_ble_eq_true rfl)⟩ (Nat.le_of_ble_eq_true rfl) rfl dX5_advance_130 (fun r415 S415 H locs hp415 hQ => ?_)
                      obtain ⟨rfl, b415⟩ := hp415
                      refine lv_aload_n hx hb dX5_advance_133 rfl (lv_at hl 0 rfl) ?_
                      refine xget E hQ 94 (by decide) cl92_94 rfl 3 (by decide) q345 rfl dX5_advance_134 ?_
                      refine lv_icmp_ne (tgt := 190) hx hb dX5_advance_137 (by decide) (fun k416 => ?_) (fun k416 => ?_)
                      · have h417 := ib_ne k416
                        exact xrv E hr hlk hQ (⟨hI, (o_trans (up_o (up_o (up_o (o_trans (up_o o_refl eS12 (by decide)) hf8 (by decide)) eS243 (by decide)) eS245 (by decide)) eS354 (by decide)) hf92 (by decide))⟩) dX5_advance_190
                      · have h418 := ib_eq k416
                        have b419 : Bd y92_94_3 (1) (5) := ⟨((rf_eq b415 By92_94_3 h418).2).1, (By92_94_3).2⟩
                        refine lv_aload_n hx hb dX5_advance_140 rfl (lv_at hl 0 rfl) ?_
                        refine xget E hQ 94 (by decide) cl92_94 rfl 3 (by decide) q345 rfl dX5_advance_141 ?_
                        refine lv_iconst (v := 2) hx hb dX5_advance_144 (by decide) ?_
                        refine lv_icmp_ne (tgt := 177) hx hb dX5_advance_145 (by decide) (fun k420 => ?_) (fun k420 => ?_)
                        · have h421 := ib_ne k420
                          refine lv_aload_n hx hb dX5_advance_177 rfl (lv_at hl 0 rfl) ?_
                          refine lv_dup hx hb dX5_advance_178 rfl ?_
                          refine xget E hQ 94 (by decide) cl92_94 rfl 5 (by decide) q347 rfl dX5_advance_179 ?_
                          refine lv_iconst (v := 1) hx hb dX5_advance_182 (by decide) ?_
                          refine lv_iadd hx hb dX5_advance_183 ?_
                          refine lv_topi (fun z422 e423 => ?_)
                          have t424 := ib_add e423 b359 (by decide : Bd 1 (1) (1)) (by decide) (by decide)
                          have b425 : Bd z422 (1) (1200) := ib_addb t424 b359 (by decide : Bd 1 (1) (1))
                          have t424 : z422.toInt = y92_94_5.toInt + 1 := fold_add t424 rfl (by decide)
                          refine xputi E hs hQ 94 (by decide) cl92_94 rfl 5 (by decide) q347 rfl rfl (Nat.le_of_ble_eq_true rfl) dX5_advance_184 (fun H locs S426 eS426 hQ => ?_)
                          have hI := invX_up_94 hI eS426 ⟨y92_94_2, y92_94_3, y92_94_4, z422, y92_94_6, y92_94_7, y92_94_8, rfl, (ib_wk b360 (by decide) (by decide)), By92_94_4, (ib_wk b425 (by decide) (by decide))⟩
                          have c427 : S426 94 = .inr (5, [.ref (ad 1), .ref (ad 20), .int y92_94_2, .int y92_94_3, .int y92_94_4, .int z422, .int y92_94_6, .int y92_94_7, .int y92_94_8]) := up_at eS426 rfl
                          refine lv_goto (tgt := 92) hx hb dX5_advance_187 (by decide) ?_
                          exact ih92 _ _ _ _ y92_94_2 y92_94_3 y92_94_4 z422 y92_94_6 y92_94_7 y92_94_8 (ib_wk b360 (by decide) (by decide)) (ib_wk b419 (by decide) (by decide)) By92_94_4 (ib_wk b425 (by decide) (by decide)) By92_94_6 (by omega) hI (up_o hf92 eS426 (by decide)) c427 hQ (lv_sub hl [0] rfl)
                        · have h428 := ib_eq k420
                          have b429 : Bd y92_94_3 (2) (2) := ⟨((rf_eq b419 (by decide : Bd 2 (2) (2)) h428).1).1, ((rf_eq b419 (by decide : Bd 2 (2) (2)) h428).1).2⟩
                          refine lv_aload_n hx hb dX5_advance_148 rfl (lv_at hl 0 rfl) ?_
                          refine lv_aload_n hx hb dX5_advance_149 rfl (lv_at hl 0 rfl) ?_
                          refine xget E hQ 94 (by decide) cl92_94 rfl 6 (by decide) q348 rfl dX5_advance_150 ?_
                          refine lv_bipush (v := 10) hx hb dX5_advance_153 (by decide) ?_
                          refine lv_imul hx hb dX5_advance_155 ?_
                          refine lv_topi (fun z430 e431 => ?_)
                          refine lv_aload_n hx hb dX5_advance_156 rfl (lv_at hl 0 rfl) ?_
                          refine xget E hQ 94 (by decide) cl92_94 rfl 0 (by decide) q342 rfl dX5_advance_157 ?_
                          refine lv_aload_n hx hb dX5_advance_160 rfl (lv_at hl 0 rfl) ?_
                          refine xget E hQ 94 (by decide) cl92_94 rfl 5 (by decide) q347 rfl dX5_advance_161 ?_
                          refine xbald E hQ 1 (by decide) c411 (ib_in b359 (by decide) (by decide)) dX5_advance_164 ?_
                          refine lv_topi (fun z432 e433 => ?_)
                          have b434 : Bd z432 (-128) (127) := (by rw [e433]; exact b235 _)
                          refine lv_iadd hx hb dX5_advance_165 ?_
                          refine lv_topi (fun z435 e436 => ?_)
                          refine lv_bipush (v := 48) hx hb dX5_advance_166 (by decide) ?_
                          refine lv_isub hx hb dX5_advance_168 ?_
                          refine lv_topi (fun z437 e438 => ?_)
                          refine lv_ldc (v := 1000000) hx hb E.2.2.1 (E.2.2.2.1 _ q609) dX5_advance_169 ?_
                          refine va_mmin hx hb (hml.trans hl.1.symm) E.2.2.1 (E.2.2.2.1 _ q582) (E.2.2.2.1 _ q583) (E.2.2.2.1 _ q128) (E.2.2.2.1 _ q584) (Nat.le_of_ble_eq_true rfl) (Nat.le_of_ble_eq_true rfl) (Nat.le_of_ble_eq_true rfl) (Nat.le_of_ble_eq_true rfl) dX5_advance_171 ?_
                          refine lv_topi (fun z439 e440 => ?_)
                          have b441 : Bd z439 (-2147483648) (1000000) := ib_min e440 (ib_full z437) (by decide : Bd 1000000 (1000000) (1000000)) (by decide) (by decide) (by decide) (by decide)
                          have t442 := ib_minx (p := z437.toInt) (q := 1000000) e440 rfl (by decide)
                          refine xputi E hs hQ 94 (by decide) cl92_94 rfl 6 (by decide) q348 rfl rfl (Nat.le_of_ble_eq_true rfl) dX5_advance_174 (fun H locs S443 eS443 hQ => ?_)
                          have hI := invX_up_94 hI eS443 ⟨y92_94_2, y92_94_3, y92_94_4, y92_94_5, z439, y92_94_7, y92_94_8, rfl, (ib_wk b360 (by decide) (by decide)), By92_94_4, (ib_wk b359 (by decide) (by decide))⟩
                          have c444 : S443 94 = .inr (5, [.ref (ad 1), .ref (ad 20), .int y92_94_2, .int y92_94_3, .int y92_94_4, .int y92_94_5, .int z439, .int y92_94_7, .int y92_94_8]) := up_at eS443 rfl
                          refine lv_aload_n hx hb dX5_advance_177 rfl (lv_at hl 0 rfl) ?_
                          refine lv_dup hx hb dX5_advance_178 rfl ?_
                          refine xget E hQ 94 (by decide) c444 rfl 5 (by decide) q347 rfl dX5_advance_179 ?_
                          refine lv_iconst (v := 1) hx hb dX5_advance_182 (by decide) ?_
                          refine lv_iadd hx hb dX5_advance_183 ?_
                          refine lv_topi (fun z445 e446 => ?_)
                          have t447 := ib_add e446 b359 (by decide : Bd 1 (1) (1)) (by decide) (by decide)
                          have b448 : Bd z445 (1) (1200) := ib_addb t447 b359 (by decide : Bd 1 (1) (1))
                          have t447 : z445.toInt = y92_94_5.toInt + 1 := fold_add t447 rfl (by decide)
                          refine xputi E hs hQ 94 (by decide) c444 rfl 5 (by decide) q347 rfl rfl (Nat.le_of_ble_eq_true rfl) dX5_advance_184 (fun H locs S449 eS449 hQ => ?_)
                          have hI := invX_up_94 hI eS449 ⟨y92_94_2, y92_94_3, y92_94_4, z445, z439, y92_94_7, y92_94_8, rfl, (ib_wk b360 (by decide) (by decide)), By92_94_4, (ib_wk b448 (by decide) (by decide))⟩
                          have c450 : S449 94 = .inr (5, [.ref (ad 1), .ref (ad 20), .int y92_94_2, .int y92_94_3, .int y92_94_4, .int z445, .int z439, .int y92_94_7, .int y92_94_8]) := up_at eS449 rfl
                          refine lv_goto (tgt := 92) hx hb dX5_advance_187 (by decide) ?_
                          exact ih92 _ _ _ _ y92_94_2 y92_94_3 y92_94_4 z445 z439 y92_94_7 y92_94_8 (ib_wk b360 (by decide) (by decide)) (ib_wk b429 (by decide) (by decide)) By92_94_4 (ib_wk b448 (by decide) (by decide)) b441 (by omega) hI (up_o (up_o hf92 eS443 (by decide)) eS449 (by decide)) c450 hQ (lv_sub hl [0] rfl)
            obtain ⟨n92, hn92⟩ := fu_n ((-1) * y8_94_4.toInt + 1200)
            exact loop92 n92 _ _ _ _ y8_94_2 r353 y8_94_4 y8_94_4 0 y8_94_7 y8_94_8 (ib_wk b232 (by decide) (by decide)) (ib_wk b353 (by decide) (by decide)) (ib_wk b231 (by decide) (by decide)) (ib_wk b231 (by decide) (by decide)) (ib_wk (by decide : Bd 0 (0) (0)) (by decide) (by decide)) (by have : (0 : Int32).toInt = 0 := (by decide); omega) hI o_refl c355 hQ (lv_sub hl [0] rfl)
        · have h451 := ib_eq k240
          have b452 : Bd r239 (5) (5) := ⟨((rf_eq b239 (by decide : Bd 5 (5) (5)) h451).1).1, (b239).2⟩
          refine lv_aload_n hx hb dX5_advance_35 rfl (lv_at hl 0 rfl) ?_
          refine lv_dup hx hb dX5_advance_36 rfl ?_
          refine xget E hQ 94 (by decide) cl8_94 rfl 4 (by decide) q346 rfl dX5_advance_37 ?_
          refine lv_iconst (v := 1) hx hb dX5_advance_40 (by decide) ?_
          refine lv_iadd hx hb dX5_advance_41 ?_
          refine lv_topi (fun z453 e454 => ?_)
          have t455 := ib_add e454 b231 (by decide : Bd 1 (1) (1)) (by decide) (by decide)
          have b456 : Bd z453 (1) (1200) := ib_addb t455 b231 (by decide : Bd 1 (1) (1))
          have t455 : z453.toInt = y8_94_4.toInt + 1 := fold_add t455 rfl (by decide)
          refine xputi E hs hQ 94 (by decide) cl8_94 rfl 4 (by decide) q346 rfl rfl (Nat.le_of_ble_eq_true rfl) dX5_advance_42 (fun H locs S457 eS457 hQ => ?_)
          have hI := invX_up_94 hI eS457 ⟨y8_94_2, y8_94_3, z453, y8_94_5, y8_94_6, y8_94_7, y8_94_8, rfl, (ib_wk b232 (by decide) (by decide)), (ib_wk b456 (by decide) (by decide)), By8_94_5⟩
          have c458 : S457 94 = .inr (5, [.ref (ad 1), .ref (ad 20), .int y8_94_2, .int y8_94_3, .int z453, .int y8_94_5, .int y8_94_6, .int y8_94_7, .int y8_94_8]) := up_at eS457 rfl
          refine lv_goto (tgt := 8) hx hb dX5_advance_45 (by decide) ?_
          exact ih8 _ _ _ _ y8_94_2 y8_94_3 z453 y8_94_5 y8_94_6 y8_94_7 y8_94_8 (ib_wk b232 (by decide) (by decide)) (ib_wk b456 (by decide) (by decide)) By8_94_5 (by omega) hI (up_o hf8 eS457 (by decide)) c458 hQ (lv_sub hl [0] rfl)
  obtain ⟨n8, hn8⟩ := fu_n ((-1) * v6.toInt + 1200)
  exact loop8 n8 _ _ _ _ v1 v3 v6 v6 v8 v9 v10 b2 b7 b7 (by omega) hI o_refl c13 hQ (lv_sub hl [0] rfl)
set_option maxHeartbeats 4000000 in
set_option maxRecDepth 100000 in
theorem gX5_isWord_94 (l : Launch) (g : GG) (tt : TT) (ad : Nat → Nat) (hD : Dj ad 122) (S : SS) (hI : InvX g ad S) (i : Nat) (hi : i < 17) : Met l yX5_isWord (wG (.code yX5_isWord cX5_isWord 3 (some .boolean))) (Rm 4) (XPreT g tt ad 122 S [.ref (ad 94), .ref (tt.1 i)]) (va_Qi (fun r S' => S = S' ∧ Bd r (0) (1)) (QB g ad 122) (FA ad 122)) 0 0 (FA ad 122) := by
  refine xmetT cX5_isWord "EbbWreck$Reader" (by decide) rfl (Nat.le_of_ble_eq_true rfl) (fun p e s m below meth c E hT hr hlk hml hQ ls hl => ?_)
  have hx := E.1
  have hb := E.2.1
  have hs : Sp ad 122 (FA ad 122) := Sp.fa hD
  have hl : lv_has ls 3 [(0, .ref (ad 94)), (1, .ref (tt.1 i))] := hl
  refine lv_aload_n hx hb dX5_isWord_0 rfl (lv_at hl 0 rfl) ?_
  obtain ⟨v1, v3, v4, v6, v8, v9, v10, c11, b2, b5, b7⟩ := invX_94 hI
  have c11 : S 94 = .inr (5, [.ref (ad 1), .ref (ad 20), .int v1, .int v3, .int v4, .int v6, .int v8, .int v9, .int v10]) := c11
  refine xget E hQ 94 (by decide) c11 rfl 3 (by decide) q345 rfl dX5_isWord_1 ?_
  refine lv_iconst (v := 1) hx hb dX5_isWord_4 (by decide) ?_
  refine lv_icmp_ne (tgt := 24) hx hb dX5_isWord_5 (by decide) (fun k12 => ?_) (fun k12 => ?_)
  · have h13 := ib_ne k12
    refine lv_iconst (v := 0) hx hb dX5_isWord_24 (by decide) ?_
    exact xrz E hr hlk hQ rfl (⟨rfl, (ib_wk (by decide : Bd 0 (0) (0)) (by decide) (by decide))⟩) dX5_isWord_25
  · have h14 := ib_eq k12
    have b15 : Bd v3 (1) (1) := ⟨((rf_eq (ib_full v3) (by decide : Bd 1 (1) (1)) h14).1).1, ((rf_eq (ib_full v3) (by decide : Bd 1 (1) (1)) h14).1).2⟩
    refine lv_aload_n hx hb dX5_isWord_8 rfl (lv_at hl 0 rfl) ?_
    refine xget E hQ 94 (by decide) c11 rfl 5 (by decide) q347 rfl dX5_isWord_9 ?_
    refine lv_aload_n hx hb dX5_isWord_12 rfl (lv_at hl 0 rfl) ?_
    refine xget E hQ 94 (by decide) c11 rfl 4 (by decide) q346 rfl dX5_isWord_13 ?_
    refine lv_isub hx hb dX5_isWord_16 ?_
    refine lv_topi (fun z16 e17 => ?_)
    have t18 := ib_sub e17 b7 b5 (by decide) (by decide)
    have b19 : Bd z16 (-1200) (1200) := ib_subb t18 b7 b5
    refine lv_aload_n hx hb dX5_isWord_17 rfl (lv_at hl 1 rfl) ?_
    refine xcTi E hs hQ hml hl.1 hT i (uLen l g tt ad 122 hD S i hi) mJ0_length_8abf5 q631 hi rfl ⟨(Nat.le_of_ble_eq_true rfl), (Nat.le_of_ble_eq_true rfl)⟩ ⟨(Nat.le_of_ble_eq_true rfl), (Nat.le_of_ble_eq_true rfl)⟩ (Nat.le_of_ble_eq_true rfl) rfl dX5_isWord_18 (fun r20 S20 H locs hp20 hQ => ?_)
    obtain ⟨rfl, t20⟩ := hp20
    have h720 := lnT_all i hi
    have b21 : Bd r20 (1) (7) := ⟨by omega, by omega⟩
    refine lv_icmp_eq (tgt := 26) hx hb dX5_isWord_21 (by decide) (fun k22 => ?_) (fun k22 => ?_)
    · have h23 := ib_eq k22
      have b24 : Bd z16 (1) (7) := ⟨((rf_eq b19 b21 h23).1).1, ((rf_eq b19 b21 h23).1).2⟩
      refine lv_iconst (v := 0) hx hb dX5_isWord_26 (by decide) ?_
      refine lv_istore_n (lv' := [(2, .int 0), (0, .ref (ad 94)), (1, .ref (tt.1 i))]) hx hb dX5_isWord_27 rfl hl (by decide) rfl (fun ls hl => ?_)
      have loop28 : ∀ (n : Nat) (H : Heap) (locs : List Loc) (ls : Array Slot) (x28_2 : Int32), Bd x28_2 (0) (7) → 0 ≤ v6.toInt + (-1) * x28_2.toInt → (-1) * x28_2.toInt + 7 < ((n : Nat) : Int) → Hp g ad 122 S (FA ad 122) s.heap H locs → lv_has ls 3 [(2, .int x28_2), (0, .ref (ad 94)), (1, .ref (tt.1 i))] → W p l e (Rm 4) s m [.ref (ad 94), .ref (tt.1 i)].toArray below meth c H locs 0 0 (MQ below (va_Qi (fun r S' => S = S' ∧ Bd r (0) (1)) (QB g ad 122) (FA ad 122)) [.ref (ad 94), .ref (tt.1 i)].toArray s 0 0 (FA ad 122)) (F0 m 28 ls []) := by
        intro n
        induction n with
        | zero => intro H locs ls x28_2 Bx28_2 C28_0 hn28_ hQ hl; exfalso; have := (Bx28_2).2; omega
        | succ n28_ ih28 =>
          intro H locs ls x28_2 Bx28_2 C28_0 hn28_ hQ hl
          refine lv_iload_n hx hb dX5_isWord_28 rfl (lv_at hl 0 rfl) ?_
          refine lv_aload_n hx hb dX5_isWord_29 rfl (lv_at hl 2 rfl) ?_
          refine xcTi E hs hQ hml hl.1 hT i (uLen l g tt ad 122 hD S i hi) mJ0_length_8abf5 q631 hi rfl ⟨(Nat.le_of_ble_eq_true rfl), (Nat.le_of_ble_eq_true rfl)⟩ ⟨(Nat.le_of_ble_eq_true rfl), (Nat.le_of_ble_eq_true rfl)⟩ (Nat.le_of_ble_eq_true rfl) rfl dX5_isWord_30 (fun r25 S25 H locs hp25 hQ => ?_)
          obtain ⟨rfl, t25⟩ := hp25
          have h725 := lnT_all i hi
          have b26 : Bd r25 (1) (7) := ⟨by omega, by omega⟩
          refine lv_icmp_ge (tgt := 63) hx hb dX5_isWord_33 (by decide) (fun k27 => ?_) (fun k27 => ?_)
          · have h28 := ib_le k27
            have b29 : Bd x28_2 (1) (7) := ⟨((rf_le b26 Bx28_2 h28).2).1, (Bx28_2).2⟩
            refine lv_iconst (v := 1) hx hb dX5_isWord_63 (by decide) ?_
            exact xrz E hr hlk hQ rfl (⟨rfl, (ib_wk (by decide : Bd 1 (1) (1)) (by decide) (by decide))⟩) dX5_isWord_64
          · have h30 := ib_nle k27
            have b31 : Bd x28_2 (0) (6) := ⟨(Bx28_2).1, ((rf_lt Bx28_2 b26 h30).1).2⟩
            refine lv_aload_n hx hb dX5_isWord_36 rfl (lv_at hl 1 rfl) ?_
            refine xget E hQ 94 (by decide) c11 rfl 0 (by decide) q342 rfl dX5_isWord_37 ?_
            refine lv_aload_n hx hb dX5_isWord_40 rfl (lv_at hl 1 rfl) ?_
            refine xget E hQ 94 (by decide) c11 rfl 4 (by decide) q346 rfl dX5_isWord_41 ?_
            refine lv_iload_n hx hb dX5_isWord_44 rfl (lv_at hl 0 rfl) ?_
            refine lv_iadd hx hb dX5_isWord_45 ?_
            refine lv_topi (fun z32 e33 => ?_)
            have t34 := ib_add e33 b5 b31 (by decide) (by decide)
            have b35 : Bd z32 (0) (1206) := ib_addb t34 b5 b31
            obtain ⟨f36, c37, b38⟩ := invX_1 hI
            refine xbald E hQ 1 (by decide) c37 (ib_inx (n := 1200) (by omega) (by omega)) dX5_isWord_46 ?_
            refine lv_topi (fun z39 e40 => ?_)
            have b41 : Bd z39 (-128) (127) := (by rw [e40]; exact b38 _)
            refine lv_aload_n hx hb dX5_isWord_47 rfl (lv_at hl 2 rfl) ?_
            refine lv_iload_n hx hb dX5_isWord_48 rfl (lv_at hl 0 rfl) ?_
            refine xcTi E hs hQ hml hl.1 hT i (uCharAt l g tt ad 122 hD S i hi x28_2 (by omega) (by omega)) mJ0_charAt_5068e q641 hi rfl ⟨(Nat.le_of_ble_eq_true rfl), (Nat.le_of_ble_eq_true rfl)⟩ ⟨(Nat.le_of_ble_eq_true rfl), (Nat.le_of_ble_eq_true rfl)⟩ (Nat.le_of_ble_eq_true rfl) rfl dX5_isWord_49 (fun r42 S42 H locs hp42 hQ => ?_)
            subst hp42
            refine lv_icmp_eq (tgt := 57) hx hb dX5_isWord_52 (by decide) (fun k43 => ?_) (fun k43 => ?_)
            · have h44 := ib_eq k43
              have b45 : Bd r42 (-128) (127) := ⟨((rf_eq b41 (ib_full r42) h44).2).1, ((rf_eq b41 (ib_full r42) h44).2).2⟩
              obtain ⟨z46, e47⟩ : ∃ z : Int32, z = x28_2 + 1 := ⟨_, rfl⟩
              have t48 := ib_add e47 b31 (by decide : Bd 1 (1) (1)) (by decide) (by decide)
              have b49 : Bd z46 (1) (7) := ib_addb t48 b31 (by decide : Bd 1 (1) (1))
              have t48 : z46.toInt = x28_2.toInt + 1 := fold_add t48 rfl (by decide)
              refine lv_iinc (v := z46) (lv' := [(2, .int z46), (0, .ref (ad 94)), (1, .ref (tt.1 i))]) hx hb dX5_isWord_57 hl (k := 0) rfl (by rw [e47]; rfl) (by decide) rfl (fun ls hl => ?_)
              refine lv_goto (tgt := 28) hx hb dX5_isWord_60 (by decide) ?_
              exact ih28 _ _ _ z46 (ib_wk b49 (by decide) (by decide)) (by omega) (by omega) hQ (lv_sub hl [0, 1, 2] rfl)
            · have h50 := ib_ne k43
              refine lv_iconst (v := 0) hx hb dX5_isWord_55 (by decide) ?_
              exact xrz E hr hlk hQ rfl (⟨rfl, (ib_wk (by decide : Bd 0 (0) (0)) (by decide) (by decide))⟩) dX5_isWord_56
      obtain ⟨n28, hn28⟩ := fu_n (7)
      exact loop28 n28 _ _ _ 0 (ib_wk (by decide : Bd 0 (0) (0)) (by decide) (by decide)) (by have : (0 : Int32).toInt = 0 := (by decide); omega) (by have : (0 : Int32).toInt = 0 := (by decide); omega) hQ (lv_sub hl [0, 1, 2] rfl)
    · have h51 := ib_ne k22
      refine lv_iconst (v := 0) hx hb dX5_isWord_24 (by decide) ?_
      exact xrz E hr hlk hQ rfl (⟨rfl, (ib_wk (by decide : Bd 0 (0) (0)) (by decide) (by decide))⟩) dX5_isWord_25
set_option maxHeartbeats 4000000 in
set_option maxRecDepth 100000 in
theorem gX5_expectWord_94 (l : Launch) (g : GG) (tt : TT) (ad : Nat → Nat) (hD : Dj ad 122) (S : SS) (hI : InvX g ad S) (i : Nat) (hi : i < 17) : Met l yX5_expectWord (wG (.code yX5_expectWord cX5_expectWord 2 none)) (Rm 5) (XPreT g tt ad 122 S [.ref (ad 94), .ref (tt.1 i)]) (va_Qv (fun S' => InvX g ad S' ∧ (∀ j, j ∉ ([94] : List Nat) → S' j = S j)) (QB g ad 122) (FA ad 122)) 0 0 (FA ad 122) := by
  refine xmetT cX5_expectWord "EbbWreck$Reader" (by decide) rfl (Nat.le_of_ble_eq_true rfl) (fun p e s m below meth c E hT hr hlk hml hQ ls hl => ?_)
  have hx := E.1
  have hb := E.2.1
  have hs : Sp ad 122 (FA ad 122) := Sp.fa hD
  have hl : lv_has ls 2 [(0, .ref (ad 94)), (1, .ref (tt.1 i))] := hl
  refine lv_aload_n hx hb dX5_expectWord_0 rfl (lv_at hl 0 rfl) ?_
  refine lv_aload_n hx hb dX5_expectWord_1 rfl (lv_at hl 1 rfl) ?_
  obtain ⟨v2, v4, v5, v7, v9, v10, v11, c12, b3, b6, b8⟩ := invX_94 hI
  have c12 : S 94 = .inr (5, [.ref (ad 1), .ref (ad 20), .int v2, .int v4, .int v5, .int v7, .int v9, .int v10, .int v11]) := c12
  refine xcViT E hs hQ hml hl.1 hT 94 (gX5_isWord_94 l g tt ad hD S hI i hi) mX5_isWord q627 (by decide) c12 rfl rfl ⟨(Nat.le_of_ble_eq_true rfl), (Nat.le_of_ble_eq_true rfl)⟩ ⟨(Nat.le_of_ble_eq_true rfl), (Nat.le_of_ble_eq_true rfl)⟩ (Nat.le_of_ble_eq_true rfl) rfl dX5_expectWord_2 (fun r1 S1 H locs hp1 hQ _ => ?_)
  obtain ⟨rfl, b1⟩ := hp1
  refine lv_if_ne (tgt := 13) hx hb dX5_expectWord_5 (by decide) (fun k13 => ?_) (fun k13 => ?_)
  · have h14 := ib_ne k13
    have b15 : Bd r1 (1) (1) := rf_nlo b1 (by decide : Bd 0 (0) (0)) h14
    refine lv_aload_n hx hb dX5_expectWord_13 rfl (lv_at hl 0 rfl) ?_
    refine xcVi E hs hQ hml hl.1 94 (gX5_failed_94 l g ad hD S hI ) mX5_failed q610 (by decide) c12 rfl rfl ⟨(Nat.le_of_ble_eq_true rfl), (Nat.le_of_ble_eq_true rfl)⟩ ⟨(Nat.le_of_ble_eq_true rfl), (Nat.le_of_ble_eq_true rfl)⟩ (Nat.le_of_ble_eq_true rfl) rfl dX5_expectWord_14 (fun r16 S16 H locs hp16 hQ _ => ?_)
    obtain ⟨rfl, b16⟩ := hp16
    refine lv_if_ne (tgt := 24) hx hb dX5_expectWord_17 (by decide) (fun k17 => ?_) (fun k17 => ?_)
    · have h18 := ib_ne k17
      have b19 : Bd r16 (1) (1) := rf_nlo b16 (by decide : Bd 0 (0) (0)) h18
      exact xrv E hr hlk hQ (⟨hI, o_refl⟩) dX5_expectWord_24
    · have h20 := ib_eq k17
      have b21 : Bd r16 (0) (0) := ⟨(b16).1, ((rf_eq b16 (by decide : Bd 0 (0) (0)) h20).1).2⟩
      refine lv_aload_n hx hb dX5_expectWord_20 rfl (lv_at hl 0 rfl) ?_
      refine xcVv E hs hQ hml hl.1 94 (gX5_advance_94 l g ad hD S hI ) mX5_advance q598 (by decide) c12 rfl rfl ⟨(Nat.le_of_ble_eq_true rfl), (Nat.le_of_ble_eq_true rfl)⟩ ⟨(Nat.le_of_ble_eq_true rfl), (Nat.le_of_ble_eq_true rfl)⟩ (Nat.le_of_ble_eq_true rfl) rfl dX5_expectWord_21 (fun S22 H locs hp22 hQ _ => ?_)
      obtain ⟨hI, o22⟩ := hp22
      exact xrv E hr hlk hQ (⟨hI, (o_trans o_refl o22 (by decide))⟩) dX5_expectWord_24
  · have h23 := ib_eq k13
    have b24 : Bd r1 (0) (0) := ⟨(b1).1, ((rf_eq b1 (by decide : Bd 0 (0) (0)) h23).1).2⟩
    refine lv_aload_n hx hb dX5_expectWord_8 rfl (lv_at hl 0 rfl) ?_
    refine lv_iconst (v := 1) hx hb dX5_expectWord_9 (by decide) ?_
    refine xcVv E hs hQ hml hl.1 94 (gX5_fail_94 l g ad hD S hI 1) mX5_fail q679 (by decide) c12 rfl rfl ⟨(Nat.le_of_ble_eq_true rfl), (Nat.le_of_ble_eq_true rfl)⟩ ⟨(Nat.le_of_ble_eq_true rfl), (Nat.le_of_ble_eq_true rfl)⟩ (Nat.le_of_ble_eq_true rfl) rfl dX5_expectWord_10 (fun S25 H locs hp25 hQ _ => ?_)
    obtain ⟨hI, o25⟩ := hp25
    refine lv_aload_n hx hb dX5_expectWord_13 rfl (lv_at hl 0 rfl) ?_
    obtain ⟨v27, v29, v30, v32, v34, v35, v36, c37, b28, b31, b33⟩ := invX_94 hI
    have c37 : S25 94 = .inr (5, [.ref (ad 1), .ref (ad 20), .int v27, .int v29, .int v30, .int v32, .int v34, .int v35, .int v36]) := c37
    refine xcVi E hs hQ hml hl.1 94 (gX5_failed_94 l g ad hD S25 hI ) mX5_failed q610 (by decide) c37 rfl rfl ⟨(Nat.le_of_ble_eq_true rfl), (Nat.le_of_ble_eq_true rfl)⟩ ⟨(Nat.le_of_ble_eq_true rfl), (Nat.le_of_ble_eq_true rfl)⟩ (Nat.le_of_ble_eq_true rfl) rfl dX5_expectWord_14 (fun r26 S26 H locs hp26 hQ _ => ?_)
    obtain ⟨rfl, b26⟩ := hp26
    refine lv_if_ne (tgt := 24) hx hb dX5_expectWord_17 (by decide) (fun k38 => ?_) (fun k38 => ?_)
    · have h39 := ib_ne k38
      have b40 : Bd r26 (1) (1) := rf_nlo b26 (by decide : Bd 0 (0) (0)) h39
      exact xrv E hr hlk hQ (⟨hI, (o_trans o_refl o25 (by decide))⟩) dX5_expectWord_24
    · have h41 := ib_eq k38
      have b42 : Bd r26 (0) (0) := ⟨(b26).1, ((rf_eq b26 (by decide : Bd 0 (0) (0)) h41).1).2⟩
      refine lv_aload_n hx hb dX5_expectWord_20 rfl (lv_at hl 0 rfl) ?_
      refine xcVv E hs hQ hml hl.1 94 (gX5_advance_94 l g ad hD S25 hI ) mX5_advance q598 (by decide) c37 rfl rfl ⟨(Nat.le_of_ble_eq_true rfl), (Nat.le_of_ble_eq_true rfl)⟩ ⟨(Nat.le_of_ble_eq_true rfl), (Nat.le_of_ble_eq_true rfl)⟩ (Nat.le_of_ble_eq_true rfl) rfl dX5_expectWord_21 (fun S43 H locs hp43 hQ _ => ?_)
      obtain ⟨hI, o43⟩ := hp43
      exact xrv E hr hlk hQ (⟨hI, (o_trans (o_trans o_refl o25 (by decide)) o43 (by decide))⟩) dX5_expectWord_24
set_option maxHeartbeats 4000000 in
set_option maxRecDepth 100000 in
theorem gX5_expectSign_94 (l : Launch) (g : GG) (ad : Nat → Nat) (hD : Dj ad 122) (S : SS) (hI : InvX g ad S) : Met l yX5_expectSign (wG (.code yX5_expectSign cX5_expectSign 1 none)) (Rm 2) (XPre g ad 122 S [.ref (ad 94)]) (va_Qv (fun S' => InvX g ad S' ∧ (∀ j, j ∉ ([94] : List Nat) → S' j = S j)) (QB g ad 122) (FA ad 122)) 0 0 (FA ad 122) := by
  refine xmet cX5_expectSign "EbbWreck$Reader" (by decide) rfl (Nat.le_of_ble_eq_true rfl) (fun p e s m below meth c E hr hlk hml hQ ls hl => ?_)
  have hx := E.1
  have hb := E.2.1
  have hs : Sp ad 122 (FA ad 122) := Sp.fa hD
  have hl : lv_has ls 1 [(0, .ref (ad 94))] := hl
  refine lv_aload_n hx hb dX5_expectSign_0 rfl (lv_at hl 0 rfl) ?_
  obtain ⟨v1, v3, v4, v6, v8, v9, v10, c11, b2, b5, b7⟩ := invX_94 hI
  have c11 : S 94 = .inr (5, [.ref (ad 1), .ref (ad 20), .int v1, .int v3, .int v4, .int v6, .int v8, .int v9, .int v10]) := c11
  refine xget E hQ 94 (by decide) c11 rfl 3 (by decide) q345 rfl dX5_expectSign_1 ?_
  refine lv_iconst (v := 3) hx hb dX5_expectSign_4 (by decide) ?_
  refine lv_icmp_eq (tgt := 13) hx hb dX5_expectSign_5 (by decide) (fun k12 => ?_) (fun k12 => ?_)
  · have h13 := ib_eq k12
    have b14 : Bd v3 (3) (3) := ⟨((rf_eq (ib_full v3) (by decide : Bd 3 (3) (3)) h13).1).1, ((rf_eq (ib_full v3) (by decide : Bd 3 (3) (3)) h13).1).2⟩
    refine lv_aload_n hx hb dX5_expectSign_13 rfl (lv_at hl 0 rfl) ?_
    refine xcVi E hs hQ hml hl.1 94 (gX5_failed_94 l g ad hD S hI ) mX5_failed q610 (by decide) c11 rfl rfl ⟨(Nat.le_of_ble_eq_true rfl), (Nat.le_of_ble_eq_true rfl)⟩ ⟨(Nat.le_of_ble_eq_true rfl), (Nat.le_of_ble_eq_true rfl)⟩ (Nat.le_of_ble_eq_true rfl) rfl dX5_expectSign_14 (fun r15 S15 H locs hp15 hQ _ => ?_)
    obtain ⟨rfl, b15⟩ := hp15
    refine lv_if_ne (tgt := 24) hx hb dX5_expectSign_17 (by decide) (fun k16 => ?_) (fun k16 => ?_)
    · have h17 := ib_ne k16
      have b18 : Bd r15 (1) (1) := rf_nlo b15 (by decide : Bd 0 (0) (0)) h17
      exact xrv E hr hlk hQ (⟨hI, o_refl⟩) dX5_expectSign_24
    · have h19 := ib_eq k16
      have b20 : Bd r15 (0) (0) := ⟨(b15).1, ((rf_eq b15 (by decide : Bd 0 (0) (0)) h19).1).2⟩
      refine lv_aload_n hx hb dX5_expectSign_20 rfl (lv_at hl 0 rfl) ?_
      refine xcVv E hs hQ hml hl.1 94 (gX5_advance_94 l g ad hD S hI ) mX5_advance q598 (by decide) c11 rfl rfl ⟨(Nat.le_of_ble_eq_true rfl), (Nat.le_of_ble_eq_true rfl)⟩ ⟨(Nat.le_of_ble_eq_true rfl), (Nat.le_of_ble_eq_true rfl)⟩ (Nat.le_of_ble_eq_true rfl) rfl dX5_expectSign_21 (fun S21 H locs hp21 hQ _ => ?_)
      obtain ⟨hI, o21⟩ := hp21
      exact xrv E hr hlk hQ (⟨hI, (o_trans o_refl o21 (by decide))⟩) dX5_expectSign_24
  · have h22 := ib_ne k12
    refine lv_aload_n hx hb dX5_expectSign_8 rfl (lv_at hl 0 rfl) ?_
    refine lv_iconst (v := 1) hx hb dX5_expectSign_9 (by decide) ?_
    refine xcVv E hs hQ hml hl.1 94 (gX5_fail_94 l g ad hD S hI 1) mX5_fail q679 (by decide) c11 rfl rfl ⟨(Nat.le_of_ble_eq_true rfl), (Nat.le_of_ble_eq_true rfl)⟩ ⟨(Nat.le_of_ble_eq_true rfl), (Nat.le_of_ble_eq_true rfl)⟩ (Nat.le_of_ble_eq_true rfl) rfl dX5_expectSign_10 (fun S23 H locs hp23 hQ _ => ?_)
    obtain ⟨hI, o23⟩ := hp23
    refine lv_aload_n hx hb dX5_expectSign_13 rfl (lv_at hl 0 rfl) ?_
    obtain ⟨v25, v27, v28, v30, v32, v33, v34, c35, b26, b29, b31⟩ := invX_94 hI
    have c35 : S23 94 = .inr (5, [.ref (ad 1), .ref (ad 20), .int v25, .int v27, .int v28, .int v30, .int v32, .int v33, .int v34]) := c35
    refine xcVi E hs hQ hml hl.1 94 (gX5_failed_94 l g ad hD S23 hI ) mX5_failed q610 (by decide) c35 rfl rfl ⟨(Nat.le_of_ble_eq_true rfl), (Nat.le_of_ble_eq_true rfl)⟩ ⟨(Nat.le_of_ble_eq_true rfl), (Nat.le_of_ble_eq_true rfl)⟩ (Nat.le_of_ble_eq_true rfl) rfl dX5_expectSign_14 (fun r24 S24 H locs hp24 hQ _ => ?_)
    obtain ⟨rfl, b24⟩ := hp24
    refine lv_if_ne (tgt := 24) hx hb dX5_expectSign_17 (by decide) (fun k36 => ?_) (fun k36 => ?_)
    · have h37 := ib_ne k36
      have b38 : Bd r24 (1) (1) := rf_nlo b24 (by decide : Bd 0 (0) (0)) h37
      exact xrv E hr hlk hQ (⟨hI, (o_trans o_refl o23 (by decide))⟩) dX5_expectSign_24
    · have h39 := ib_eq k36
      have b40 : Bd r24 (0) (0) := ⟨(b24).1, ((rf_eq b24 (by decide : Bd 0 (0) (0)) h39).1).2⟩
      refine lv_aload_n hx hb dX5_expectSign_20 rfl (lv_at hl 0 rfl) ?_
      refine xcVv E hs hQ hml hl.1 94 (gX5_advance_94 l g ad hD S23 hI ) mX5_advance q598 (by decide) c35 rfl rfl ⟨(Nat.le_of_ble_eq_true rfl), (Nat.le_of_ble_eq_true rfl)⟩ ⟨(Nat.le_of_ble_eq_true rfl), (Nat.le_of_ble_eq_true rfl)⟩ (Nat.le_of_ble_eq_true rfl) rfl dX5_expectSign_21 (fun S41 H locs hp41 hQ _ => ?_)
      obtain ⟨hI, o41⟩ := hp41
      exact xrv E hr hlk hQ (⟨hI, (o_trans (o_trans o_refl o23 (by decide)) o41 (by decide))⟩) dX5_expectSign_24
set_option maxHeartbeats 4000000 in
set_option maxRecDepth 100000 in
theorem gX5_expectNumber_0 (l : Launch) (g : GG) (ad : Nat → Nat) (hD : Dj ad 122) (S : SS) (hI : InvX g ad S) (a1 : Int32) (a2 : Int32) (ba1 : Bd a1 (3) (3)) (ba2 : Bd a2 (12) (12)) : Met l yX5_expectNumber (wG (.code yX5_expectNumber cX5_expectNumber 4 (some .int))) (Rm 2) (XPre g ad 122 S [.ref (ad 94), .int a1, .int a2]) (va_Qi (fun r S' => InvX g ad S' ∧ (∀ j, j ∉ ([94] : List Nat) → S' j = S j) ∧ Bd r (3) (12)) (QB g ad 122) (FA ad 122)) 0 0 (FA ad 122) := by
  refine xmet cX5_expectNumber "EbbWreck$Reader" (by decide) rfl (Nat.le_of_ble_eq_true rfl) (fun p e s m below meth c E hr hlk hml hQ ls hl => ?_)
  have hx := E.1
  have hb := E.2.1
  have hs : Sp ad 122 (FA ad 122) := Sp.fa hD
  have hl : lv_has ls 4 [(0, .ref (ad 94)), (1, .int a1), (2, .int a2)] := hl
  refine lv_aload_n hx hb dX5_expectNumber_0 rfl (lv_at hl 0 rfl) ?_
  obtain ⟨v1, v3, v4, v6, v8, v9, v10, c11, b2, b5, b7⟩ := invX_94 hI
  have c11 : S 94 = .inr (5, [.ref (ad 1), .ref (ad 20), .int v1, .int v3, .int v4, .int v6, .int v8, .int v9, .int v10]) := c11
  refine xget E hQ 94 (by decide) c11 rfl 3 (by decide) q345 rfl dX5_expectNumber_1 ?_
  refine lv_iconst (v := 2) hx hb dX5_expectNumber_4 (by decide) ?_
  refine lv_icmp_eq (tgt := 16) hx hb dX5_expectNumber_5 (by decide) (fun k12 => ?_) (fun k12 => ?_)
  · have h13 := ib_eq k12
    have b14 : Bd v3 (2) (2) := ⟨((rf_eq (ib_full v3) (by decide : Bd 2 (2) (2)) h13).1).1, ((rf_eq (ib_full v3) (by decide : Bd 2 (2) (2)) h13).1).2⟩
    refine lv_aload_n hx hb dX5_expectNumber_16 rfl (lv_at hl 0 rfl) ?_
    refine xget E hQ 94 (by decide) c11 rfl 6 (by decide) q348 rfl dX5_expectNumber_17 ?_
    refine lv_iload_n hx hb dX5_expectNumber_20 rfl (lv_at hl 1 rfl) ?_
    refine lv_icmp_lt (tgt := 32) hx hb dX5_expectNumber_21 (by decide) (fun k15 => ?_) (fun k15 => ?_)
    · have h16 := ib_lt k15
      have b17 : Bd v8 (-2147483648) (2) := ⟨((ib_full v8)).1, ((rf_lt (ib_full v8) ba1 h16).1).2⟩
      refine lv_aload_n hx hb dX5_expectNumber_32 rfl (lv_at hl 0 rfl) ?_
      refine lv_iconst (v := 2) hx hb dX5_expectNumber_33 (by decide) ?_
      refine xcVv E hs hQ hml hl.1 94 (gX5_fail_94 l g ad hD S hI 2) mX5_fail q679 (by decide) c11 rfl rfl ⟨(Nat.le_of_ble_eq_true rfl), (Nat.le_of_ble_eq_true rfl)⟩ ⟨(Nat.le_of_ble_eq_true rfl), (Nat.le_of_ble_eq_true rfl)⟩ (Nat.le_of_ble_eq_true rfl) rfl dX5_expectNumber_34 (fun S18 H locs hp18 hQ _ => ?_)
      obtain ⟨hI, o18⟩ := hp18
      refine lv_aload_n hx hb dX5_expectNumber_37 rfl (lv_at hl 0 rfl) ?_
      obtain ⟨v20, v22, v23, v25, v27, v28, v29, c30, b21, b24, b26⟩ := invX_94 hI
      have c30 : S18 94 = .inr (5, [.ref (ad 1), .ref (ad 20), .int v20, .int v22, .int v23, .int v25, .int v27, .int v28, .int v29]) := c30
      refine xcVi E hs hQ hml hl.1 94 (gX5_failed_94 l g ad hD S18 hI ) mX5_failed q610 (by decide) c30 rfl rfl ⟨(Nat.le_of_ble_eq_true rfl), (Nat.le_of_ble_eq_true rfl)⟩ ⟨(Nat.le_of_ble_eq_true rfl), (Nat.le_of_ble_eq_true rfl)⟩ (Nat.le_of_ble_eq_true rfl) rfl dX5_expectNumber_38 (fun r19 S19 H locs hp19 hQ _ => ?_)
      obtain ⟨rfl, b19⟩ := hp19
      refine lv_if_eq (tgt := 46) hx hb dX5_expectNumber_41 (by decide) (fun k31 => ?_) (fun k31 => ?_)
      · have h32 := ib_eq k31
        have b33 : Bd r19 (0) (0) := ⟨(b19).1, ((rf_eq b19 (by decide : Bd 0 (0) (0)) h32).1).2⟩
        refine lv_aload_n hx hb dX5_expectNumber_46 rfl (lv_at hl 0 rfl) ?_
        refine xget E hQ 94 (by decide) c30 rfl 6 (by decide) q348 rfl dX5_expectNumber_47 ?_
        refine lv_istore_n (lv' := [(3, .int v27), (0, .ref (ad 94)), (1, .int a1), (2, .int a2)]) hx hb dX5_expectNumber_50 rfl hl (by decide) rfl (fun ls hl => ?_)
        refine lv_aload_n hx hb dX5_expectNumber_51 rfl (lv_at hl 1 rfl) ?_
        refine xcVv E hs hQ hml hl.1 94 (gX5_advance_94 l g ad hD S18 hI ) mX5_advance q598 (by decide) c30 rfl rfl ⟨(Nat.le_of_ble_eq_true rfl), (Nat.le_of_ble_eq_true rfl)⟩ ⟨(Nat.le_of_ble_eq_true rfl), (Nat.le_of_ble_eq_true rfl)⟩ (Nat.le_of_ble_eq_true rfl) rfl dX5_expectNumber_52 (fun S34 H locs hp34 hQ _ => ?_)
        obtain ⟨hI, o34⟩ := hp34
        refine lv_iload_n hx hb dX5_expectNumber_55 rfl (lv_at hl 0 rfl) ?_
        exact xri E hr hlk hQ (⟨hI, (o_trans (o_trans o_refl o18 (by decide)) o34 (by decide))⟩) dX5_expectNumber_56
      · have h35 := ib_ne k31
        have b36 : Bd r19 (1) (1) := rf_nlo b19 (by decide : Bd 0 (0) (0)) h35
        refine lv_iload_n hx hb dX5_expectNumber_44 rfl (lv_at hl 1 rfl) ?_
        exact xri E hr hlk hQ (⟨hI, (o_trans o_refl o18 (by decide)), (ib_wk ba1 (by decide) (by decide))⟩) dX5_expectNumber_45
    · have h37 := ib_nlt k15
      have b38 : Bd v8 (3) (2147483647) := ⟨((rf_le ba1 (ib_full v8) h37).2).1, ((ib_full v8)).2⟩
      refine lv_aload_n hx hb dX5_expectNumber_24 rfl (lv_at hl 0 rfl) ?_
      refine xget E hQ 94 (by decide) c11 rfl 6 (by decide) q348 rfl dX5_expectNumber_25 ?_
      refine lv_iload_n hx hb dX5_expectNumber_28 rfl (lv_at hl 2 rfl) ?_
      refine lv_icmp_le (tgt := 37) hx hb dX5_expectNumber_29 (by decide) (fun k39 => ?_) (fun k39 => ?_)
      · have h40 := ib_le k39
        have b41 : Bd v8 (3) (12) := ⟨(b38).1, ((rf_le b38 ba2 h40).1).2⟩
        refine lv_aload_n hx hb dX5_expectNumber_37 rfl (lv_at hl 0 rfl) ?_
        refine xcVi E hs hQ hml hl.1 94 (gX5_failed_94 l g ad hD S hI ) mX5_failed q610 (by decide) c11 rfl rfl ⟨(Nat.le_of_ble_eq_true rfl), (Nat.le_of_ble_eq_true rfl)⟩ ⟨(Nat.le_of_ble_eq_true rfl), (Nat.le_of_ble_eq_true rfl)⟩ (Nat.le_of_ble_eq_true rfl) rfl dX5_expectNumber_38 (fun r42 S42 H locs hp42 hQ _ => ?_)
        obtain ⟨rfl, b42⟩ := hp42
        refine lv_if_eq (tgt := 46) hx hb dX5_expectNumber_41 (by decide) (fun k43 => ?_) (fun k43 => ?_)
        · have h44 := ib_eq k43
          have b45 : Bd r42 (0) (0) := ⟨(b42).1, ((rf_eq b42 (by decide : Bd 0 (0) (0)) h44).1).2⟩
          refine lv_aload_n hx hb dX5_expectNumber_46 rfl (lv_at hl 0 rfl) ?_
          refine xget E hQ 94 (by decide) c11 rfl 6 (by decide) q348 rfl dX5_expectNumber_47 ?_
          refine lv_istore_n (lv' := [(3, .int v8), (0, .ref (ad 94)), (1, .int a1), (2, .int a2)]) hx hb dX5_expectNumber_50 rfl hl (by decide) rfl (fun ls hl => ?_)
          refine lv_aload_n hx hb dX5_expectNumber_51 rfl (lv_at hl 1 rfl) ?_
          refine xcVv E hs hQ hml hl.1 94 (gX5_advance_94 l g ad hD S hI ) mX5_advance q598 (by decide) c11 rfl rfl ⟨(Nat.le_of_ble_eq_true rfl), (Nat.le_of_ble_eq_true rfl)⟩ ⟨(Nat.le_of_ble_eq_true rfl), (Nat.le_of_ble_eq_true rfl)⟩ (Nat.le_of_ble_eq_true rfl) rfl dX5_expectNumber_52 (fun S46 H locs hp46 hQ _ => ?_)
          obtain ⟨hI, o46⟩ := hp46
          refine lv_iload_n hx hb dX5_expectNumber_55 rfl (lv_at hl 0 rfl) ?_
          exact xri E hr hlk hQ (⟨hI, (o_trans o_refl o46 (by decide)), b41⟩) dX5_expectNumber_56
        · have h47 := ib_ne k43
          have b48 : Bd r42 (1) (1) := rf_nlo b42 (by decide : Bd 0 (0) (0)) h47
          refine lv_iload_n hx hb dX5_expectNumber_44 rfl (lv_at hl 1 rfl) ?_
          exact xri E hr hlk hQ (⟨hI, o_refl, (ib_wk ba1 (by decide) (by decide))⟩) dX5_expectNumber_45
      · have h49 := ib_nle k39
        have b50 : Bd v8 (13) (2147483647) := ⟨((rf_lt ba2 b38 h49).2).1, (b38).2⟩
        refine lv_aload_n hx hb dX5_expectNumber_32 rfl (lv_at hl 0 rfl) ?_
        refine lv_iconst (v := 2) hx hb dX5_expectNumber_33 (by decide) ?_
        refine xcVv E hs hQ hml hl.1 94 (gX5_fail_94 l g ad hD S hI 2) mX5_fail q679 (by decide) c11 rfl rfl ⟨(Nat.le_of_ble_eq_true rfl), (Nat.le_of_ble_eq_true rfl)⟩ ⟨(Nat.le_of_ble_eq_true rfl), (Nat.le_of_ble_eq_true rfl)⟩ (Nat.le_of_ble_eq_true rfl) rfl dX5_expectNumber_34 (fun S51 H locs hp51 hQ _ => ?_)
        obtain ⟨hI, o51⟩ := hp51
        refine lv_aload_n hx hb dX5_expectNumber_37 rfl (lv_at hl 0 rfl) ?_
        obtain ⟨v53, v55, v56, v58, v60, v61, v62, c63, b54, b57, b59⟩ := invX_94 hI
        have c63 : S51 94 = .inr (5, [.ref (ad 1), .ref (ad 20), .int v53, .int v55, .int v56, .int v58, .int v60, .int v61, .int v62]) := c63
        refine xcVi E hs hQ hml hl.1 94 (gX5_failed_94 l g ad hD S51 hI ) mX5_failed q610 (by decide) c63 rfl rfl ⟨(Nat.le_of_ble_eq_true rfl), (Nat.le_of_ble_eq_true rfl)⟩ ⟨(Nat.le_of_ble_eq_true rfl), (Nat.le_of_ble_eq_true rfl)⟩ (Nat.le_of_ble_eq_true rfl) rfl dX5_expectNumber_38 (fun r52 S52 H locs hp52 hQ _ => ?_)
        obtain ⟨rfl, b52⟩ := hp52
        refine lv_if_eq (tgt := 46) hx hb dX5_expectNumber_41 (by decide) (fun k64 => ?_) (fun k64 => ?_)
        · have h65 := ib_eq k64
          have b66 : Bd r52 (0) (0) := ⟨(b52).1, ((rf_eq b52 (by decide : Bd 0 (0) (0)) h65).1).2⟩
          refine lv_aload_n hx hb dX5_expectNumber_46 rfl (lv_at hl 0 rfl) ?_
          refine xget E hQ 94 (by decide) c63 rfl 6 (by decide) q348 rfl dX5_expectNumber_47 ?_
          refine lv_istore_n (lv' := [(3, .int v60), (0, .ref (ad 94)), (1, .int a1), (2, .int a2)]) hx hb dX5_expectNumber_50 rfl hl (by decide) rfl (fun ls hl => ?_)
          refine lv_aload_n hx hb dX5_expectNumber_51 rfl (lv_at hl 1 rfl) ?_
          refine xcVv E hs hQ hml hl.1 94 (gX5_advance_94 l g ad hD S51 hI ) mX5_advance q598 (by decide) c63 rfl rfl ⟨(Nat.le_of_ble_eq_true rfl), (Nat.le_of_ble_eq_true rfl)⟩ ⟨(Nat.le_of_ble_eq_true rfl), (Nat.le_of_ble_eq_true rfl)⟩ (Nat.le_of_ble_eq_true rfl) rfl dX5_expectNumber_52 (fun S67 H locs hp67 hQ _ => ?_)
          obtain ⟨hI, o67⟩ := hp67
          refine lv_iload_n hx hb dX5_expectNumber_55 rfl (lv_at hl 0 rfl) ?_
          exact xri E hr hlk hQ (⟨hI, (o_trans (o_trans o_refl o51 (by decide)) o67 (by decide))⟩) dX5_expectNumber_56
        · have h68 := ib_ne k64
          have b69 : Bd r52 (1) (1) := rf_nlo b52 (by decide : Bd 0 (0) (0)) h68
          refine lv_iload_n hx hb dX5_expectNumber_44 rfl (lv_at hl 1 rfl) ?_
          exact xri E hr hlk hQ (⟨hI, (o_trans o_refl o51 (by decide)), (ib_wk ba1 (by decide) (by decide))⟩) dX5_expectNumber_45
  · have h70 := ib_ne k12
    refine lv_aload_n hx hb dX5_expectNumber_8 rfl (lv_at hl 0 rfl) ?_
    refine lv_iconst (v := 1) hx hb dX5_expectNumber_9 (by decide) ?_
    refine xcVv E hs hQ hml hl.1 94 (gX5_fail_94 l g ad hD S hI 1) mX5_fail q679 (by decide) c11 rfl rfl ⟨(Nat.le_of_ble_eq_true rfl), (Nat.le_of_ble_eq_true rfl)⟩ ⟨(Nat.le_of_ble_eq_true rfl), (Nat.le_of_ble_eq_true rfl)⟩ (Nat.le_of_ble_eq_true rfl) rfl dX5_expectNumber_10 (fun S71 H locs hp71 hQ _ => ?_)
    obtain ⟨hI, o71⟩ := hp71
    refine lv_goto (tgt := 37) hx hb dX5_expectNumber_13 (by decide) ?_
    refine lv_aload_n hx hb dX5_expectNumber_37 rfl (lv_at hl 0 rfl) ?_
    obtain ⟨v73, v75, v76, v78, v80, v81, v82, c83, b74, b77, b79⟩ := invX_94 hI
    have c83 : S71 94 = .inr (5, [.ref (ad 1), .ref (ad 20), .int v73, .int v75, .int v76, .int v78, .int v80, .int v81, .int v82]) := c83
    refine xcVi E hs hQ hml hl.1 94 (gX5_failed_94 l g ad hD S71 hI ) mX5_failed q610 (by decide) c83 rfl rfl ⟨(Nat.le_of_ble_eq_true rfl), (Nat.le_of_ble_eq_true rfl)⟩ ⟨(Nat.le_of_ble_eq_true rfl), (Nat.le_of_ble_eq_true rfl)⟩ (Nat.le_of_ble_eq_true rfl) rfl dX5_expectNumber_38 (fun r72 S72 H locs hp72 hQ _ => ?_)
    obtain ⟨rfl, b72⟩ := hp72
    refine lv_if_eq (tgt := 46) hx hb dX5_expectNumber_41 (by decide) (fun k84 => ?_) (fun k84 => ?_)
    · have h85 := ib_eq k84
      have b86 : Bd r72 (0) (0) := ⟨(b72).1, ((rf_eq b72 (by decide : Bd 0 (0) (0)) h85).1).2⟩
      refine lv_aload_n hx hb dX5_expectNumber_46 rfl (lv_at hl 0 rfl) ?_
      refine xget E hQ 94 (by decide) c83 rfl 6 (by decide) q348 rfl dX5_expectNumber_47 ?_
      refine lv_istore_n (lv' := [(3, .int v80), (0, .ref (ad 94)), (1, .int a1), (2, .int a2)]) hx hb dX5_expectNumber_50 rfl hl (by decide) rfl (fun ls hl => ?_)
      refine lv_aload_n hx hb dX5_expectNumber_51 rfl (lv_at hl 1 rfl) ?_
      refine xcVv E hs hQ hml hl.1 94 (gX5_advance_94 l g ad hD S71 hI ) mX5_advance q598 (by decide) c83 rfl rfl ⟨(Nat.le_of_ble_eq_true rfl), (Nat.le_of_ble_eq_true rfl)⟩ ⟨(Nat.le_of_ble_eq_true rfl), (Nat.le_of_ble_eq_true rfl)⟩ (Nat.le_of_ble_eq_true rfl) rfl dX5_expectNumber_52 (fun S87 H locs hp87 hQ _ => ?_)
      obtain ⟨hI, o87⟩ := hp87
      refine lv_iload_n hx hb dX5_expectNumber_55 rfl (lv_at hl 0 rfl) ?_
      exact xri E hr hlk hQ (⟨hI, (o_trans (o_trans o_refl o71 (by decide)) o87 (by decide))⟩) dX5_expectNumber_56
    · have h88 := ib_ne k84
      have b89 : Bd r72 (1) (1) := rf_nlo b72 (by decide : Bd 0 (0) (0)) h88
      refine lv_iload_n hx hb dX5_expectNumber_44 rfl (lv_at hl 1 rfl) ?_
      exact xri E hr hlk hQ (⟨hI, (o_trans o_refl o71 (by decide)), (ib_wk ba1 (by decide) (by decide))⟩) dX5_expectNumber_45
set_option maxHeartbeats 4000000 in
set_option maxRecDepth 100000 in
theorem gX5_expectNumber_1 (l : Launch) (g : GG) (ad : Nat → Nat) (hD : Dj ad 122) (S : SS) (hI : InvX g ad S) (a1 : Int32) (a2 : Int32) (ba1 : Bd a1 (1) (1)) (ba2 : Bd a2 (12) (12)) : Met l yX5_expectNumber (wG (.code yX5_expectNumber cX5_expectNumber 4 (some .int))) (Rm 2) (XPre g ad 122 S [.ref (ad 94), .int a1, .int a2]) (va_Qi (fun r S' => InvX g ad S' ∧ (∀ j, j ∉ ([94] : List Nat) → S' j = S j) ∧ Bd r (1) (12)) (QB g ad 122) (FA ad 122)) 0 0 (FA ad 122) := by
  refine xmet cX5_expectNumber "EbbWreck$Reader" (by decide) rfl (Nat.le_of_ble_eq_true rfl) (fun p e s m below meth c E hr hlk hml hQ ls hl => ?_)
  have hx := E.1
  have hb := E.2.1
  have hs : Sp ad 122 (FA ad 122) := Sp.fa hD
  have hl : lv_has ls 4 [(0, .ref (ad 94)), (1, .int a1), (2, .int a2)] := hl
  refine lv_aload_n hx hb dX5_expectNumber_0 rfl (lv_at hl 0 rfl) ?_
  obtain ⟨v1, v3, v4, v6, v8, v9, v10, c11, b2, b5, b7⟩ := invX_94 hI
  have c11 : S 94 = .inr (5, [.ref (ad 1), .ref (ad 20), .int v1, .int v3, .int v4, .int v6, .int v8, .int v9, .int v10]) := c11
  refine xget E hQ 94 (by decide) c11 rfl 3 (by decide) q345 rfl dX5_expectNumber_1 ?_
  refine lv_iconst (v := 2) hx hb dX5_expectNumber_4 (by decide) ?_
  refine lv_icmp_eq (tgt := 16) hx hb dX5_expectNumber_5 (by decide) (fun k12 => ?_) (fun k12 => ?_)
  · have h13 := ib_eq k12
    have b14 : Bd v3 (2) (2) := ⟨((rf_eq (ib_full v3) (by decide : Bd 2 (2) (2)) h13).1).1, ((rf_eq (ib_full v3) (by decide : Bd 2 (2) (2)) h13).1).2⟩
    refine lv_aload_n hx hb dX5_expectNumber_16 rfl (lv_at hl 0 rfl) ?_
    refine xget E hQ 94 (by decide) c11 rfl 6 (by decide) q348 rfl dX5_expectNumber_17 ?_
    refine lv_iload_n hx hb dX5_expectNumber_20 rfl (lv_at hl 1 rfl) ?_
    refine lv_icmp_lt (tgt := 32) hx hb dX5_expectNumber_21 (by decide) (fun k15 => ?_) (fun k15 => ?_)
    · have h16 := ib_lt k15
      have b17 : Bd v8 (-2147483648) (0) := ⟨((ib_full v8)).1, ((rf_lt (ib_full v8) ba1 h16).1).2⟩
      refine lv_aload_n hx hb dX5_expectNumber_32 rfl (lv_at hl 0 rfl) ?_
      refine lv_iconst (v := 2) hx hb dX5_expectNumber_33 (by decide) ?_
      refine xcVv E hs hQ hml hl.1 94 (gX5_fail_94 l g ad hD S hI 2) mX5_fail q679 (by decide) c11 rfl rfl ⟨(Nat.le_of_ble_eq_true rfl), (Nat.le_of_ble_eq_true rfl)⟩ ⟨(Nat.le_of_ble_eq_true rfl), (Nat.le_of_ble_eq_true rfl)⟩ (Nat.le_of_ble_eq_true rfl) rfl dX5_expectNumber_34 (fun S18 H locs hp18 hQ _ => ?_)
      obtain ⟨hI, o18⟩ := hp18
      refine lv_aload_n hx hb dX5_expectNumber_37 rfl (lv_at hl 0 rfl) ?_
      obtain ⟨v20, v22, v23, v25, v27, v28, v29, c30, b21, b24, b26⟩ := invX_94 hI
      have c30 : S18 94 = .inr (5, [.ref (ad 1), .ref (ad 20), .int v20, .int v22, .int v23, .int v25, .int v27, .int v28, .int v29]) := c30
      refine xcVi E hs hQ hml hl.1 94 (gX5_failed_94 l g ad hD S18 hI ) mX5_failed q610 (by decide) c30 rfl rfl ⟨(Nat.le_of_ble_eq_true rfl), (Nat.le_of_ble_eq_true rfl)⟩ ⟨(Nat.le_of_ble_eq_true rfl), (Nat.le_of_ble_eq_true rfl)⟩ (Nat.le_of_ble_eq_true rfl) rfl dX5_expectNumber_38 (fun r19 S19 H locs hp19 hQ _ => ?_)
      obtain ⟨rfl, b19⟩ := hp19
      refine lv_if_eq (tgt := 46) hx hb dX5_expectNumber_41 (by decide) (fun k31 => ?_) (fun k31 => ?_)
      · have h32 := ib_eq k31
        have b33 : Bd r19 (0) (0) := ⟨(b19).1, ((rf_eq b19 (by decide : Bd 0 (0) (0)) h32).1).2⟩
        refine lv_aload_n hx hb dX5_expectNumber_46 rfl (lv_at hl 0 rfl) ?_
        refine xget E hQ 94 (by decide) c30 rfl 6 (by decide) q348 rfl dX5_expectNumber_47 ?_
        refine lv_istore_n (lv' := [(3, .int v27), (0, .ref (ad 94)), (1, .int a1), (2, .int a2)]) hx hb dX5_expectNumber_50 rfl hl (by decide) rfl (fun ls hl => ?_)
        refine lv_aload_n hx hb dX5_expectNumber_51 rfl (lv_at hl 1 rfl) ?_
        refine xcVv E hs hQ hml hl.1 94 (gX5_advance_94 l g ad hD S18 hI ) mX5_advance q598 (by decide) c30 rfl rfl ⟨(Nat.le_of_ble_eq_true rfl), (Nat.le_of_ble_eq_true rfl)⟩ ⟨(Nat.le_of_ble_eq_true rfl), (Nat.le_of_ble_eq_true rfl)⟩ (Nat.le_of_ble_eq_true rfl) rfl dX5_expectNumber_52 (fun S34 H locs hp34 hQ _ => ?_)
        obtain ⟨hI, o34⟩ := hp34
        refine lv_iload_n hx hb dX5_expectNumber_55 rfl (lv_at hl 0 rfl) ?_
        exact xri E hr hlk hQ (⟨hI, (o_trans (o_trans o_refl o18 (by decide)) o34 (by decide))⟩) dX5_expectNumber_56
      · have h35 := ib_ne k31
        have b36 : Bd r19 (1) (1) := rf_nlo b19 (by decide : Bd 0 (0) (0)) h35
        refine lv_iload_n hx hb dX5_expectNumber_44 rfl (lv_at hl 1 rfl) ?_
        exact xri E hr hlk hQ (⟨hI, (o_trans o_refl o18 (by decide)), (ib_wk ba1 (by decide) (by decide))⟩) dX5_expectNumber_45
    · have h37 := ib_nlt k15
      have b38 : Bd v8 (1) (2147483647) := ⟨((rf_le ba1 (ib_full v8) h37).2).1, ((ib_full v8)).2⟩
      refine lv_aload_n hx hb dX5_expectNumber_24 rfl (lv_at hl 0 rfl) ?_
      refine xget E hQ 94 (by decide) c11 rfl 6 (by decide) q348 rfl dX5_expectNumber_25 ?_
      refine lv_iload_n hx hb dX5_expectNumber_28 rfl (lv_at hl 2 rfl) ?_
      refine lv_icmp_le (tgt := 37) hx hb dX5_expectNumber_29 (by decide) (fun k39 => ?_) (fun k39 => ?_)
      · have h40 := ib_le k39
        have b41 : Bd v8 (1) (12) := ⟨(b38).1, ((rf_le b38 ba2 h40).1).2⟩
        refine lv_aload_n hx hb dX5_expectNumber_37 rfl (lv_at hl 0 rfl) ?_
        refine xcVi E hs hQ hml hl.1 94 (gX5_failed_94 l g ad hD S hI ) mX5_failed q610 (by decide) c11 rfl rfl ⟨(Nat.le_of_ble_eq_true rfl), (Nat.le_of_ble_eq_true rfl)⟩ ⟨(Nat.le_of_ble_eq_true rfl), (Nat.le_of_ble_eq_true rfl)⟩ (Nat.le_of_ble_eq_true rfl) rfl dX5_expectNumber_38 (fun r42 S42 H locs hp42 hQ _ => ?_)
        obtain ⟨rfl, b42⟩ := hp42
        refine lv_if_eq (tgt := 46) hx hb dX5_expectNumber_41 (by decide) (fun k43 => ?_) (fun k43 => ?_)
        · have h44 := ib_eq k43
          have b45 : Bd r42 (0) (0) := ⟨(b42).1, ((rf_eq b42 (by decide : Bd 0 (0) (0)) h44).1).2⟩
          refine lv_aload_n hx hb dX5_expectNumber_46 rfl (lv_at hl 0 rfl) ?_
          refine xget E hQ 94 (by decide) c11 rfl 6 (by decide) q348 rfl dX5_expectNumber_47 ?_
          refine lv_istore_n (lv' := [(3, .int v8), (0, .ref (ad 94)), (1, .int a1), (2, .int a2)]) hx hb dX5_expectNumber_50 rfl hl (by decide) rfl (fun ls hl => ?_)
          refine lv_aload_n hx hb dX5_expectNumber_51 rfl (lv_at hl 1 rfl) ?_
          refine xcVv E hs hQ hml hl.1 94 (gX5_advance_94 l g ad hD S hI ) mX5_advance q598 (by decide) c11 rfl rfl ⟨(Nat.le_of_ble_eq_true rfl), (Nat.le_of_ble_eq_true rfl)⟩ ⟨(Nat.le_of_ble_eq_true rfl), (Nat.le_of_ble_eq_true rfl)⟩ (Nat.le_of_ble_eq_true rfl) rfl dX5_expectNumber_52 (fun S46 H locs hp46 hQ _ => ?_)
          obtain ⟨hI, o46⟩ := hp46
          refine lv_iload_n hx hb dX5_expectNumber_55 rfl (lv_at hl 0 rfl) ?_
          exact xri E hr hlk hQ (⟨hI, (o_trans o_refl o46 (by decide)), b41⟩) dX5_expectNumber_56
        · have h47 := ib_ne k43
          have b48 : Bd r42 (1) (1) := rf_nlo b42 (by decide : Bd 0 (0) (0)) h47
          refine lv_iload_n hx hb dX5_expectNumber_44 rfl (lv_at hl 1 rfl) ?_
          exact xri E hr hlk hQ (⟨hI, o_refl, (ib_wk ba1 (by decide) (by decide))⟩) dX5_expectNumber_45
      · have h49 := ib_nle k39
        have b50 : Bd v8 (13) (2147483647) := ⟨((rf_lt ba2 b38 h49).2).1, (b38).2⟩
        refine lv_aload_n hx hb dX5_expectNumber_32 rfl (lv_at hl 0 rfl) ?_
        refine lv_iconst (v := 2) hx hb dX5_expectNumber_33 (by decide) ?_
        refine xcVv E hs hQ hml hl.1 94 (gX5_fail_94 l g ad hD S hI 2) mX5_fail q679 (by decide) c11 rfl rfl ⟨(Nat.le_of_ble_eq_true rfl), (Nat.le_of_ble_eq_true rfl)⟩ ⟨(Nat.le_of_ble_eq_true rfl), (Nat.le_of_ble_eq_true rfl)⟩ (Nat.le_of_ble_eq_true rfl) rfl dX5_expectNumber_34 (fun S51 H locs hp51 hQ _ => ?_)
        obtain ⟨hI, o51⟩ := hp51
        refine lv_aload_n hx hb dX5_expectNumber_37 rfl (lv_at hl 0 rfl) ?_
        obtain ⟨v53, v55, v56, v58, v60, v61, v62, c63, b54, b57, b59⟩ := invX_94 hI
        have c63 : S51 94 = .inr (5, [.ref (ad 1), .ref (ad 20), .int v53, .int v55, .int v56, .int v58, .int v60, .int v61, .int v62]) := c63
        refine xcVi E hs hQ hml hl.1 94 (gX5_failed_94 l g ad hD S51 hI ) mX5_failed q610 (by decide) c63 rfl rfl ⟨(Nat.le_of_ble_eq_true rfl), (Nat.le_of_ble_eq_true rfl)⟩ ⟨(Nat.le_of_ble_eq_true rfl), (Nat.le_of_ble_eq_true rfl)⟩ (Nat.le_of_ble_eq_true rfl) rfl dX5_expectNumber_38 (fun r52 S52 H locs hp52 hQ _ => ?_)
        obtain ⟨rfl, b52⟩ := hp52
        refine lv_if_eq (tgt := 46) hx hb dX5_expectNumber_41 (by decide) (fun k64 => ?_) (fun k64 => ?_)
        · have h65 := ib_eq k64
          have b66 : Bd r52 (0) (0) := ⟨(b52).1, ((rf_eq b52 (by decide : Bd 0 (0) (0)) h65).1).2⟩
          refine lv_aload_n hx hb dX5_expectNumber_46 rfl (lv_at hl 0 rfl) ?_
          refine xget E hQ 94 (by decide) c63 rfl 6 (by decide) q348 rfl dX5_expectNumber_47 ?_
          refine lv_istore_n (lv' := [(3, .int v60), (0, .ref (ad 94)), (1, .int a1), (2, .int a2)]) hx hb dX5_expectNumber_50 rfl hl (by decide) rfl (fun ls hl => ?_)
          refine lv_aload_n hx hb dX5_expectNumber_51 rfl (lv_at hl 1 rfl) ?_
          refine xcVv E hs hQ hml hl.1 94 (gX5_advance_94 l g ad hD S51 hI ) mX5_advance q598 (by decide) c63 rfl rfl ⟨(Nat.le_of_ble_eq_true rfl), (Nat.le_of_ble_eq_true rfl)⟩ ⟨(Nat.le_of_ble_eq_true rfl), (Nat.le_of_ble_eq_true rfl)⟩ (Nat.le_of_ble_eq_true rfl) rfl dX5_expectNumber_52 (fun S67 H locs hp67 hQ _ => ?_)
          obtain ⟨hI, o67⟩ := hp67
          refine lv_iload_n hx hb dX5_expectNumber_55 rfl (lv_at hl 0 rfl) ?_
          exact xri E hr hlk hQ (⟨hI, (o_trans (o_trans o_refl o51 (by decide)) o67 (by decide))⟩) dX5_expectNumber_56
        · have h68 := ib_ne k64
          have b69 : Bd r52 (1) (1) := rf_nlo b52 (by decide : Bd 0 (0) (0)) h68
          refine lv_iload_n hx hb dX5_expectNumber_44 rfl (lv_at hl 1 rfl) ?_
          exact xri E hr hlk hQ (⟨hI, (o_trans o_refl o51 (by decide)), (ib_wk ba1 (by decide) (by decide))⟩) dX5_expectNumber_45
  · have h70 := ib_ne k12
    refine lv_aload_n hx hb dX5_expectNumber_8 rfl (lv_at hl 0 rfl) ?_
    refine lv_iconst (v := 1) hx hb dX5_expectNumber_9 (by decide) ?_
    refine xcVv E hs hQ hml hl.1 94 (gX5_fail_94 l g ad hD S hI 1) mX5_fail q679 (by decide) c11 rfl rfl ⟨(Nat.le_of_ble_eq_true rfl), (Nat.le_of_ble_eq_true rfl)⟩ ⟨(Nat.le_of_ble_eq_true rfl), (Nat.le_of_ble_eq_true rfl)⟩ (Nat.le_of_ble_eq_true rfl) rfl dX5_expectNumber_10 (fun S71 H locs hp71 hQ _ => ?_)
    obtain ⟨hI, o71⟩ := hp71
    refine lv_goto (tgt := 37) hx hb dX5_expectNumber_13 (by decide) ?_
    refine lv_aload_n hx hb dX5_expectNumber_37 rfl (lv_at hl 0 rfl) ?_
    obtain ⟨v73, v75, v76, v78, v80, v81, v82, c83, b74, b77, b79⟩ := invX_94 hI
    have c83 : S71 94 = .inr (5, [.ref (ad 1), .ref (ad 20), .int v73, .int v75, .int v76, .int v78, .int v80, .int v81, .int v82]) := c83
    refine xcVi E hs hQ hml hl.1 94 (gX5_failed_94 l g ad hD S71 hI ) mX5_failed q610 (by decide) c83 rfl rfl ⟨(Nat.le_of_ble_eq_true rfl), (Nat.le_of_ble_eq_true rfl)⟩ ⟨(Nat.le_of_ble_eq_true rfl), (Nat.le_of_ble_eq_true rfl)⟩ (Nat.le_of_ble_eq_true rfl) rfl dX5_expectNumber_38 (fun r72 S72 H locs hp72 hQ _ => ?_)
    obtain ⟨rfl, b72⟩ := hp72
    refine lv_if_eq (tgt := 46) hx hb dX5_expectNumber_41 (by decide) (fun k84 => ?_) (fun k84 => ?_)
    · have h85 := ib_eq k84
      have b86 : Bd r72 (0) (0) := ⟨(b72).1, ((rf_eq b72 (by decide : Bd 0 (0) (0)) h85).1).2⟩
      refine lv_aload_n hx hb dX5_expectNumber_46 rfl (lv_at hl 0 rfl) ?_
      refine xget E hQ 94 (by decide) c83 rfl 6 (by decide) q348 rfl dX5_expectNumber_47 ?_
      refine lv_istore_n (lv' := [(3, .int v80), (0, .ref (ad 94)), (1, .int a1), (2, .int a2)]) hx hb dX5_expectNumber_50 rfl hl (by decide) rfl (fun ls hl => ?_)
      refine lv_aload_n hx hb dX5_expectNumber_51 rfl (lv_at hl 1 rfl) ?_
      refine xcVv E hs hQ hml hl.1 94 (gX5_advance_94 l g ad hD S71 hI ) mX5_advance q598 (by decide) c83 rfl rfl ⟨(Nat.le_of_ble_eq_true rfl), (Nat.le_of_ble_eq_true rfl)⟩ ⟨(Nat.le_of_ble_eq_true rfl), (Nat.le_of_ble_eq_true rfl)⟩ (Nat.le_of_ble_eq_true rfl) rfl dX5_expectNumber_52 (fun S87 H locs hp87 hQ _ => ?_)
      obtain ⟨hI, o87⟩ := hp87
      refine lv_iload_n hx hb dX5_expectNumber_55 rfl (lv_at hl 0 rfl) ?_
      exact xri E hr hlk hQ (⟨hI, (o_trans (o_trans o_refl o71 (by decide)) o87 (by decide))⟩) dX5_expectNumber_56
    · have h88 := ib_ne k84
      have b89 : Bd r72 (1) (1) := rf_nlo b72 (by decide : Bd 0 (0) (0)) h88
      refine lv_iload_n hx hb dX5_expectNumber_44 rfl (lv_at hl 1 rfl) ?_
      exact xri E hr hlk hQ (⟨hI, (o_trans o_refl o71 (by decide)), (ib_wk ba1 (by decide) (by decide))⟩) dX5_expectNumber_45
set_option maxHeartbeats 4000000 in
set_option maxRecDepth 100000 in
theorem gX5_expectNumber_2 (l : Launch) (g : GG) (ad : Nat → Nat) (hD : Dj ad 122) (S : SS) (hI : InvX g ad S) (a1 : Int32) (a2 : Int32) (ba1 : Bd a1 (0) (0)) (ba2 : Bd a2 (6) (6)) : Met l yX5_expectNumber (wG (.code yX5_expectNumber cX5_expectNumber 4 (some .int))) (Rm 2) (XPre g ad 122 S [.ref (ad 94), .int a1, .int a2]) (va_Qi (fun r S' => InvX g ad S' ∧ (∀ j, j ∉ ([94] : List Nat) → S' j = S j) ∧ Bd r (0) (6)) (QB g ad 122) (FA ad 122)) 0 0 (FA ad 122) := by
  refine xmet cX5_expectNumber "EbbWreck$Reader" (by decide) rfl (Nat.le_of_ble_eq_true rfl) (fun p e s m below meth c E hr hlk hml hQ ls hl => ?_)
  have hx := E.1
  have hb := E.2.1
  have hs : Sp ad 122 (FA ad 122) := Sp.fa hD
  have hl : lv_has ls 4 [(0, .ref (ad 94)), (1, .int a1), (2, .int a2)] := hl
  refine lv_aload_n hx hb dX5_expectNumber_0 rfl (lv_at hl 0 rfl) ?_
  obtain ⟨v1, v3, v4, v6, v8, v9, v10, c11, b2, b5, b7⟩ := invX_94 hI
  have c11 : S 94 = .inr (5, [.ref (ad 1), .ref (ad 20), .int v1, .int v3, .int v4, .int v6, .int v8, .int v9, .int v10]) := c11
  refine xget E hQ 94 (by decide) c11 rfl 3 (by decide) q345 rfl dX5_expectNumber_1 ?_
  refine lv_iconst (v := 2) hx hb dX5_expectNumber_4 (by decide) ?_
  refine lv_icmp_eq (tgt := 16) hx hb dX5_expectNumber_5 (by decide) (fun k12 => ?_) (fun k12 => ?_)
  · have h13 := ib_eq k12
    have b14 : Bd v3 (2) (2) := ⟨((rf_eq (ib_full v3) (by decide : Bd 2 (2) (2)) h13).1).1, ((rf_eq (ib_full v3) (by decide : Bd 2 (2) (2)) h13).1).2⟩
    refine lv_aload_n hx hb dX5_expectNumber_16 rfl (lv_at hl 0 rfl) ?_
    refine xget E hQ 94 (by decide) c11 rfl 6 (by decide) q348 rfl dX5_expectNumber_17 ?_
    refine lv_iload_n hx hb dX5_expectNumber_20 rfl (lv_at hl 1 rfl) ?_
    refine lv_icmp_lt (tgt := 32) hx hb dX5_expectNumber_21 (by decide) (fun k15 => ?_) (fun k15 => ?_)
    · have h16 := ib_lt k15
      have b17 : Bd v8 (-2147483648) (-1) := ⟨((ib_full v8)).1, ((rf_lt (ib_full v8) ba1 h16).1).2⟩
      refine lv_aload_n hx hb dX5_expectNumber_32 rfl (lv_at hl 0 rfl) ?_
      refine lv_iconst (v := 2) hx hb dX5_expectNumber_33 (by decide) ?_
      refine xcVv E hs hQ hml hl.1 94 (gX5_fail_94 l g ad hD S hI 2) mX5_fail q679 (by decide) c11 rfl rfl ⟨(Nat.le_of_ble_eq_true rfl), (Nat.le_of_ble_eq_true rfl)⟩ ⟨(Nat.le_of_ble_eq_true rfl), (Nat.le_of_ble_eq_true rfl)⟩ (Nat.le_of_ble_eq_true rfl) rfl dX5_expectNumber_34 (fun S18 H locs hp18 hQ _ => ?_)
      obtain ⟨hI, o18⟩ := hp18
      refine lv_aload_n hx hb dX5_expectNumber_37 rfl (lv_at hl 0 rfl) ?_
      obtain ⟨v20, v22, v23, v25, v27, v28, v29, c30, b21, b24, b26⟩ := invX_94 hI
      have c30 : S18 94 = .inr (5, [.ref (ad 1), .ref (ad 20), .int v20, .int v22, .int v23, .int v25, .int v27, .int v28, .int v29]) := c30
      refine xcVi E hs hQ hml hl.1 94 (gX5_failed_94 l g ad hD S18 hI ) mX5_failed q610 (by decide) c30 rfl rfl ⟨(Nat.le_of_ble_eq_true rfl), (Nat.le_of_ble_eq_true rfl)⟩ ⟨(Nat.le_of_ble_eq_true rfl), (Nat.le_of_ble_eq_true rfl)⟩ (Nat.le_of_ble_eq_true rfl) rfl dX5_expectNumber_38 (fun r19 S19 H locs hp19 hQ _ => ?_)
      obtain ⟨rfl, b19⟩ := hp19
      refine lv_if_eq (tgt := 46) hx hb dX5_expectNumber_41 (by decide) (fun k31 => ?_) (fun k31 => ?_)
      · have h32 := ib_eq k31
        have b33 : Bd r19 (0) (0) := ⟨(b19).1, ((rf_eq b19 (by decide : Bd 0 (0) (0)) h32).1).2⟩
        refine lv_aload_n hx hb dX5_expectNumber_46 rfl (lv_at hl 0 rfl) ?_
        refine xget E hQ 94 (by decide) c30 rfl 6 (by decide) q348 rfl dX5_expectNumber_47 ?_
        refine lv_istore_n (lv' := [(3, .int v27), (0, .ref (ad 94)), (1, .int a1), (2, .int a2)]) hx hb dX5_expectNumber_50 rfl hl (by decide) rfl (fun ls hl => ?_)
        refine lv_aload_n hx hb dX5_expectNumber_51 rfl (lv_at hl 1 rfl) ?_
        refine xcVv E hs hQ hml hl.1 94 (gX5_advance_94 l g ad hD S18 hI ) mX5_advance q598 (by decide) c30 rfl rfl ⟨(Nat.le_of_ble_eq_true rfl), (Nat.le_of_ble_eq_true rfl)⟩ ⟨(Nat.le_of_ble_eq_true rfl), (Nat.le_of_ble_eq_true rfl)⟩ (Nat.le_of_ble_eq_true rfl) rfl dX5_expectNumber_52 (fun S34 H locs hp34 hQ _ => ?_)
        obtain ⟨hI, o34⟩ := hp34
        refine lv_iload_n hx hb dX5_expectNumber_55 rfl (lv_at hl 0 rfl) ?_
        exact xri E hr hlk hQ (⟨hI, (o_trans (o_trans o_refl o18 (by decide)) o34 (by decide))⟩) dX5_expectNumber_56
      · have h35 := ib_ne k31
        have b36 : Bd r19 (1) (1) := rf_nlo b19 (by decide : Bd 0 (0) (0)) h35
        refine lv_iload_n hx hb dX5_expectNumber_44 rfl (lv_at hl 1 rfl) ?_
        exact xri E hr hlk hQ (⟨hI, (o_trans o_refl o18 (by decide)), (ib_wk ba1 (by decide) (by decide))⟩) dX5_expectNumber_45
    · have h37 := ib_nlt k15
      have b38 : Bd v8 (0) (2147483647) := ⟨((rf_le ba1 (ib_full v8) h37).2).1, ((ib_full v8)).2⟩
      refine lv_aload_n hx hb dX5_expectNumber_24 rfl (lv_at hl 0 rfl) ?_
      refine xget E hQ 94 (by decide) c11 rfl 6 (by decide) q348 rfl dX5_expectNumber_25 ?_
      refine lv_iload_n hx hb dX5_expectNumber_28 rfl (lv_at hl 2 rfl) ?_
      refine lv_icmp_le (tgt := 37) hx hb dX5_expectNumber_29 (by decide) (fun k39 => ?_) (fun k39 => ?_)
      · have h40 := ib_le k39
        have b41 : Bd v8 (0) (6) := ⟨(b38).1, ((rf_le b38 ba2 h40).1).2⟩
        refine lv_aload_n hx hb dX5_expectNumber_37 rfl (lv_at hl 0 rfl) ?_
        refine xcVi E hs hQ hml hl.1 94 (gX5_failed_94 l g ad hD S hI ) mX5_failed q610 (by decide) c11 rfl rfl ⟨(Nat.le_of_ble_eq_true rfl), (Nat.le_of_ble_eq_true rfl)⟩ ⟨(Nat.le_of_ble_eq_true rfl), (Nat.le_of_ble_eq_true rfl)⟩ (Nat.le_of_ble_eq_true rfl) rfl dX5_expectNumber_38 (fun r42 S42 H locs hp42 hQ _ => ?_)
        obtain ⟨rfl, b42⟩ := hp42
        refine lv_if_eq (tgt := 46) hx hb dX5_expectNumber_41 (by decide) (fun k43 => ?_) (fun k43 => ?_)
        · have h44 := ib_eq k43
          have b45 : Bd r42 (0) (0) := ⟨(b42).1, ((rf_eq b42 (by decide : Bd 0 (0) (0)) h44).1).2⟩
          refine lv_aload_n hx hb dX5_expectNumber_46 rfl (lv_at hl 0 rfl) ?_
          refine xget E hQ 94 (by decide) c11 rfl 6 (by decide) q348 rfl dX5_expectNumber_47 ?_
          refine lv_istore_n (lv' := [(3, .int v8), (0, .ref (ad 94)), (1, .int a1), (2, .int a2)]) hx hb dX5_expectNumber_50 rfl hl (by decide) rfl (fun ls hl => ?_)
          refine lv_aload_n hx hb dX5_expectNumber_51 rfl (lv_at hl 1 rfl) ?_
          refine xcVv E hs hQ hml hl.1 94 (gX5_advance_94 l g ad hD S hI ) mX5_advance q598 (by decide) c11 rfl rfl ⟨(Nat.le_of_ble_eq_true rfl), (Nat.le_of_ble_eq_true rfl)⟩ ⟨(Nat.le_of_ble_eq_true rfl), (Nat.le_of_ble_eq_true rfl)⟩ (Nat.le_of_ble_eq_true rfl) rfl dX5_expectNumber_52 (fun S46 H locs hp46 hQ _ => ?_)
          obtain ⟨hI, o46⟩ := hp46
          refine lv_iload_n hx hb dX5_expectNumber_55 rfl (lv_at hl 0 rfl) ?_
          exact xri E hr hlk hQ (⟨hI, (o_trans o_refl o46 (by decide)), b41⟩) dX5_expectNumber_56
        · have h47 := ib_ne k43
          have b48 : Bd r42 (1) (1) := rf_nlo b42 (by decide : Bd 0 (0) (0)) h47
          refine lv_iload_n hx hb dX5_expectNumber_44 rfl (lv_at hl 1 rfl) ?_
          exact xri E hr hlk hQ (⟨hI, o_refl, (ib_wk ba1 (by decide) (by decide))⟩) dX5_expectNumber_45
      · have h49 := ib_nle k39
        have b50 : Bd v8 (7) (2147483647) := ⟨((rf_lt ba2 b38 h49).2).1, (b38).2⟩
        refine lv_aload_n hx hb dX5_expectNumber_32 rfl (lv_at hl 0 rfl) ?_
        refine lv_iconst (v := 2) hx hb dX5_expectNumber_33 (by decide) ?_
        refine xcVv E hs hQ hml hl.1 94 (gX5_fail_94 l g ad hD S hI 2) mX5_fail q679 (by decide) c11 rfl rfl ⟨(Nat.le_of_ble_eq_true rfl), (Nat.le_of_ble_eq_true rfl)⟩ ⟨(Nat.le_of_ble_eq_true rfl), (Nat.le_of_ble_eq_true rfl)⟩ (Nat.le_of_ble_eq_true rfl) rfl dX5_expectNumber_34 (fun S51 H locs hp51 hQ _ => ?_)
        obtain ⟨hI, o51⟩ := hp51
        refine lv_aload_n hx hb dX5_expectNumber_37 rfl (lv_at hl 0 rfl) ?_
        obtain ⟨v53, v55, v56, v58, v60, v61, v62, c63, b54, b57, b59⟩ := invX_94 hI
        have c63 : S51 94 = .inr (5, [.ref (ad 1), .ref (ad 20), .int v53, .int v55, .int v56, .int v58, .int v60, .int v61, .int v62]) := c63
        refine xcVi E hs hQ hml hl.1 94 (gX5_failed_94 l g ad hD S51 hI ) mX5_failed q610 (by decide) c63 rfl rfl ⟨(Nat.le_of_ble_eq_true rfl), (Nat.le_of_ble_eq_true rfl)⟩ ⟨(Nat.le_of_ble_eq_true rfl), (Nat.le_of_ble_eq_true rfl)⟩ (Nat.le_of_ble_eq_true rfl) rfl dX5_expectNumber_38 (fun r52 S52 H locs hp52 hQ _ => ?_)
        obtain ⟨rfl, b52⟩ := hp52
        refine lv_if_eq (tgt := 46) hx hb dX5_expectNumber_41 (by decide) (fun k64 => ?_) (fun k64 => ?_)
        · have h65 := ib_eq k64
          have b66 : Bd r52 (0) (0) := ⟨(b52).1, ((rf_eq b52 (by decide : Bd 0 (0) (0)) h65).1).2⟩
          refine lv_aload_n hx hb dX5_expectNumber_46 rfl (lv_at hl 0 rfl) ?_
          refine xget E hQ 94 (by decide) c63 rfl 6 (by decide) q348 rfl dX5_expectNumber_47 ?_
          refine lv_istore_n (lv' := [(3, .int v60), (0, .ref (ad 94)), (1, .int a1), (2, .int a2)]) hx hb dX5_expectNumber_50 rfl hl (by decide) rfl (fun ls hl => ?_)
          refine lv_aload_n hx hb dX5_expectNumber_51 rfl (lv_at hl 1 rfl) ?_
          refine xcVv E hs hQ hml hl.1 94 (gX5_advance_94 l g ad hD S51 hI ) mX5_advance q598 (by decide) c63 rfl rfl ⟨(Nat.le_of_ble_eq_true rfl), (Nat.le_of_ble_eq_true rfl)⟩ ⟨(Nat.le_of_ble_eq_true rfl), (Nat.le_of_ble_eq_true rfl)⟩ (Nat.le_of_ble_eq_true rfl) rfl dX5_expectNumber_52 (fun S67 H locs hp67 hQ _ => ?_)
          obtain ⟨hI, o67⟩ := hp67
          refine lv_iload_n hx hb dX5_expectNumber_55 rfl (lv_at hl 0 rfl) ?_
          exact xri E hr hlk hQ (⟨hI, (o_trans (o_trans o_refl o51 (by decide)) o67 (by decide))⟩) dX5_expectNumber_56
        · have h68 := ib_ne k64
          have b69 : Bd r52 (1) (1) := rf_nlo b52 (by decide : Bd 0 (0) (0)) h68
          refine lv_iload_n hx hb dX5_expectNumber_44 rfl (lv_at hl 1 rfl) ?_
          exact xri E hr hlk hQ (⟨hI, (o_trans o_refl o51 (by decide)), (ib_wk ba1 (by decide) (by decide))⟩) dX5_expectNumber_45
  · have h70 := ib_ne k12
    refine lv_aload_n hx hb dX5_expectNumber_8 rfl (lv_at hl 0 rfl) ?_
    refine lv_iconst (v := 1) hx hb dX5_expectNumber_9 (by decide) ?_
    refine xcVv E hs hQ hml hl.1 94 (gX5_fail_94 l g ad hD S hI 1) mX5_fail q679 (by decide) c11 rfl rfl ⟨(Nat.le_of_ble_eq_true rfl), (Nat.le_of_ble_eq_true rfl)⟩ ⟨(Nat.le_of_ble_eq_true rfl), (Nat.le_of_ble_eq_true rfl)⟩ (Nat.le_of_ble_eq_true rfl) rfl dX5_expectNumber_10 (fun S71 H locs hp71 hQ _ => ?_)
    obtain ⟨hI, o71⟩ := hp71
    refine lv_goto (tgt := 37) hx hb dX5_expectNumber_13 (by decide) ?_
    refine lv_aload_n hx hb dX5_expectNumber_37 rfl (lv_at hl 0 rfl) ?_
    obtain ⟨v73, v75, v76, v78, v80, v81, v82, c83, b74, b77, b79⟩ := invX_94 hI
    have c83 : S71 94 = .inr (5, [.ref (ad 1), .ref (ad 20), .int v73, .int v75, .int v76, .int v78, .int v80, .int v81, .int v82]) := c83
    refine xcVi E hs hQ hml hl.1 94 (gX5_failed_94 l g ad hD S71 hI ) mX5_failed q610 (by decide) c83 rfl rfl ⟨(Nat.le_of_ble_eq_true rfl), (Nat.le_of_ble_eq_true rfl)⟩ ⟨(Nat.le_of_ble_eq_true rfl), (Nat.le_of_ble_eq_true rfl)⟩ (Nat.le_of_ble_eq_true rfl) rfl dX5_expectNumber_38 (fun r72 S72 H locs hp72 hQ _ => ?_)
    obtain ⟨rfl, b72⟩ := hp72
    refine lv_if_eq (tgt := 46) hx hb dX5_expectNumber_41 (by decide) (fun k84 => ?_) (fun k84 => ?_)
    · have h85 := ib_eq k84
      have b86 : Bd r72 (0) (0) := ⟨(b72).1, ((rf_eq b72 (by decide : Bd 0 (0) (0)) h85).1).2⟩
      refine lv_aload_n hx hb dX5_expectNumber_46 rfl (lv_at hl 0 rfl) ?_
      refine xget E hQ 94 (by decide) c83 rfl 6 (by decide) q348 rfl dX5_expectNumber_47 ?_
      refine lv_istore_n (lv' := [(3, .int v80), (0, .ref (ad 94)), (1, .int a1), (2, .int a2)]) hx hb dX5_expectNumber_50 rfl hl (by decide) rfl (fun ls hl => ?_)
      refine lv_aload_n hx hb dX5_expectNumber_51 rfl (lv_at hl 1 rfl) ?_
      refine xcVv E hs hQ hml hl.1 94 (gX5_advance_94 l g ad hD S71 hI ) mX5_advance q598 (by decide) c83 rfl rfl ⟨(Nat.le_of_ble_eq_true rfl), (Nat.le_of_ble_eq_true rfl)⟩ ⟨(Nat.le_of_ble_eq_true rfl), (Nat.le_of_ble_eq_true rfl)⟩ (Nat.le_of_ble_eq_true rfl) rfl dX5_expectNumber_52 (fun S87 H locs hp87 hQ _ => ?_)
      obtain ⟨hI, o87⟩ := hp87
      refine lv_iload_n hx hb dX5_expectNumber_55 rfl (lv_at hl 0 rfl) ?_
      exact xri E hr hlk hQ (⟨hI, (o_trans (o_trans o_refl o71 (by decide)) o87 (by decide))⟩) dX5_expectNumber_56
    · have h88 := ib_ne k84
      have b89 : Bd r72 (1) (1) := rf_nlo b72 (by decide : Bd 0 (0) (0)) h88
      refine lv_iload_n hx hb dX5_expectNumber_44 rfl (lv_at hl 1 rfl) ?_
      exact xri E hr hlk hQ (⟨hI, (o_trans o_refl o71 (by decide)), (ib_wk ba1 (by decide) (by decide))⟩) dX5_expectNumber_45
set_option maxHeartbeats 4000000 in
set_option maxRecDepth 100000 in
theorem gX5_expectNumber_3 (l : Launch) (g : GG) (ad : Nat → Nat) (hD : Dj ad 122) (S : SS) (hI : InvX g ad S) (a1 : Int32) (a2 : Int32) (ba1 : Bd a1 (0) (0)) (ba2 : Bd a2 (100) (100)) : Met l yX5_expectNumber (wG (.code yX5_expectNumber cX5_expectNumber 4 (some .int))) (Rm 2) (XPre g ad 122 S [.ref (ad 94), .int a1, .int a2]) (va_Qi (fun r S' => InvX g ad S' ∧ (∀ j, j ∉ ([94] : List Nat) → S' j = S j) ∧ Bd r (0) (100)) (QB g ad 122) (FA ad 122)) 0 0 (FA ad 122) := by
  refine xmet cX5_expectNumber "EbbWreck$Reader" (by decide) rfl (Nat.le_of_ble_eq_true rfl) (fun p e s m below meth c E hr hlk hml hQ ls hl => ?_)
  have hx := E.1
  have hb := E.2.1
  have hs : Sp ad 122 (FA ad 122) := Sp.fa hD
  have hl : lv_has ls 4 [(0, .ref (ad 94)), (1, .int a1), (2, .int a2)] := hl
  refine lv_aload_n hx hb dX5_expectNumber_0 rfl (lv_at hl 0 rfl) ?_
  obtain ⟨v1, v3, v4, v6, v8, v9, v10, c11, b2, b5, b7⟩ := invX_94 hI
  have c11 : S 94 = .inr (5, [.ref (ad 1), .ref (ad 20), .int v1, .int v3, .int v4, .int v6, .int v8, .int v9, .int v10]) := c11
  refine xget E hQ 94 (by decide) c11 rfl 3 (by decide) q345 rfl dX5_expectNumber_1 ?_
  refine lv_iconst (v := 2) hx hb dX5_expectNumber_4 (by decide) ?_
  refine lv_icmp_eq (tgt := 16) hx hb dX5_expectNumber_5 (by decide) (fun k12 => ?_) (fun k12 => ?_)
  · have h13 := ib_eq k12
    have b14 : Bd v3 (2) (2) := ⟨((rf_eq (ib_full v3) (by decide : Bd 2 (2) (2)) h13).1).1, ((rf_eq (ib_full v3) (by decide : Bd 2 (2) (2)) h13).1).2⟩
    refine lv_aload_n hx hb dX5_expectNumber_16 rfl (lv_at hl 0 rfl) ?_
    refine xget E hQ 94 (by decide) c11 rfl 6 (by decide) q348 rfl dX5_expectNumber_17 ?_
    refine lv_iload_n hx hb dX5_expectNumber_20 rfl (lv_at hl 1 rfl) ?_
    refine lv_icmp_lt (tgt := 32) hx hb dX5_expectNumber_21 (by decide) (fun k15 => ?_) (fun k15 => ?_)
    · have h16 := ib_lt k15
      have b17 : Bd v8 (-2147483648) (-1) := ⟨((ib_full v8)).1, ((rf_lt (ib_full v8) ba1 h16).1).2⟩
      refine lv_aload_n hx hb dX5_expectNumber_32 rfl (lv_at hl 0 rfl) ?_
      refine lv_iconst (v := 2) hx hb dX5_expectNumber_33 (by decide) ?_
      refine xcVv E hs hQ hml hl.1 94 (gX5_fail_94 l g ad hD S hI 2) mX5_fail q679 (by decide) c11 rfl rfl ⟨(Nat.le_of_ble_eq_true rfl), (Nat.le_of_ble_eq_true rfl)⟩ ⟨(Nat.le_of_ble_eq_true rfl), (Nat.le_of_ble_eq_true rfl)⟩ (Nat.le_of_ble_eq_true rfl) rfl dX5_expectNumber_34 (fun S18 H locs hp18 hQ _ => ?_)
      obtain ⟨hI, o18⟩ := hp18
      refine lv_aload_n hx hb dX5_expectNumber_37 rfl (lv_at hl 0 rfl) ?_
      obtain ⟨v20, v22, v23, v25, v27, v28, v29, c30, b21, b24, b26⟩ := invX_94 hI
      have c30 : S18 94 = .inr (5, [.ref (ad 1), .ref (ad 20), .int v20, .int v22, .int v23, .int v25, .int v27, .int v28, .int v29]) := c30
      refine xcVi E hs hQ hml hl.1 94 (gX5_failed_94 l g ad hD S18 hI ) mX5_failed q610 (by decide) c30 rfl rfl ⟨(Nat.le_of_ble_eq_true rfl), (Nat.le_of_ble_eq_true rfl)⟩ ⟨(Nat.le_of_ble_eq_true rfl), (Nat.le_of_ble_eq_true rfl)⟩ (Nat.le_of_ble_eq_true rfl) rfl dX5_expectNumber_38 (fun r19 S19 H locs hp19 hQ _ => ?_)
      obtain ⟨rfl, b19⟩ := hp19
      refine lv_if_eq (tgt := 46) hx hb dX5_expectNumber_41 (by decide) (fun k31 => ?_) (fun k31 => ?_)
      · have h32 := ib_eq k31
        have b33 : Bd r19 (0) (0) := ⟨(b19).1, ((rf_eq b19 (by decide : Bd 0 (0) (0)) h32).1).2⟩
        refine lv_aload_n hx hb dX5_expectNumber_46 rfl (lv_at hl 0 rfl) ?_
        refine xget E hQ 94 (by decide) c30 rfl 6 (by decide) q348 rfl dX5_expectNumber_47 ?_
        refine lv_istore_n (lv' := [(3, .int v27), (0, .ref (ad 94)), (1, .int a1), (2, .int a2)]) hx hb dX5_expectNumber_50 rfl hl (by decide) rfl (fun ls hl => ?_)
        refine lv_aload_n hx hb dX5_expectNumber_51 rfl (lv_at hl 1 rfl) ?_
        refine xcVv E hs hQ hml hl.1 94 (gX5_advance_94 l g ad hD S18 hI ) mX5_advance q598 (by decide) c30 rfl rfl ⟨(Nat.le_of_ble_eq_true rfl), (Nat.le_of_ble_eq_true rfl)⟩ ⟨(Nat.le_of_ble_eq_true rfl), (Nat.le_of_ble_eq_true rfl)⟩ (Nat.le_of_ble_eq_true rfl) rfl dX5_expectNumber_52 (fun S34 H locs hp34 hQ _ => ?_)
        obtain ⟨hI, o34⟩ := hp34
        refine lv_iload_n hx hb dX5_expectNumber_55 rfl (lv_at hl 0 rfl) ?_
        exact xri E hr hlk hQ (⟨hI, (o_trans (o_trans o_refl o18 (by decide)) o34 (by decide))⟩) dX5_expectNumber_56
      · have h35 := ib_ne k31
        have b36 : Bd r19 (1) (1) := rf_nlo b19 (by decide : Bd 0 (0) (0)) h35
        refine lv_iload_n hx hb dX5_expectNumber_44 rfl (lv_at hl 1 rfl) ?_
        exact xri E hr hlk hQ (⟨hI, (o_trans o_refl o18 (by decide)), (ib_wk ba1 (by decide) (by decide))⟩) dX5_expectNumber_45
    · have h37 := ib_nlt k15
      have b38 : Bd v8 (0) (2147483647) := ⟨((rf_le ba1 (ib_full v8) h37).2).1, ((ib_full v8)).2⟩
      refine lv_aload_n hx hb dX5_expectNumber_24 rfl (lv_at hl 0 rfl) ?_
      refine xget E hQ 94 (by decide) c11 rfl 6 (by decide) q348 rfl dX5_expectNumber_25 ?_
      refine lv_iload_n hx hb dX5_expectNumber_28 rfl (lv_at hl 2 rfl) ?_
      refine lv_icmp_le (tgt := 37) hx hb dX5_expectNumber_29 (by decide) (fun k39 => ?_) (fun k39 => ?_)
      · have h40 := ib_le k39
        have b41 : Bd v8 (0) (100) := ⟨(b38).1, ((rf_le b38 ba2 h40).1).2⟩
        refine lv_aload_n hx hb dX5_expectNumber_37 rfl (lv_at hl 0 rfl) ?_
        refine xcVi E hs hQ hml hl.1 94 (gX5_failed_94 l g ad hD S hI ) mX5_failed q610 (by decide) c11 rfl rfl ⟨(Nat.le_of_ble_eq_true rfl), (Nat.le_of_ble_eq_true rfl)⟩ ⟨(Nat.le_of_ble_eq_true rfl), (Nat.le_of_ble_eq_true rfl)⟩ (Nat.le_of_ble_eq_true rfl) rfl dX5_expectNumber_38 (fun r42 S42 H locs hp42 hQ _ => ?_)
        obtain ⟨rfl, b42⟩ := hp42
        refine lv_if_eq (tgt := 46) hx hb dX5_expectNumber_41 (by decide) (fun k43 => ?_) (fun k43 => ?_)
        · have h44 := ib_eq k43
          have b45 : Bd r42 (0) (0) := ⟨(b42).1, ((rf_eq b42 (by decide : Bd 0 (0) (0)) h44).1).2⟩
          refine lv_aload_n hx hb dX5_expectNumber_46 rfl (lv_at hl 0 rfl) ?_
          refine xget E hQ 94 (by decide) c11 rfl 6 (by decide) q348 rfl dX5_expectNumber_47 ?_
          refine lv_istore_n (lv' := [(3, .int v8), (0, .ref (ad 94)), (1, .int a1), (2, .int a2)]) hx hb dX5_expectNumber_50 rfl hl (by decide) rfl (fun ls hl => ?_)
          refine lv_aload_n hx hb dX5_expectNumber_51 rfl (lv_at hl 1 rfl) ?_
          refine xcVv E hs hQ hml hl.1 94 (gX5_advance_94 l g ad hD S hI ) mX5_advance q598 (by decide) c11 rfl rfl ⟨(Nat.le_of_ble_eq_true rfl), (Nat.le_of_ble_eq_true rfl)⟩ ⟨(Nat.le_of_ble_eq_true rfl), (Nat.le_of_ble_eq_true rfl)⟩ (Nat.le_of_ble_eq_true rfl) rfl dX5_expectNumber_52 (fun S46 H locs hp46 hQ _ => ?_)
          obtain ⟨hI, o46⟩ := hp46
          refine lv_iload_n hx hb dX5_expectNumber_55 rfl (lv_at hl 0 rfl) ?_
          exact xri E hr hlk hQ (⟨hI, (o_trans o_refl o46 (by decide)), b41⟩) dX5_expectNumber_56
        · have h47 := ib_ne k43
          have b48 : Bd r42 (1) (1) := rf_nlo b42 (by decide : Bd 0 (0) (0)) h47
          refine lv_iload_n hx hb dX5_expectNumber_44 rfl (lv_at hl 1 rfl) ?_
          exact xri E hr hlk hQ (⟨hI, o_refl, (ib_wk ba1 (by decide) (by decide))⟩) dX5_expectNumber_45
      · have h49 := ib_nle k39
        have b50 : Bd v8 (101) (2147483647) := ⟨((rf_lt ba2 b38 h49).2).1, (b38).2⟩
        refine lv_aload_n hx hb dX5_expectNumber_32 rfl (lv_at hl 0 rfl) ?_
        refine lv_iconst (v := 2) hx hb dX5_expectNumber_33 (by decide) ?_
        refine xcVv E hs hQ hml hl.1 94 (gX5_fail_94 l g ad hD S hI 2) mX5_fail q679 (by decide) c11 rfl rfl ⟨(Nat.le_of_ble_eq_true rfl), (Nat.le_of_ble_eq_true rfl)⟩ ⟨(Nat.le_of_ble_eq_true rfl), (Nat.le_of_ble_eq_true rfl)⟩ (Nat.le_of_ble_eq_true rfl) rfl dX5_expectNumber_34 (fun S51 H locs hp51 hQ _ => ?_)
        obtain ⟨hI, o51⟩ := hp51
        refine lv_aload_n hx hb dX5_expectNumber_37 rfl (lv_at hl 0 rfl) ?_
        obtain ⟨v53, v55, v56, v58, v60, v61, v62, c63, b54, b57, b59⟩ := invX_94 hI
        have c63 : S51 94 = .inr (5, [.ref (ad 1), .ref (ad 20), .int v53, .int v55, .int v56, .int v58, .int v60, .int v61, .int v62]) := c63
        refine xcVi E hs hQ hml hl.1 94 (gX5_failed_94 l g ad hD S51 hI ) mX5_failed q610 (by decide) c63 rfl rfl ⟨(Nat.le_of_ble_eq_true rfl), (Nat.le_of_ble_eq_true rfl)⟩ ⟨(Nat.le_of_ble_eq_true rfl), (Nat.le_of_ble_eq_true rfl)⟩ (Nat.le_of_ble_eq_true rfl) rfl dX5_expectNumber_38 (fun r52 S52 H locs hp52 hQ _ => ?_)
        obtain ⟨rfl, b52⟩ := hp52
        refine lv_if_eq (tgt := 46) hx hb dX5_expectNumber_41 (by decide) (fun k64 => ?_) (fun k64 => ?_)
        · have h65 := ib_eq k64
          have b66 : Bd r52 (0) (0) := ⟨(b52).1, ((rf_eq b52 (by decide : Bd 0 (0) (0)) h65).1).2⟩
          refine lv_aload_n hx hb dX5_expectNumber_46 rfl (lv_at hl 0 rfl) ?_
          refine xget E hQ 94 (by decide) c63 rfl 6 (by decide) q348 rfl dX5_expectNumber_47 ?_
          refine lv_istore_n (lv' := [(3, .int v60), (0, .ref (ad 94)), (1, .int a1), (2, .int a2)]) hx hb dX5_expectNumber_50 rfl hl (by decide) rfl (fun ls hl => ?_)
          refine lv_aload_n hx hb dX5_expectNumber_51 rfl (lv_at hl 1 rfl) ?_
          refine xcVv E hs hQ hml hl.1 94 (gX5_advance_94 l g ad hD S51 hI ) mX5_advance q598 (by decide) c63 rfl rfl ⟨(Nat.le_of_ble_eq_true rfl), (Nat.le_of_ble_eq_true rfl)⟩ ⟨(Nat.le_of_ble_eq_true rfl), (Nat.le_of_ble_eq_true rfl)⟩ (Nat.le_of_ble_eq_true rfl) rfl dX5_expectNumber_52 (fun S67 H locs hp67 hQ _ => ?_)
          obtain ⟨hI, o67⟩ := hp67
          refine lv_iload_n hx hb dX5_expectNumber_55 rfl (lv_at hl 0 rfl) ?_
          exact xri E hr hlk hQ (⟨hI, (o_trans (o_trans o_refl o51 (by decide)) o67 (by decide))⟩) dX5_expectNumber_56
        · have h68 := ib_ne k64
          have b69 : Bd r52 (1) (1) := rf_nlo b52 (by decide : Bd 0 (0) (0)) h68
          refine lv_iload_n hx hb dX5_expectNumber_44 rfl (lv_at hl 1 rfl) ?_
          exact xri E hr hlk hQ (⟨hI, (o_trans o_refl o51 (by decide)), (ib_wk ba1 (by decide) (by decide))⟩) dX5_expectNumber_45
  · have h70 := ib_ne k12
    refine lv_aload_n hx hb dX5_expectNumber_8 rfl (lv_at hl 0 rfl) ?_
    refine lv_iconst (v := 1) hx hb dX5_expectNumber_9 (by decide) ?_
    refine xcVv E hs hQ hml hl.1 94 (gX5_fail_94 l g ad hD S hI 1) mX5_fail q679 (by decide) c11 rfl rfl ⟨(Nat.le_of_ble_eq_true rfl), (Nat.le_of_ble_eq_true rfl)⟩ ⟨(Nat.le_of_ble_eq_true rfl), (Nat.le_of_ble_eq_true rfl)⟩ (Nat.le_of_ble_eq_true rfl) rfl dX5_expectNumber_10 (fun S71 H locs hp71 hQ _ => ?_)
    obtain ⟨hI, o71⟩ := hp71
    refine lv_goto (tgt := 37) hx hb dX5_expectNumber_13 (by decide) ?_
    refine lv_aload_n hx hb dX5_expectNumber_37 rfl (lv_at hl 0 rfl) ?_
    obtain ⟨v73, v75, v76, v78, v80, v81, v82, c83, b74, b77, b79⟩ := invX_94 hI
    have c83 : S71 94 = .inr (5, [.ref (ad 1), .ref (ad 20), .int v73, .int v75, .int v76, .int v78, .int v80, .int v81, .int v82]) := c83
    refine xcVi E hs hQ hml hl.1 94 (gX5_failed_94 l g ad hD S71 hI ) mX5_failed q610 (by decide) c83 rfl rfl ⟨(Nat.le_of_ble_eq_true rfl), (Nat.le_of_ble_eq_true rfl)⟩ ⟨(Nat.le_of_ble_eq_true rfl), (Nat.le_of_ble_eq_true rfl)⟩ (Nat.le_of_ble_eq_true rfl) rfl dX5_expectNumber_38 (fun r72 S72 H locs hp72 hQ _ => ?_)
    obtain ⟨rfl, b72⟩ := hp72
    refine lv_if_eq (tgt := 46) hx hb dX5_expectNumber_41 (by decide) (fun k84 => ?_) (fun k84 => ?_)
    · have h85 := ib_eq k84
      have b86 : Bd r72 (0) (0) := ⟨(b72).1, ((rf_eq b72 (by decide : Bd 0 (0) (0)) h85).1).2⟩
      refine lv_aload_n hx hb dX5_expectNumber_46 rfl (lv_at hl 0 rfl) ?_
      refine xget E hQ 94 (by decide) c83 rfl 6 (by decide) q348 rfl dX5_expectNumber_47 ?_
      refine lv_istore_n (lv' := [(3, .int v80), (0, .ref (ad 94)), (1, .int a1), (2, .int a2)]) hx hb dX5_expectNumber_50 rfl hl (by decide) rfl (fun ls hl => ?_)
      refine lv_aload_n hx hb dX5_expectNumber_51 rfl (lv_at hl 1 rfl) ?_
      refine xcVv E hs hQ hml hl.1 94 (gX5_advance_94 l g ad hD S71 hI ) mX5_advance q598 (by decide) c83 rfl rfl ⟨(Nat.le_of_ble_eq_true rfl), (Nat.le_of_ble_eq_true rfl)⟩ ⟨(Nat.le_of_ble_eq_true rfl), (Nat.le_of_ble_eq_true rfl)⟩ (Nat.le_of_ble_eq_true rfl) rfl dX5_expectNumber_52 (fun S87 H locs hp87 hQ _ => ?_)
      obtain ⟨hI, o87⟩ := hp87
      refine lv_iload_n hx hb dX5_expectNumber_55 rfl (lv_at hl 0 rfl) ?_
      exact xri E hr hlk hQ (⟨hI, (o_trans (o_trans o_refl o71 (by decide)) o87 (by decide))⟩) dX5_expectNumber_56
    · have h88 := ib_ne k84
      have b89 : Bd r72 (1) (1) := rf_nlo b72 (by decide : Bd 0 (0) (0)) h88
      refine lv_iload_n hx hb dX5_expectNumber_44 rfl (lv_at hl 1 rfl) ?_
      exact xri E hr hlk hQ (⟨hI, (o_trans o_refl o71 (by decide)), (ib_wk ba1 (by decide) (by decide))⟩) dX5_expectNumber_45
set_option maxHeartbeats 4000000 in
set_option maxRecDepth 100000 in
theorem gX5_expectNumber_4 (l : Launch) (g : GG) (ad : Nat → Nat) (hD : Dj ad 122) (S : SS) (hI : InvX g ad S) (a1 : Int32) (a2 : Int32) (ba1 : Bd a1 (0) (0)) (ba2 : Bd a2 (3) (3)) : Met l yX5_expectNumber (wG (.code yX5_expectNumber cX5_expectNumber 4 (some .int))) (Rm 2) (XPre g ad 122 S [.ref (ad 94), .int a1, .int a2]) (va_Qi (fun r S' => InvX g ad S' ∧ (∀ j, j ∉ ([94] : List Nat) → S' j = S j) ∧ Bd r (0) (3)) (QB g ad 122) (FA ad 122)) 0 0 (FA ad 122) := by
  refine xmet cX5_expectNumber "EbbWreck$Reader" (by decide) rfl (Nat.le_of_ble_eq_true rfl) (fun p e s m below meth c E hr hlk hml hQ ls hl => ?_)
  have hx := E.1
  have hb := E.2.1
  have hs : Sp ad 122 (FA ad 122) := Sp.fa hD
  have hl : lv_has ls 4 [(0, .ref (ad 94)), (1, .int a1), (2, .int a2)] := hl
  refine lv_aload_n hx hb dX5_expectNumber_0 rfl (lv_at hl 0 rfl) ?_
  obtain ⟨v1, v3, v4, v6, v8, v9, v10, c11, b2, b5, b7⟩ := invX_94 hI
  have c11 : S 94 = .inr (5, [.ref (ad 1), .ref (ad 20), .int v1, .int v3, .int v4, .int v6, .int v8, .int v9, .int v10]) := c11
  refine xget E hQ 94 (by decide) c11 rfl 3 (by decide) q345 rfl dX5_expectNumber_1 ?_
  refine lv_iconst (v := 2) hx hb dX5_expectNumber_4 (by decide) ?_
  refine lv_icmp_eq (tgt := 16) hx hb dX5_expectNumber_5 (by decide) (fun k12 => ?_) (fun k12 => ?_)
  · have h13 := ib_eq k12
    have b14 : Bd v3 (2) (2) := ⟨((rf_eq (ib_full v3) (by decide : Bd 2 (2) (2)) h13).1).1, ((rf_eq (ib_full v3) (by decide : Bd 2 (2) (2)) h13).1).2⟩
    refine lv_aload_n hx hb dX5_expectNumber_16 rfl (lv_at hl 0 rfl) ?_
    refine xget E hQ 94 (by decide) c11 rfl 6 (by decide) q348 rfl dX5_expectNumber_17 ?_
    refine lv_iload_n hx hb dX5_expectNumber_20 rfl (lv_at hl 1 rfl) ?_
    refine lv_icmp_lt (tgt := 32) hx hb dX5_expectNumber_21 (by decide) (fun k15 => ?_) (fun k15 => ?_)
    · have h16 := ib_lt k15
      have b17 : Bd v8 (-2147483648) (-1) := ⟨((ib_full v8)).1, ((rf_lt (ib_full v8) ba1 h16).1).2⟩
      refine lv_aload_n hx hb dX5_expectNumber_32 rfl (lv_at hl 0 rfl) ?_
      refine lv_iconst (v := 2) hx hb dX5_expectNumber_33 (by decide) ?_
      refine xcVv E hs hQ hml hl.1 94 (gX5_fail_94 l g ad hD S hI 2) mX5_fail q679 (by decide) c11 rfl rfl ⟨(Nat.le_of_ble_eq_true rfl), (Nat.le_of_ble_eq_true rfl)⟩ ⟨(Nat.le_of_ble_eq_true rfl), (Nat.le_of_ble_eq_true rfl)⟩ (Nat.le_of_ble_eq_true rfl) rfl dX5_expectNumber_34 (fun S18 H locs hp18 hQ _ => ?_)
      obtain ⟨hI, o18⟩ := hp18
      refine lv_aload_n hx hb dX5_expectNumber_37 rfl (lv_at hl 0 rfl) ?_
      obtain ⟨v20, v22, v23, v25, v27, v28, v29, c30, b21, b24, b26⟩ := invX_94 hI
      have c30 : S18 94 = .inr (5, [.ref (ad 1), .ref (ad 20), .int v20, .int v22, .int v23, .int v25, .int v27, .int v28, .int v29]) := c30
      refine xcVi E hs hQ hml hl.1 94 (gX5_failed_94 l g ad hD S18 hI ) mX5_failed q610 (by decide) c30 rfl rfl ⟨(Nat.le_of_ble_eq_true rfl), (Nat.le_of_ble_eq_true rfl)⟩ ⟨(Nat.le_of_ble_eq_true rfl), (Nat.le_of_ble_eq_true rfl)⟩ (Nat.le_of_ble_eq_true rfl) rfl dX5_expectNumber_38 (fun r19 S19 H locs hp19 hQ _ => ?_)
      obtain ⟨rfl, b19⟩ := hp19
      refine lv_if_eq (tgt := 46) hx hb dX5_expectNumber_41 (by decide) (fun k31 => ?_) (fun k31 => ?_)
      · have h32 := ib_eq k31
        have b33 : Bd r19 (0) (0) := ⟨(b19).1, ((rf_eq b19 (by decide : Bd 0 (0) (0)) h32).1).2⟩
        refine lv_aload_n hx hb dX5_expectNumber_46 rfl (lv_at hl 0 rfl) ?_
        refine xget E hQ 94 (by decide) c30 rfl 6 (by decide) q348 rfl dX5_expectNumber_47 ?_
        refine lv_istore_n (lv' := [(3, .int v27), (0, .ref (ad 94)), (1, .int a1), (2, .int a2)]) hx hb dX5_expectNumber_50 rfl hl (by decide) rfl (fun ls hl => ?_)
        refine lv_aload_n hx hb dX5_expectNumber_51 rfl (lv_at hl 1 rfl) ?_
        refine xcVv E hs hQ hml hl.1 94 (gX5_advance_94 l g ad hD S18 hI ) mX5_advance q598 (by decide) c30 rfl rfl ⟨(Nat.le_of_ble_eq_true rfl), (Nat.le_of_ble_eq_true rfl)⟩ ⟨(Nat.le_of_ble_eq_true rfl), (Nat.le_of_ble_eq_true rfl)⟩ (Nat.le_of_ble_eq_true rfl) rfl dX5_expectNumber_52 (fun S34 H locs hp34 hQ _ => ?_)
        obtain ⟨hI, o34⟩ := hp34
        refine lv_iload_n hx hb dX5_expectNumber_55 rfl (lv_at hl 0 rfl) ?_
        exact xri E hr hlk hQ (⟨hI, (o_trans (o_trans o_refl o18 (by decide)) o34 (by decide))⟩) dX5_expectNumber_56
      · have h35 := ib_ne k31
        have b36 : Bd r19 (1) (1) := rf_nlo b19 (by decide : Bd 0 (0) (0)) h35
        refine lv_iload_n hx hb dX5_expectNumber_44 rfl (lv_at hl 1 rfl) ?_
        exact xri E hr hlk hQ (⟨hI, (o_trans o_refl o18 (by decide)), (ib_wk ba1 (by decide) (by decide))⟩) dX5_expectNumber_45
    · have h37 := ib_nlt k15
      have b38 : Bd v8 (0) (2147483647) := ⟨((rf_le ba1 (ib_full v8) h37).2).1, ((ib_full v8)).2⟩
      refine lv_aload_n hx hb dX5_expectNumber_24 rfl (lv_at hl 0 rfl) ?_
      refine xget E hQ 94 (by decide) c11 rfl 6 (by decide) q348 rfl dX5_expectNumber_25 ?_
      refine lv_iload_n hx hb dX5_expectNumber_28 rfl (lv_at hl 2 rfl) ?_
      refine lv_icmp_le (tgt := 37) hx hb dX5_expectNumber_29 (by decide) (fun k39 => ?_) (fun k39 => ?_)
      · have h40 := ib_le k39
        have b41 : Bd v8 (0) (3) := ⟨(b38).1, ((rf_le b38 ba2 h40).1).2⟩
        refine lv_aload_n hx hb dX5_expectNumber_37 rfl (lv_at hl 0 rfl) ?_
        refine xcVi E hs hQ hml hl.1 94 (gX5_failed_94 l g ad hD S hI ) mX5_failed q610 (by decide) c11 rfl rfl ⟨(Nat.le_of_ble_eq_true rfl), (Nat.le_of_ble_eq_true rfl)⟩ ⟨(Nat.le_of_ble_eq_true rfl), (Nat.le_of_ble_eq_true rfl)⟩ (Nat.le_of_ble_eq_true rfl) rfl dX5_expectNumber_38 (fun r42 S42 H locs hp42 hQ _ => ?_)
        obtain ⟨rfl, b42⟩ := hp42
        refine lv_if_eq (tgt := 46) hx hb dX5_expectNumber_41 (by decide) (fun k43 => ?_) (fun k43 => ?_)
        · have h44 := ib_eq k43
          have b45 : Bd r42 (0) (0) := ⟨(b42).1, ((rf_eq b42 (by decide : Bd 0 (0) (0)) h44).1).2⟩
          refine lv_aload_n hx hb dX5_expectNumber_46 rfl (lv_at hl 0 rfl) ?_
          refine xget E hQ 94 (by decide) c11 rfl 6 (by decide) q348 rfl dX5_expectNumber_47 ?_
          refine lv_istore_n (lv' := [(3, .int v8), (0, .ref (ad 94)), (1, .int a1), (2, .int a2)]) hx hb dX5_expectNumber_50 rfl hl (by decide) rfl (fun ls hl => ?_)
          refine lv_aload_n hx hb dX5_expectNumber_51 rfl (lv_at hl 1 rfl) ?_
          refine xcVv E hs hQ hml hl.1 94 (gX5_advance_94 l g ad hD S hI ) mX5_advance q598 (by decide) c11 rfl rfl ⟨(Nat.le_of_ble_eq_true rfl), (Nat.le_of_ble_eq_true rfl)⟩ ⟨(Nat.le_of_ble_eq_true rfl), (Nat.le_of_ble_eq_true rfl)⟩ (Nat.le_of_ble_eq_true rfl) rfl dX5_expectNumber_52 (fun S46 H locs hp46 hQ _ => ?_)
          obtain ⟨hI, o46⟩ := hp46
          refine lv_iload_n hx hb dX5_expectNumber_55 rfl (lv_at hl 0 rfl) ?_
          exact xri E hr hlk hQ (⟨hI, (o_trans o_refl o46 (by decide)), b41⟩) dX5_expectNumber_56
        · have h47 := ib_ne k43
          have b48 : Bd r42 (1) (1) := rf_nlo b42 (by decide : Bd 0 (0) (0)) h47
          refine lv_iload_n hx hb dX5_expectNumber_44 rfl (lv_at hl 1 rfl) ?_
          exact xri E hr hlk hQ (⟨hI, o_refl, (ib_wk ba1 (by decide) (by decide))⟩) dX5_expectNumber_45
      · have h49 := ib_nle k39
        have b50 : Bd v8 (4) (2147483647) := ⟨((rf_lt ba2 b38 h49).2).1, (b38).2⟩
        refine lv_aload_n hx hb dX5_expectNumber_32 rfl (lv_at hl 0 rfl) ?_
        refine lv_iconst (v := 2) hx hb dX5_expectNumber_33 (by decide) ?_
        refine xcVv E hs hQ hml hl.1 94 (gX5_fail_94 l g ad hD S hI 2) mX5_fail q679 (by decide) c11 rfl rfl ⟨(Nat.le_of_ble_eq_true rfl), (Nat.le_of_ble_eq_true rfl)⟩ ⟨(Nat.le_of_ble_eq_true rfl), (Nat.le_of_ble_eq_true rfl)⟩ (Nat.le_of_ble_eq_true rfl) rfl dX5_expectNumber_34 (fun S51 H locs hp51 hQ _ => ?_)
        obtain ⟨hI, o51⟩ := hp51
        refine lv_aload_n hx hb dX5_expectNumber_37 rfl (lv_at hl 0 rfl) ?_
        obtain ⟨v53, v55, v56, v58, v60, v61, v62, c63, b54, b57, b59⟩ := invX_94 hI
        have c63 : S51 94 = .inr (5, [.ref (ad 1), .ref (ad 20), .int v53, .int v55, .int v56, .int v58, .int v60, .int v61, .int v62]) := c63
        refine xcVi E hs hQ hml hl.1 94 (gX5_failed_94 l g ad hD S51 hI ) mX5_failed q610 (by decide) c63 rfl rfl ⟨(Nat.le_of_ble_eq_true rfl), (Nat.le_of_ble_eq_true rfl)⟩ ⟨(Nat.le_of_ble_eq_true rfl), (Nat.le_of_ble_eq_true rfl)⟩ (Nat.le_of_ble_eq_true rfl) rfl dX5_expectNumber_38 (fun r52 S52 H locs hp52 hQ _ => ?_)
        obtain ⟨rfl, b52⟩ := hp52
        refine lv_if_eq (tgt := 46) hx hb dX5_expectNumber_41 (by decide) (fun k64 => ?_) (fun k64 => ?_)
        · have h65 := ib_eq k64
          have b66 : Bd r52 (0) (0) := ⟨(b52).1, ((rf_eq b52 (by decide : Bd 0 (0) (0)) h65).1).2⟩
          refine lv_aload_n hx hb dX5_expectNumber_46 rfl (lv_at hl 0 rfl) ?_
          refine xget E hQ 94 (by decide) c63 rfl 6 (by decide) q348 rfl dX5_expectNumber_47 ?_
          refine lv_istore_n (lv' := [(3, .int v60), (0, .ref (ad 94)), (1, .int a1), (2, .int a2)]) hx hb dX5_expectNumber_50 rfl hl (by decide) rfl (fun ls hl => ?_)
          refine lv_aload_n hx hb dX5_expectNumber_51 rfl (lv_at hl 1 rfl) ?_
          refine xcVv E hs hQ hml hl.1 94 (gX5_advance_94 l g ad hD S51 hI ) mX5_advance q598 (by decide) c63 rfl rfl ⟨(Nat.le_of_ble_eq_true rfl), (Nat.le_of_ble_eq_true rfl)⟩ ⟨(Nat.le_of_ble_eq_true rfl), (Nat.le_of_ble_eq_true rfl)⟩ (Nat.le_of_ble_eq_true rfl) rfl dX5_expectNumber_52 (fun S67 H locs hp67 hQ _ => ?_)
          obtain ⟨hI, o67⟩ := hp67
          refine lv_iload_n hx hb dX5_expectNumber_55 rfl (lv_at hl 0 rfl) ?_
          exact xri E hr hlk hQ (⟨hI, (o_trans (o_trans o_refl o51 (by decide)) o67 (by decide))⟩) dX5_expectNumber_56
        · have h68 := ib_ne k64
          have b69 : Bd r52 (1) (1) := rf_nlo b52 (by decide : Bd 0 (0) (0)) h68
          refine lv_iload_n hx hb dX5_expectNumber_44 rfl (lv_at hl 1 rfl) ?_
          exact xri E hr hlk hQ (⟨hI, (o_trans o_refl o51 (by decide)), (ib_wk ba1 (by decide) (by decide))⟩) dX5_expectNumber_45
  · have h70 := ib_ne k12
    refine lv_aload_n hx hb dX5_expectNumber_8 rfl (lv_at hl 0 rfl) ?_
    refine lv_iconst (v := 1) hx hb dX5_expectNumber_9 (by decide) ?_
    refine xcVv E hs hQ hml hl.1 94 (gX5_fail_94 l g ad hD S hI 1) mX5_fail q679 (by decide) c11 rfl rfl ⟨(Nat.le_of_ble_eq_true rfl), (Nat.le_of_ble_eq_true rfl)⟩ ⟨(Nat.le_of_ble_eq_true rfl), (Nat.le_of_ble_eq_true rfl)⟩ (Nat.le_of_ble_eq_true rfl) rfl dX5_expectNumber_10 (fun S71 H locs hp71 hQ _ => ?_)
    obtain ⟨hI, o71⟩ := hp71
    refine lv_goto (tgt := 37) hx hb dX5_expectNumber_13 (by decide) ?_
    refine lv_aload_n hx hb dX5_expectNumber_37 rfl (lv_at hl 0 rfl) ?_
    obtain ⟨v73, v75, v76, v78, v80, v81, v82, c83, b74, b77, b79⟩ := invX_94 hI
    have c83 : S71 94 = .inr (5, [.ref (ad 1), .ref (ad 20), .int v73, .int v75, .int v76, .int v78, .int v80, .int v81, .int v82]) := c83
    refine xcVi E hs hQ hml hl.1 94 (gX5_failed_94 l g ad hD S71 hI ) mX5_failed q610 (by decide) c83 rfl rfl ⟨(Nat.le_of_ble_eq_true rfl), (Nat.le_of_ble_eq_true rfl)⟩ ⟨(Nat.le_of_ble_eq_true rfl), (Nat.le_of_ble_eq_true rfl)⟩ (Nat.le_of_ble_eq_true rfl) rfl dX5_expectNumber_38 (fun r72 S72 H locs hp72 hQ _ => ?_)
    obtain ⟨rfl, b72⟩ := hp72
    refine lv_if_eq (tgt := 46) hx hb dX5_expectNumber_41 (by decide) (fun k84 => ?_) (fun k84 => ?_)
    · have h85 := ib_eq k84
      have b86 : Bd r72 (0) (0) := ⟨(b72).1, ((rf_eq b72 (by decide : Bd 0 (0) (0)) h85).1).2⟩
      refine lv_aload_n hx hb dX5_expectNumber_46 rfl (lv_at hl 0 rfl) ?_
      refine xget E hQ 94 (by decide) c83 rfl 6 (by decide) q348 rfl dX5_expectNumber_47 ?_
      refine lv_istore_n (lv' := [(3, .int v80), (0, .ref (ad 94)), (1, .int a1), (2, .int a2)]) hx hb dX5_expectNumber_50 rfl hl (by decide) rfl (fun ls hl => ?_)
      refine lv_aload_n hx hb dX5_expectNumber_51 rfl (lv_at hl 1 rfl) ?_
      refine xcVv E hs hQ hml hl.1 94 (gX5_advance_94 l g ad hD S71 hI ) mX5_advance q598 (by decide) c83 rfl rfl ⟨(Nat.le_of_ble_eq_true rfl), (Nat.le_of_ble_eq_true rfl)⟩ ⟨(Nat.le_of_ble_eq_true rfl), (Nat.le_of_ble_eq_true rfl)⟩ (Nat.le_of_ble_eq_true rfl) rfl dX5_expectNumber_52 (fun S87 H locs hp87 hQ _ => ?_)
      obtain ⟨hI, o87⟩ := hp87
      refine lv_iload_n hx hb dX5_expectNumber_55 rfl (lv_at hl 0 rfl) ?_
      exact xri E hr hlk hQ (⟨hI, (o_trans (o_trans o_refl o71 (by decide)) o87 (by decide))⟩) dX5_expectNumber_56
    · have h88 := ib_ne k84
      have b89 : Bd r72 (1) (1) := rf_nlo b72 (by decide : Bd 0 (0) (0)) h88
      refine lv_iload_n hx hb dX5_expectNumber_44 rfl (lv_at hl 1 rfl) ?_
      exact xri E hr hlk hQ (⟨hI, (o_trans o_refl o71 (by decide)), (ib_wk ba1 (by decide) (by decide))⟩) dX5_expectNumber_45
set_option maxHeartbeats 4000000 in
set_option maxRecDepth 100000 in
theorem gX5_expectNumber_5 (l : Launch) (g : GG) (ad : Nat → Nat) (hD : Dj ad 122) (S : SS) (hI : InvX g ad S) (a1 : Int32) (a2 : Int32) (ba1 : Bd a1 (0) (0)) (ba2 : Bd a2 (999) (999)) : Met l yX5_expectNumber (wG (.code yX5_expectNumber cX5_expectNumber 4 (some .int))) (Rm 2) (XPre g ad 122 S [.ref (ad 94), .int a1, .int a2]) (va_Qi (fun r S' => InvX g ad S' ∧ (∀ j, j ∉ ([94] : List Nat) → S' j = S j) ∧ Bd r (0) (999)) (QB g ad 122) (FA ad 122)) 0 0 (FA ad 122) := by
  refine xmet cX5_expectNumber "EbbWreck$Reader" (by decide) rfl (Nat.le_of_ble_eq_true rfl) (fun p e s m below meth c E hr hlk hml hQ ls hl => ?_)
  have hx := E.1
  have hb := E.2.1
  have hs : Sp ad 122 (FA ad 122) := Sp.fa hD
  have hl : lv_has ls 4 [(0, .ref (ad 94)), (1, .int a1), (2, .int a2)] := hl
  refine lv_aload_n hx hb dX5_expectNumber_0 rfl (lv_at hl 0 rfl) ?_
  obtain ⟨v1, v3, v4, v6, v8, v9, v10, c11, b2, b5, b7⟩ := invX_94 hI
  have c11 : S 94 = .inr (5, [.ref (ad 1), .ref (ad 20), .int v1, .int v3, .int v4, .int v6, .int v8, .int v9, .int v10]) := c11
  refine xget E hQ 94 (by decide) c11 rfl 3 (by decide) q345 rfl dX5_expectNumber_1 ?_
  refine lv_iconst (v := 2) hx hb dX5_expectNumber_4 (by decide) ?_
  refine lv_icmp_eq (tgt := 16) hx hb dX5_expectNumber_5 (by decide) (fun k12 => ?_) (fun k12 => ?_)
  · have h13 := ib_eq k12
    have b14 : Bd v3 (2) (2) := ⟨((rf_eq (ib_full v3) (by decide : Bd 2 (2) (2)) h13).1).1, ((rf_eq (ib_full v3) (by decide : Bd 2 (2) (2)) h13).1).2⟩
    refine lv_aload_n hx hb dX5_expectNumber_16 rfl (lv_at hl 0 rfl) ?_
    refine xget E hQ 94 (by decide) c11 rfl 6 (by decide) q348 rfl dX5_expectNumber_17 ?_
    refine lv_iload_n hx hb dX5_expectNumber_20 rfl (lv_at hl 1 rfl) ?_
    refine lv_icmp_lt (tgt := 32) hx hb dX5_expectNumber_21 (by decide) (fun k15 => ?_) (fun k15 => ?_)
    · have h16 := ib_lt k15
      have b17 : Bd v8 (-2147483648) (-1) := ⟨((ib_full v8)).1, ((rf_lt (ib_full v8) ba1 h16).1).2⟩
      refine lv_aload_n hx hb dX5_expectNumber_32 rfl (lv_at hl 0 rfl) ?_
      refine lv_iconst (v := 2) hx hb dX5_expectNumber_33 (by decide) ?_
      refine xcVv E hs hQ hml hl.1 94 (gX5_fail_94 l g ad hD S hI 2) mX5_fail q679 (by decide) c11 rfl rfl ⟨(Nat.le_of_ble_eq_true rfl), (Nat.le_of_ble_eq_true rfl)⟩ ⟨(Nat.le_of_ble_eq_true rfl), (Nat.le_of_ble_eq_true rfl)⟩ (Nat.le_of_ble_eq_true rfl) rfl dX5_expectNumber_34 (fun S18 H locs hp18 hQ _ => ?_)
      obtain ⟨hI, o18⟩ := hp18
      refine lv_aload_n hx hb dX5_expectNumber_37 rfl (lv_at hl 0 rfl) ?_
      obtain ⟨v20, v22, v23, v25, v27, v28, v29, c30, b21, b24, b26⟩ := invX_94 hI
      have c30 : S18 94 = .inr (5, [.ref (ad 1), .ref (ad 20), .int v20, .int v22, .int v23, .int v25, .int v27, .int v28, .int v29]) := c30
      refine xcVi E hs hQ hml hl.1 94 (gX5_failed_94 l g ad hD S18 hI ) mX5_failed q610 (by decide) c30 rfl rfl ⟨(Nat.le_of_ble_eq_true rfl), (Nat.le_of_ble_eq_true rfl)⟩ ⟨(Nat.le_of_ble_eq_true rfl), (Nat.le_of_ble_eq_true rfl)⟩ (Nat.le_of_ble_eq_true rfl) rfl dX5_expectNumber_38 (fun r19 S19 H locs hp19 hQ _ => ?_)
      obtain ⟨rfl, b19⟩ := hp19
      refine lv_if_eq (tgt := 46) hx hb dX5_expectNumber_41 (by decide) (fun k31 => ?_) (fun k31 => ?_)
      · have h32 := ib_eq k31
        have b33 : Bd r19 (0) (0) := ⟨(b19).1, ((rf_eq b19 (by decide : Bd 0 (0) (0)) h32).1).2⟩
        refine lv_aload_n hx hb dX5_expectNumber_46 rfl (lv_at hl 0 rfl) ?_
        refine xget E hQ 94 (by decide) c30 rfl 6 (by decide) q348 rfl dX5_expectNumber_47 ?_
        refine lv_istore_n (lv' := [(3, .int v27), (0, .ref (ad 94)), (1, .int a1), (2, .int a2)]) hx hb dX5_expectNumber_50 rfl hl (by decide) rfl (fun ls hl => ?_)
        refine lv_aload_n hx hb dX5_expectNumber_51 rfl (lv_at hl 1 rfl) ?_
        refine xcVv E hs hQ hml hl.1 94 (gX5_advance_94 l g ad hD S18 hI ) mX5_advance q598 (by decide) c30 rfl rfl ⟨(Nat.le_of_ble_eq_true rfl), (Nat.le_of_ble_eq_true rfl)⟩ ⟨(Nat.le_of_ble_eq_true rfl), (Nat.le_of_ble_eq_true rfl)⟩ (Nat.le_of_ble_eq_true rfl) rfl dX5_expectNumber_52 (fun S34 H locs hp34 hQ _ => ?_)
        obtain ⟨hI, o34⟩ := hp34
        refine lv_iload_n hx hb dX5_expectNumber_55 rfl (lv_at hl 0 rfl) ?_
        exact xri E hr hlk hQ (⟨hI, (o_trans (o_trans o_refl o18 (by decide)) o34 (by decide))⟩) dX5_expectNumber_56
      · have h35 := ib_ne k31
        have b36 : Bd r19 (1) (1) := rf_nlo b19 (by decide : Bd 0 (0) (0)) h35
        refine lv_iload_n hx hb dX5_expectNumber_44 rfl (lv_at hl 1 rfl) ?_
        exact xri E hr hlk hQ (⟨hI, (o_trans o_refl o18 (by decide)), (ib_wk ba1 (by decide) (by decide))⟩) dX5_expectNumber_45
    · have h37 := ib_nlt k15
      have b38 : Bd v8 (0) (2147483647) := ⟨((rf_le ba1 (ib_full v8) h37).2).1, ((ib_full v8)).2⟩
      refine lv_aload_n hx hb dX5_expectNumber_24 rfl (lv_at hl 0 rfl) ?_
      refine xget E hQ 94 (by decide) c11 rfl 6 (by decide) q348 rfl dX5_expectNumber_25 ?_
      refine lv_iload_n hx hb dX5_expectNumber_28 rfl (lv_at hl 2 rfl) ?_
      refine lv_icmp_le (tgt := 37) hx hb dX5_expectNumber_29 (by decide) (fun k39 => ?_) (fun k39 => ?_)
      · have h40 := ib_le k39
        have b41 : Bd v8 (0) (999) := ⟨(b38).1, ((rf_le b38 ba2 h40).1).2⟩
        refine lv_aload_n hx hb dX5_expectNumber_37 rfl (lv_at hl 0 rfl) ?_
        refine xcVi E hs hQ hml hl.1 94 (gX5_failed_94 l g ad hD S hI ) mX5_failed q610 (by decide) c11 rfl rfl ⟨(Nat.le_of_ble_eq_true rfl), (Nat.le_of_ble_eq_true rfl)⟩ ⟨(Nat.le_of_ble_eq_true rfl), (Nat.le_of_ble_eq_true rfl)⟩ (Nat.le_of_ble_eq_true rfl) rfl dX5_expectNumber_38 (fun r42 S42 H locs hp42 hQ _ => ?_)
        obtain ⟨rfl, b42⟩ := hp42
        refine lv_if_eq (tgt := 46) hx hb dX5_expectNumber_41 (by decide) (fun k43 => ?_) (fun k43 => ?_)
        · have h44 := ib_eq k43
          have b45 : Bd r42 (0) (0) := ⟨(b42).1, ((rf_eq b42 (by decide : Bd 0 (0) (0)) h44).1).2⟩
          refine lv_aload_n hx hb dX5_expectNumber_46 rfl (lv_at hl 0 rfl) ?_
          refine xget E hQ 94 (by decide) c11 rfl 6 (by decide) q348 rfl dX5_expectNumber_47 ?_
          refine lv_istore_n (lv' := [(3, .int v8), (0, .ref (ad 94)), (1, .int a1), (2, .int a2)]) hx hb dX5_expectNumber_50 rfl hl (by decide) rfl (fun ls hl => ?_)
          refine lv_aload_n hx hb dX5_expectNumber_51 rfl (lv_at hl 1 rfl) ?_
          refine xcVv E hs hQ hml hl.1 94 (gX5_advance_94 l g ad hD S hI ) mX5_advance q598 (by decide) c11 rfl rfl ⟨(Nat.le_of_ble_eq_true rfl), (Nat.le_of_ble_eq_true rfl)⟩ ⟨(Nat.le_of_ble_eq_true rfl), (Nat.le_of_ble_eq_true rfl)⟩ (Nat.le_of_ble_eq_true rfl) rfl dX5_expectNumber_52 (fun S46 H locs hp46 hQ _ => ?_)
          obtain ⟨hI, o46⟩ := hp46
          refine lv_iload_n hx hb dX5_expectNumber_55 rfl (lv_at hl 0 rfl) ?_
          exact xri E hr hlk hQ (⟨hI, (o_trans o_refl o46 (by decide)), b41⟩) dX5_expectNumber_56
        · have h47 := ib_ne k43
          have b48 : Bd r42 (1) (1) := rf_nlo b42 (by decide : Bd 0 (0) (0)) h47
          refine lv_iload_n hx hb dX5_expectNumber_44 rfl (lv_at hl 1 rfl) ?_
          exact xri E hr hlk hQ (⟨hI, o_refl, (ib_wk ba1 (by decide) (by decide))⟩) dX5_expectNumber_45
      · have h49 := ib_nle k39
        have b50 : Bd v8 (1000) (2147483647) := ⟨((rf_lt ba2 b38 h49).2).1, (b38).2⟩
        refine lv_aload_n hx hb dX5_expectNumber_32 rfl (lv_at hl 0 rfl) ?_
        refine lv_iconst (v := 2) hx hb dX5_expectNumber_33 (by decide) ?_
        refine xcVv E hs hQ hml hl.1 94 (gX5_fail_94 l g ad hD S hI 2) mX5_fail q679 (by decide) c11 rfl rfl ⟨(Nat.le_of_ble_eq_true rfl), (Nat.le_of_ble_eq_true rfl)⟩ ⟨(Nat.le_of_ble_eq_true rfl), (Nat.le_of_ble_eq_true rfl)⟩ (Nat.le_of_ble_eq_true rfl) rfl dX5_expectNumber_34 (fun S51 H locs hp51 hQ _ => ?_)
        obtain ⟨hI, o51⟩ := hp51
        refine lv_aload_n hx hb dX5_expectNumber_37 rfl (lv_at hl 0 rfl) ?_
        obtain ⟨v53, v55, v56, v58, v60, v61, v62, c63, b54, b57, b59⟩ := invX_94 hI
        have c63 : S51 94 = .inr (5, [.ref (ad 1), .ref (ad 20), .int v53, .int v55, .int v56, .int v58, .int v60, .int v61, .int v62]) := c63
        refine xcVi E hs hQ hml hl.1 94 (gX5_failed_94 l g ad hD S51 hI ) mX5_failed q610 (by decide) c63 rfl rfl ⟨(Nat.le_of_ble_eq_true rfl), (Nat.le_of_ble_eq_true rfl)⟩ ⟨(Nat.le_of_ble_eq_true rfl), (Nat.le_of_ble_eq_true rfl)⟩ (Nat.le_of_ble_eq_true rfl) rfl dX5_expectNumber_38 (fun r52 S52 H locs hp52 hQ _ => ?_)
        obtain ⟨rfl, b52⟩ := hp52
        refine lv_if_eq (tgt := 46) hx hb dX5_expectNumber_41 (by decide) (fun k64 => ?_) (fun k64 => ?_)
        · have h65 := ib_eq k64
          have b66 : Bd r52 (0) (0) := ⟨(b52).1, ((rf_eq b52 (by decide : Bd 0 (0) (0)) h65).1).2⟩
          refine lv_aload_n hx hb dX5_expectNumber_46 rfl (lv_at hl 0 rfl) ?_
          refine xget E hQ 94 (by decide) c63 rfl 6 (by decide) q348 rfl dX5_expectNumber_47 ?_
          refine lv_istore_n (lv' := [(3, .int v60), (0, .ref (ad 94)), (1, .int a1), (2, .int a2)]) hx hb dX5_expectNumber_50 rfl hl (by decide) rfl (fun ls hl => ?_)
          refine lv_aload_n hx hb dX5_expectNumber_51 rfl (lv_at hl 1 rfl) ?_
          refine xcVv E hs hQ hml hl.1 94 (gX5_advance_94 l g ad hD S51 hI ) mX5_advance q598 (by decide) c63 rfl rfl ⟨(Nat.le_of_ble_eq_true rfl), (Nat.le_of_ble_eq_true rfl)⟩ ⟨(Nat.le_of_ble_eq_true rfl), (Nat.le_of_ble_eq_true rfl)⟩ (Nat.le_of_ble_eq_true rfl) rfl dX5_expectNumber_52 (fun S67 H locs hp67 hQ _ => ?_)
          obtain ⟨hI, o67⟩ := hp67
          refine lv_iload_n hx hb dX5_expectNumber_55 rfl (lv_at hl 0 rfl) ?_
          exact xri E hr hlk hQ (⟨hI, (o_trans (o_trans o_refl o51 (by decide)) o67 (by decide))⟩) dX5_expectNumber_56
        · have h68 := ib_ne k64
          have b69 : Bd r52 (1) (1) := rf_nlo b52 (by decide : Bd 0 (0) (0)) h68
          refine lv_iload_n hx hb dX5_expectNumber_44 rfl (lv_at hl 1 rfl) ?_
          exact xri E hr hlk hQ (⟨hI, (o_trans o_refl o51 (by decide)), (ib_wk ba1 (by decide) (by decide))⟩) dX5_expectNumber_45
  · have h70 := ib_ne k12
    refine lv_aload_n hx hb dX5_expectNumber_8 rfl (lv_at hl 0 rfl) ?_
    refine lv_iconst (v := 1) hx hb dX5_expectNumber_9 (by decide) ?_
    refine xcVv E hs hQ hml hl.1 94 (gX5_fail_94 l g ad hD S hI 1) mX5_fail q679 (by decide) c11 rfl rfl ⟨(Nat.le_of_ble_eq_true rfl), (Nat.le_of_ble_eq_true rfl)⟩ ⟨(Nat.le_of_ble_eq_true rfl), (Nat.le_of_ble_eq_true rfl)⟩ (Nat.le_of_ble_eq_true rfl) rfl dX5_expectNumber_10 (fun S71 H locs hp71 hQ _ => ?_)
    obtain ⟨hI, o71⟩ := hp71
    refine lv_goto (tgt := 37) hx hb dX5_expectNumber_13 (by decide) ?_
    refine lv_aload_n hx hb dX5_expectNumber_37 rfl (lv_at hl 0 rfl) ?_
    obtain ⟨v73, v75, v76, v78, v80, v81, v82, c83, b74, b77, b79⟩ := invX_94 hI
    have c83 : S71 94 = .inr (5, [.ref (ad 1), .ref (ad 20), .int v73, .int v75, .int v76, .int v78, .int v80, .int v81, .int v82]) := c83
    refine xcVi E hs hQ hml hl.1 94 (gX5_failed_94 l g ad hD S71 hI ) mX5_failed q610 (by decide) c83 rfl rfl ⟨(Nat.le_of_ble_eq_true rfl), (Nat.le_of_ble_eq_true rfl)⟩ ⟨(Nat.le_of_ble_eq_true rfl), (Nat.le_of_ble_eq_true rfl)⟩ (Nat.le_of_ble_eq_true rfl) rfl dX5_expectNumber_38 (fun r72 S72 H locs hp72 hQ _ => ?_)
    obtain ⟨rfl, b72⟩ := hp72
    refine lv_if_eq (tgt := 46) hx hb dX5_expectNumber_41 (by decide) (fun k84 => ?_) (fun k84 => ?_)
    · have h85 := ib_eq k84
      have b86 : Bd r72 (0) (0) := ⟨(b72).1, ((rf_eq b72 (by decide : Bd 0 (0) (0)) h85).1).2⟩
      refine lv_aload_n hx hb dX5_expectNumber_46 rfl (lv_at hl 0 rfl) ?_
      refine xget E hQ 94 (by decide) c83 rfl 6 (by decide) q348 rfl dX5_expectNumber_47 ?_
      refine lv_istore_n (lv' := [(3, .int v80), (0, .ref (ad 94)), (1, .int a1), (2, .int a2)]) hx hb dX5_expectNumber_50 rfl hl (by decide) rfl (fun ls hl => ?_)
      refine lv_aload_n hx hb dX5_expectNumber_51 rfl (lv_at hl 1 rfl) ?_
      refine xcVv E hs hQ hml hl.1 94 (gX5_advance_94 l g ad hD S71 hI ) mX5_advance q598 (by decide) c83 rfl rfl ⟨(Nat.le_of_ble_eq_true rfl), (Nat.le_of_ble_eq_true rfl)⟩ ⟨(Nat.le_of_ble_eq_true rfl), (Nat.le_of_ble_eq_true rfl)⟩ (Nat.le_of_ble_eq_true rfl) rfl dX5_expectNumber_52 (fun S87 H locs hp87 hQ _ => ?_)
      obtain ⟨hI, o87⟩ := hp87
      refine lv_iload_n hx hb dX5_expectNumber_55 rfl (lv_at hl 0 rfl) ?_
      exact xri E hr hlk hQ (⟨hI, (o_trans (o_trans o_refl o71 (by decide)) o87 (by decide))⟩) dX5_expectNumber_56
    · have h88 := ib_ne k84
      have b89 : Bd r72 (1) (1) := rf_nlo b72 (by decide : Bd 0 (0) (0)) h88
      refine lv_iload_n hx hb dX5_expectNumber_44 rfl (lv_at hl 1 rfl) ?_
      exact xri E hr hlk hQ (⟨hI, (o_trans o_refl o71 (by decide)), (ib_wk ba1 (by decide) (by decide))⟩) dX5_expectNumber_45
set_option maxHeartbeats 4000000 in
set_option maxRecDepth 100000 in
theorem gX5_expectNumber_6 (l : Launch) (g : GG) (ad : Nat → Nat) (hD : Dj ad 122) (S : SS) (hI : InvX g ad S) (a1 : Int32) (a2 : Int32) (ba1 : Bd a1 (0) (0)) (ba2 : Bd a2 (99) (99)) : Met l yX5_expectNumber (wG (.code yX5_expectNumber cX5_expectNumber 4 (some .int))) (Rm 2) (XPre g ad 122 S [.ref (ad 94), .int a1, .int a2]) (va_Qi (fun r S' => InvX g ad S' ∧ (∀ j, j ∉ ([94] : List Nat) → S' j = S j) ∧ Bd r (0) (99)) (QB g ad 122) (FA ad 122)) 0 0 (FA ad 122) := by
  refine xmet cX5_expectNumber "EbbWreck$Reader" (by decide) rfl (Nat.le_of_ble_eq_true rfl) (fun p e s m below meth c E hr hlk hml hQ ls hl => ?_)
  have hx := E.1
  have hb := E.2.1
  have hs : Sp ad 122 (FA ad 122) := Sp.fa hD
  have hl : lv_has ls 4 [(0, .ref (ad 94)), (1, .int a1), (2, .int a2)] := hl
  refine lv_aload_n hx hb dX5_expectNumber_0 rfl (lv_at hl 0 rfl) ?_
  obtain ⟨v1, v3, v4, v6, v8, v9, v10, c11, b2, b5, b7⟩ := invX_94 hI
  have c11 : S 94 = .inr (5, [.ref (ad 1), .ref (ad 20), .int v1, .int v3, .int v4, .int v6, .int v8, .int v9, .int v10]) := c11
  refine xget E hQ 94 (by decide) c11 rfl 3 (by decide) q345 rfl dX5_expectNumber_1 ?_
  refine lv_iconst (v := 2) hx hb dX5_expectNumber_4 (by decide) ?_
  refine lv_icmp_eq (tgt := 16) hx hb dX5_expectNumber_5 (by decide) (fun k12 => ?_) (fun k12 => ?_)
  · have h13 := ib_eq k12
    have b14 : Bd v3 (2) (2) := ⟨((rf_eq (ib_full v3) (by decide : Bd 2 (2) (2)) h13).1).1, ((rf_eq (ib_full v3) (by decide : Bd 2 (2) (2)) h13).1).2⟩
    refine lv_aload_n hx hb dX5_expectNumber_16 rfl (lv_at hl 0 rfl) ?_
    refine xget E hQ 94 (by decide) c11 rfl 6 (by decide) q348 rfl dX5_expectNumber_17 ?_
    refine lv_iload_n hx hb dX5_expectNumber_20 rfl (lv_at hl 1 rfl) ?_
    refine lv_icmp_lt (tgt := 32) hx hb dX5_expectNumber_21 (by decide) (fun k15 => ?_) (fun k15 => ?_)
    · have h16 := ib_lt k15
      have b17 : Bd v8 (-2147483648) (-1) := ⟨((ib_full v8)).1, ((rf_lt (ib_full v8) ba1 h16).1).2⟩
      refine lv_aload_n hx hb dX5_expectNumber_32 rfl (lv_at hl 0 rfl) ?_
      refine lv_iconst (v := 2) hx hb dX5_expectNumber_33 (by decide) ?_
      refine xcVv E hs hQ hml hl.1 94 (gX5_fail_94 l g ad hD S hI 2) mX5_fail q679 (by decide) c11 rfl rfl ⟨(Nat.le_of_ble_eq_true rfl), (Nat.le_of_ble_eq_true rfl)⟩ ⟨(Nat.le_of_ble_eq_true rfl), (Nat.le_of_ble_eq_true rfl)⟩ (Nat.le_of_ble_eq_true rfl) rfl dX5_expectNumber_34 (fun S18 H locs hp18 hQ _ => ?_)
      obtain ⟨hI, o18⟩ := hp18
      refine lv_aload_n hx hb dX5_expectNumber_37 rfl (lv_at hl 0 rfl) ?_
      obtain ⟨v20, v22, v23, v25, v27, v28, v29, c30, b21, b24, b26⟩ := invX_94 hI
      have c30 : S18 94 = .inr (5, [.ref (ad 1), .ref (ad 20), .int v20, .int v22, .int v23, .int v25, .int v27, .int v28, .int v29]) := c30
      refine xcVi E hs hQ hml hl.1 94 (gX5_failed_94 l g ad hD S18 hI ) mX5_failed q610 (by decide) c30 rfl rfl ⟨(Nat.le_of_ble_eq_true rfl), (Nat.le_of_ble_eq_true rfl)⟩ ⟨(Nat.le_of_ble_eq_true rfl), (Nat.le_of_ble_eq_true rfl)⟩ (Nat.le_of_ble_eq_true rfl) rfl dX5_expectNumber_38 (fun r19 S19 H locs hp19 hQ _ => ?_)
      obtain ⟨rfl, b19⟩ := hp19
      refine lv_if_eq (tgt := 46) hx hb dX5_expectNumber_41 (by decide) (fun k31 => ?_) (fun k31 => ?_)
      · have h32 := ib_eq k31
        have b33 : Bd r19 (0) (0) := ⟨(b19).1, ((rf_eq b19 (by decide : Bd 0 (0) (0)) h32).1).2⟩
        refine lv_aload_n hx hb dX5_expectNumber_46 rfl (lv_at hl 0 rfl) ?_
        refine xget E hQ 94 (by decide) c30 rfl 6 (by decide) q348 rfl dX5_expectNumber_47 ?_
        refine lv_istore_n (lv' := [(3, .int v27), (0, .ref (ad 94)), (1, .int a1), (2, .int a2)]) hx hb dX5_expectNumber_50 rfl hl (by decide) rfl (fun ls hl => ?_)
        refine lv_aload_n hx hb dX5_expectNumber_51 rfl (lv_at hl 1 rfl) ?_
        refine xcVv E hs hQ hml hl.1 94 (gX5_advance_94 l g ad hD S18 hI ) mX5_advance q598 (by decide) c30 rfl rfl ⟨(Nat.le_of_ble_eq_true rfl), (Nat.le_of_ble_eq_true rfl)⟩ ⟨(Nat.le_of_ble_eq_true rfl), (Nat.le_of_ble_eq_true rfl)⟩ (Nat.le_of_ble_eq_true rfl) rfl dX5_expectNumber_52 (fun S34 H locs hp34 hQ _ => ?_)
        obtain ⟨hI, o34⟩ := hp34
        refine lv_iload_n hx hb dX5_expectNumber_55 rfl (lv_at hl 0 rfl) ?_
        exact xri E hr hlk hQ (⟨hI, (o_trans (o_trans o_refl o18 (by decide)) o34 (by decide))⟩) dX5_expectNumber_56
      · have h35 := ib_ne k31
        have b36 : Bd r19 (1) (1) := rf_nlo b19 (by decide : Bd 0 (0) (0)) h35
        refine lv_iload_n hx hb dX5_expectNumber_44 rfl (lv_at hl 1 rfl) ?_
        exact xri E hr hlk hQ (⟨hI, (o_trans o_refl o18 (by decide)), (ib_wk ba1 (by decide) (by decide))⟩) dX5_expectNumber_45
    · have h37 := ib_nlt k15
      have b38 : Bd v8 (0) (2147483647) := ⟨((rf_le ba1 (ib_full v8) h37).2).1, ((ib_full v8)).2⟩
      refine lv_aload_n hx hb dX5_expectNumber_24 rfl (lv_at hl 0 rfl) ?_
      refine xget E hQ 94 (by decide) c11 rfl 6 (by decide) q348 rfl dX5_expectNumber_25 ?_
      refine lv_iload_n hx hb dX5_expectNumber_28 rfl (lv_at hl 2 rfl) ?_
      refine lv_icmp_le (tgt := 37) hx hb dX5_expectNumber_29 (by decide) (fun k39 => ?_) (fun k39 => ?_)
      · have h40 := ib_le k39
        have b41 : Bd v8 (0) (99) := ⟨(b38).1, ((rf_le b38 ba2 h40).1).2⟩
        refine lv_aload_n hx hb dX5_expectNumber_37 rfl (lv_at hl 0 rfl) ?_
        refine xcVi E hs hQ hml hl.1 94 (gX5_failed_94 l g ad hD S hI ) mX5_failed q610 (by decide) c11 rfl rfl ⟨(Nat.le_of_ble_eq_true rfl), (Nat.le_of_ble_eq_true rfl)⟩ ⟨(Nat.le_of_ble_eq_true rfl), (Nat.le_of_ble_eq_true rfl)⟩ (Nat.le_of_ble_eq_true rfl) rfl dX5_expectNumber_38 (fun r42 S42 H locs hp42 hQ _ => ?_)
        obtain ⟨rfl, b42⟩ := hp42
        refine lv_if_eq (tgt := 46) hx hb dX5_expectNumber_41 (by decide) (fun k43 => ?_) (fun k43 => ?_)
        · have h44 := ib_eq k43
          have b45 : Bd r42 (0) (0) := ⟨(b42).1, ((rf_eq b42 (by decide : Bd 0 (0) (0)) h44).1).2⟩
          refine lv_aload_n hx hb dX5_expectNumber_46 rfl (lv_at hl 0 rfl) ?_
          refine xget E hQ 94 (by decide) c11 rfl 6 (by decide) q348 rfl dX5_expectNumber_47 ?_
          refine lv_istore_n (lv' := [(3, .int v8), (0, .ref (ad 94)), (1, .int a1), (2, .int a2)]) hx hb dX5_expectNumber_50 rfl hl (by decide) rfl (fun ls hl => ?_)
          refine lv_aload_n hx hb dX5_expectNumber_51 rfl (lv_at hl 1 rfl) ?_
          refine xcVv E hs hQ hml hl.1 94 (gX5_advance_94 l g ad hD S hI ) mX5_advance q598 (by decide) c11 rfl rfl ⟨(Nat.le_of_ble_eq_true rfl), (Nat.le_of_ble_eq_true rfl)⟩ ⟨(Nat.le_of_ble_eq_true rfl), (Nat.le_of_ble_eq_true rfl)⟩ (Nat.le_of_ble_eq_true rfl) rfl dX5_expectNumber_52 (fun S46 H locs hp46 hQ _ => ?_)
          obtain ⟨hI, o46⟩ := hp46
          refine lv_iload_n hx hb dX5_expectNumber_55 rfl (lv_at hl 0 rfl) ?_
          exact xri E hr hlk hQ (⟨hI, (o_trans o_refl o46 (by decide)), b41⟩) dX5_expectNumber_56
        · have h47 := ib_ne k43
          have b48 : Bd r42 (1) (1) := rf_nlo b42 (by decide : Bd 0 (0) (0)) h47
          refine lv_iload_n hx hb dX5_expectNumber_44 rfl (lv_at hl 1 rfl) ?_
          exact xri E hr hlk hQ (⟨hI, o_refl, (ib_wk ba1 (by decide) (by decide))⟩) dX5_expectNumber_45
      · have h49 := ib_nle k39
        have b50 : Bd v8 (100) (2147483647) := ⟨((rf_lt ba2 b38 h49).2).1, (b38).2⟩
        refine lv_aload_n hx hb dX5_expectNumber_32 rfl (lv_at hl 0 rfl) ?_
        refine lv_iconst (v := 2) hx hb dX5_expectNumber_33 (by decide) ?_
        refine xcVv E hs hQ hml hl.1 94 (gX5_fail_94 l g ad hD S hI 2) mX5_fail q679 (by decide) c11 rfl rfl ⟨(Nat.le_of_ble_eq_true rfl), (Nat.le_of_ble_eq_true rfl)⟩ ⟨(Nat.le_of_ble_eq_true rfl), (Nat.le_of_ble_eq_true rfl)⟩ (Nat.le_of_ble_eq_true rfl) rfl dX5_expectNumber_34 (fun S51 H locs hp51 hQ _ => ?_)
        obtain ⟨hI, o51⟩ := hp51
        refine lv_aload_n hx hb dX5_expectNumber_37 rfl (lv_at hl 0 rfl) ?_
        obtain ⟨v53, v55, v56, v58, v60, v61, v62, c63, b54, b57, b59⟩ := invX_94 hI
        have c63 : S51 94 = .inr (5, [.ref (ad 1), .ref (ad 20), .int v53, .int v55, .int v56, .int v58, .int v60, .int v61, .int v62]) := c63
        refine xcVi E hs hQ hml hl.1 94 (gX5_failed_94 l g ad hD S51 hI ) mX5_failed q610 (by decide) c63 rfl rfl ⟨(Nat.le_of_ble_eq_true rfl), (Nat.le_of_ble_eq_true rfl)⟩ ⟨(Nat.le_of_ble_eq_true rfl), (Nat.le_of_ble_eq_true rfl)⟩ (Nat.le_of_ble_eq_true rfl) rfl dX5_expectNumber_38 (fun r52 S52 H locs hp52 hQ _ => ?_)
        obtain ⟨rfl, b52⟩ := hp52
        refine lv_if_eq (tgt := 46) hx hb dX5_expectNumber_41 (by decide) (fun k64 => ?_) (fun k64 => ?_)
        · have h65 := ib_eq k64
          have b66 : Bd r52 (0) (0) := ⟨(b52).1, ((rf_eq b52 (by decide : Bd 0 (0) (0)) h65).1).2⟩
          refine lv_aload_n hx hb dX5_expectNumber_46 rfl (lv_at hl 0 rfl) ?_
          refine xget E hQ 94 (by decide) c63 rfl 6 (by decide) q348 rfl dX5_expectNumber_47 ?_
          refine lv_istore_n (lv' := [(3, .int v60), (0, .ref (ad 94)), (1, .int a1), (2, .int a2)]) hx hb dX5_expectNumber_50 rfl hl (by decide) rfl (fun ls hl => ?_)
          refine lv_aload_n hx hb dX5_expectNumber_51 rfl (lv_at hl 1 rfl) ?_
          refine xcVv E hs hQ hml hl.1 94 (gX5_advance_94 l g ad hD S51 hI ) mX5_advance q598 (by decide) c63 rfl rfl ⟨(Nat.le_of_ble_eq_true rfl), (Nat.le_of_ble_eq_true rfl)⟩ ⟨(Nat.le_of_ble_eq_true rfl), (Nat.le_of_ble_eq_true rfl)⟩ (Nat.le_of_ble_eq_true rfl) rfl dX5_expectNumber_52 (fun S67 H locs hp67 hQ _ => ?_)
          obtain ⟨hI, o67⟩ := hp67
          refine lv_iload_n hx hb dX5_expectNumber_55 rfl (lv_at hl 0 rfl) ?_
          exact xri E hr hlk hQ (⟨hI, (o_trans (o_trans o_refl o51 (by decide)) o67 (by decide))⟩) dX5_expectNumber_56
        · have h68 := ib_ne k64
          have b69 : Bd r52 (1) (1) := rf_nlo b52 (by decide : Bd 0 (0) (0)) h68
          refine lv_iload_n hx hb dX5_expectNumber_44 rfl (lv_at hl 1 rfl) ?_
          exact xri E hr hlk hQ (⟨hI, (o_trans o_refl o51 (by decide)), (ib_wk ba1 (by decide) (by decide))⟩) dX5_expectNumber_45
  · have h70 := ib_ne k12
    refine lv_aload_n hx hb dX5_expectNumber_8 rfl (lv_at hl 0 rfl) ?_
    refine lv_iconst (v := 1) hx hb dX5_expectNumber_9 (by decide) ?_
    refine xcVv E hs hQ hml hl.1 94 (gX5_fail_94 l g ad hD S hI 1) mX5_fail q679 (by decide) c11 rfl rfl ⟨(Nat.le_of_ble_eq_true rfl), (Nat.le_of_ble_eq_true rfl)⟩ ⟨(Nat.le_of_ble_eq_true rfl), (Nat.le_of_ble_eq_true rfl)⟩ (Nat.le_of_ble_eq_true rfl) rfl dX5_expectNumber_10 (fun S71 H locs hp71 hQ _ => ?_)
    obtain ⟨hI, o71⟩ := hp71
    refine lv_goto (tgt := 37) hx hb dX5_expectNumber_13 (by decide) ?_
    refine lv_aload_n hx hb dX5_expectNumber_37 rfl (lv_at hl 0 rfl) ?_
    obtain ⟨v73, v75, v76, v78, v80, v81, v82, c83, b74, b77, b79⟩ := invX_94 hI
    have c83 : S71 94 = .inr (5, [.ref (ad 1), .ref (ad 20), .int v73, .int v75, .int v76, .int v78, .int v80, .int v81, .int v82]) := c83
    refine xcVi E hs hQ hml hl.1 94 (gX5_failed_94 l g ad hD S71 hI ) mX5_failed q610 (by decide) c83 rfl rfl ⟨(Nat.le_of_ble_eq_true rfl), (Nat.le_of_ble_eq_true rfl)⟩ ⟨(Nat.le_of_ble_eq_true rfl), (Nat.le_of_ble_eq_true rfl)⟩ (Nat.le_of_ble_eq_true rfl) rfl dX5_expectNumber_38 (fun r72 S72 H locs hp72 hQ _ => ?_)
    obtain ⟨rfl, b72⟩ := hp72
    refine lv_if_eq (tgt := 46) hx hb dX5_expectNumber_41 (by decide) (fun k84 => ?_) (fun k84 => ?_)
    · have h85 := ib_eq k84
      have b86 : Bd r72 (0) (0) := ⟨(b72).1, ((rf_eq b72 (by decide : Bd 0 (0) (0)) h85).1).2⟩
      refine lv_aload_n hx hb dX5_expectNumber_46 rfl (lv_at hl 0 rfl) ?_
      refine xget E hQ 94 (by decide) c83 rfl 6 (by decide) q348 rfl dX5_expectNumber_47 ?_
      refine lv_istore_n (lv' := [(3, .int v80), (0, .ref (ad 94)), (1, .int a1), (2, .int a2)]) hx hb dX5_expectNumber_50 rfl hl (by decide) rfl (fun ls hl => ?_)
      refine lv_aload_n hx hb dX5_expectNumber_51 rfl (lv_at hl 1 rfl) ?_
      refine xcVv E hs hQ hml hl.1 94 (gX5_advance_94 l g ad hD S71 hI ) mX5_advance q598 (by decide) c83 rfl rfl ⟨(Nat.le_of_ble_eq_true rfl), (Nat.le_of_ble_eq_true rfl)⟩ ⟨(Nat.le_of_ble_eq_true rfl), (Nat.le_of_ble_eq_true rfl)⟩ (Nat.le_of_ble_eq_true rfl) rfl dX5_expectNumber_52 (fun S87 H locs hp87 hQ _ => ?_)
      obtain ⟨hI, o87⟩ := hp87
      refine lv_iload_n hx hb dX5_expectNumber_55 rfl (lv_at hl 0 rfl) ?_
      exact xri E hr hlk hQ (⟨hI, (o_trans (o_trans o_refl o71 (by decide)) o87 (by decide))⟩) dX5_expectNumber_56
    · have h88 := ib_ne k84
      have b89 : Bd r72 (1) (1) := rf_nlo b72 (by decide : Bd 0 (0) (0)) h88
      refine lv_iload_n hx hb dX5_expectNumber_44 rfl (lv_at hl 1 rfl) ?_
      exact xri E hr hlk hQ (⟨hI, (o_trans o_refl o71 (by decide)), (ib_wk ba1 (by decide) (by decide))⟩) dX5_expectNumber_45
set_option maxHeartbeats 4000000 in
set_option maxRecDepth 100000 in
theorem gX5_expectNumber_7 (l : Launch) (g : GG) (ad : Nat → Nat) (hD : Dj ad 122) (S : SS) (hI : InvX g ad S) (a1 : Int32) (a2 : Int32) (ba1 : Bd a1 (0) (0)) (ba2 : Bd a2 (5) (5)) : Met l yX5_expectNumber (wG (.code yX5_expectNumber cX5_expectNumber 4 (some .int))) (Rm 2) (XPre g ad 122 S [.ref (ad 94), .int a1, .int a2]) (va_Qi (fun r S' => InvX g ad S' ∧ (∀ j, j ∉ ([94] : List Nat) → S' j = S j) ∧ Bd r (0) (5)) (QB g ad 122) (FA ad 122)) 0 0 (FA ad 122) := by
  refine xmet cX5_expectNumber "EbbWreck$Reader" (by decide) rfl (Nat.le_of_ble_eq_true rfl) (fun p e s m below meth c E hr hlk hml hQ ls hl => ?_)
  have hx := E.1
  have hb := E.2.1
  have hs : Sp ad 122 (FA ad 122) := Sp.fa hD
  have hl : lv_has ls 4 [(0, .ref (ad 94)), (1, .int a1), (2, .int a2)] := hl
  refine lv_aload_n hx hb dX5_expectNumber_0 rfl (lv_at hl 0 rfl) ?_
  obtain ⟨v1, v3, v4, v6, v8, v9, v10, c11, b2, b5, b7⟩ := invX_94 hI
  have c11 : S 94 = .inr (5, [.ref (ad 1), .ref (ad 20), .int v1, .int v3, .int v4, .int v6, .int v8, .int v9, .int v10]) := c11
  refine xget E hQ 94 (by decide) c11 rfl 3 (by decide) q345 rfl dX5_expectNumber_1 ?_
  refine lv_iconst (v := 2) hx hb dX5_expectNumber_4 (by decide) ?_
  refine lv_icmp_eq (tgt := 16) hx hb dX5_expectNumber_5 (by decide) (fun k12 => ?_) (fun k12 => ?_)
  · have h13 := ib_eq k12
    have b14 : Bd v3 (2) (2) := ⟨((rf_eq (ib_full v3) (by decide : Bd 2 (2) (2)) h13).1).1, ((rf_eq (ib_full v3) (by decide : Bd 2 (2) (2)) h13).1).2⟩
    refine lv_aload_n hx hb dX5_expectNumber_16 rfl (lv_at hl 0 rfl) ?_
    refine xget E hQ 94 (by decide) c11 rfl 6 (by decide) q348 rfl dX5_expectNumber_17 ?_
    refine lv_iload_n hx hb dX5_expectNumber_20 rfl (lv_at hl 1 rfl) ?_
    refine lv_icmp_lt (tgt := 32) hx hb dX5_expectNumber_21 (by decide) (fun k15 => ?_) (fun k15 => ?_)
    · have h16 := ib_lt k15
      have b17 : Bd v8 (-2147483648) (-1) := ⟨((ib_full v8)).1, ((rf_lt (ib_full v8) ba1 h16).1).2⟩
      refine lv_aload_n hx hb dX5_expectNumber_32 rfl (lv_at hl 0 rfl) ?_
      refine lv_iconst (v := 2) hx hb dX5_expectNumber_33 (by decide) ?_
      refine xcVv E hs hQ hml hl.1 94 (gX5_fail_94 l g ad hD S hI 2) mX5_fail q679 (by decide) c11 rfl rfl ⟨(Nat.le_of_ble_eq_true rfl), (Nat.le_of_ble_eq_true rfl)⟩ ⟨(Nat.le_of_ble_eq_true rfl), (Nat.le_of_ble_eq_true rfl)⟩ (Nat.le_of_ble_eq_true rfl) rfl dX5_expectNumber_34 (fun S18 H locs hp18 hQ _ => ?_)
      obtain ⟨hI, o18⟩ := hp18
      refine lv_aload_n hx hb dX5_expectNumber_37 rfl (lv_at hl 0 rfl) ?_
      obtain ⟨v20, v22, v23, v25, v27, v28, v29, c30, b21, b24, b26⟩ := invX_94 hI
      have c30 : S18 94 = .inr (5, [.ref (ad 1), .ref (ad 20), .int v20, .int v22, .int v23, .int v25, .int v27, .int v28, .int v29]) := c30
      refine xcVi E hs hQ hml hl.1 94 (gX5_failed_94 l g ad hD S18 hI ) mX5_failed q610 (by decide) c30 rfl rfl ⟨(Nat.le_of_ble_eq_true rfl), (Nat.le_of_ble_eq_true rfl)⟩ ⟨(Nat.le_of_ble_eq_true rfl), (Nat.le_of_ble_eq_true rfl)⟩ (Nat.le_of_ble_eq_true rfl) rfl dX5_expectNumber_38 (fun r19 S19 H locs hp19 hQ _ => ?_)
      obtain ⟨rfl, b19⟩ := hp19
      refine lv_if_eq (tgt := 46) hx hb dX5_expectNumber_41 (by decide) (fun k31 => ?_) (fun k31 => ?_)
      · have h32 := ib_eq k31
        have b33 : Bd r19 (0) (0) := ⟨(b19).1, ((rf_eq b19 (by decide : Bd 0 (0) (0)) h32).1).2⟩
        refine lv_aload_n hx hb dX5_expectNumber_46 rfl (lv_at hl 0 rfl) ?_
        refine xget E hQ 94 (by decide) c30 rfl 6 (by decide) q348 rfl dX5_expectNumber_47 ?_
        refine lv_istore_n (lv' := [(3, .int v27), (0, .ref (ad 94)), (1, .int a1), (2, .int a2)]) hx hb dX5_expectNumber_50 rfl hl (by decide) rfl (fun ls hl => ?_)
        refine lv_aload_n hx hb dX5_expectNumber_51 rfl (lv_at hl 1 rfl) ?_
        refine xcVv E hs hQ hml hl.1 94 (gX5_advance_94 l g ad hD S18 hI ) mX5_advance q598 (by decide) c30 rfl rfl ⟨(Nat.le_of_ble_eq_true rfl), (Nat.le_of_ble_eq_true rfl)⟩ ⟨(Nat.le_of_ble_eq_true rfl), (Nat.le_of_ble_eq_true rfl)⟩ (Nat.le_of_ble_eq_true rfl) rfl dX5_expectNumber_52 (fun S34 H locs hp34 hQ _ => ?_)
        obtain ⟨hI, o34⟩ := hp34
        refine lv_iload_n hx hb dX5_expectNumber_55 rfl (lv_at hl 0 rfl) ?_
        exact xri E hr hlk hQ (⟨hI, (o_trans (o_trans o_refl o18 (by decide)) o34 (by decide))⟩) dX5_expectNumber_56
      · have h35 := ib_ne k31
        have b36 : Bd r19 (1) (1) := rf_nlo b19 (by decide : Bd 0 (0) (0)) h35
        refine lv_iload_n hx hb dX5_expectNumber_44 rfl (lv_at hl 1 rfl) ?_
        exact xri E hr hlk hQ (⟨hI, (o_trans o_refl o18 (by decide)), (ib_wk ba1 (by decide) (by decide))⟩) dX5_expectNumber_45
    · have h37 := ib_nlt k15
      have b38 : Bd v8 (0) (2147483647) := ⟨((rf_le ba1 (ib_full v8) h37).2).1, ((ib_full v8)).2⟩
      refine lv_aload_n hx hb dX5_expectNumber_24 rfl (lv_at hl 0 rfl) ?_
      refine xget E hQ 94 (by decide) c11 rfl 6 (by decide) q348 rfl dX5_expectNumber_25 ?_
      refine lv_iload_n hx hb dX5_expectNumber_28 rfl (lv_at hl 2 rfl) ?_
      refine lv_icmp_le (tgt := 37) hx hb dX5_expectNumber_29 (by decide) (fun k39 => ?_) (fun k39 => ?_)
      · have h40 := ib_le k39
        have b41 : Bd v8 (0) (5) := ⟨(b38).1, ((rf_le b38 ba2 h40).1).2⟩
        refine lv_aload_n hx hb dX5_expectNumber_37 rfl (lv_at hl 0 rfl) ?_
        refine xcVi E hs hQ hml hl.1 94 (gX5_failed_94 l g ad hD S hI ) mX5_failed q610 (by decide) c11 rfl rfl ⟨(Nat.le_of_ble_eq_true rfl), (Nat.le_of_ble_eq_true rfl)⟩ ⟨(Nat.le_of_ble_eq_true rfl), (Nat.le_of_ble_eq_true rfl)⟩ (Nat.le_of_ble_eq_true rfl) rfl dX5_expectNumber_38 (fun r42 S42 H locs hp42 hQ _ => ?_)
        obtain ⟨rfl, b42⟩ := hp42
        refine lv_if_eq (tgt := 46) hx hb dX5_expectNumber_41 (by decide) (fun k43 => ?_) (fun k43 => ?_)
        · have h44 := ib_eq k43
          have b45 : Bd r42 (0) (0) := ⟨(b42).1, ((rf_eq b42 (by decide : Bd 0 (0) (0)) h44).1).2⟩
          refine lv_aload_n hx hb dX5_expectNumber_46 rfl (lv_at hl 0 rfl) ?_
          refine xget E hQ 94 (by decide) c11 rfl 6 (by decide) q348 rfl dX5_expectNumber_47 ?_
          refine lv_istore_n (lv' := [(3, .int v8), (0, .ref (ad 94)), (1, .int a1), (2, .int a2)]) hx hb dX5_expectNumber_50 rfl hl (by decide) rfl (fun ls hl => ?_)
          refine lv_aload_n hx hb dX5_expectNumber_51 rfl (lv_at hl 1 rfl) ?_
          refine xcVv E hs hQ hml hl.1 94 (gX5_advance_94 l g ad hD S hI ) mX5_advance q598 (by decide) c11 rfl rfl ⟨(Nat.le_of_ble_eq_true rfl), (Nat.le_of_ble_eq_true rfl)⟩ ⟨(Nat.le_of_ble_eq_true rfl), (Nat.le_of_ble_eq_true rfl)⟩ (Nat.le_of_ble_eq_true rfl) rfl dX5_expectNumber_52 (fun S46 H locs hp46 hQ _ => ?_)
          obtain ⟨hI, o46⟩ := hp46
          refine lv_iload_n hx hb dX5_expectNumber_55 rfl (lv_at hl 0 rfl) ?_
          exact xri E hr hlk hQ (⟨hI, (o_trans o_refl o46 (by decide)), b41⟩) dX5_expectNumber_56
        · have h47 := ib_ne k43
          have b48 : Bd r42 (1) (1) := rf_nlo b42 (by decide : Bd 0 (0) (0)) h47
          refine lv_iload_n hx hb dX5_expectNumber_44 rfl (lv_at hl 1 rfl) ?_
          exact xri E hr hlk hQ (⟨hI, o_refl, (ib_wk ba1 (by decide) (by decide))⟩) dX5_expectNumber_45
      · have h49 := ib_nle k39
        have b50 : Bd v8 (6) (2147483647) := ⟨((rf_lt ba2 b38 h49).2).1, (b38).2⟩
        refine lv_aload_n hx hb dX5_expectNumber_32 rfl (lv_at hl 0 rfl) ?_
        refine lv_iconst (v := 2) hx hb dX5_expectNumber_33 (by decide) ?_
        refine xcVv E hs hQ hml hl.1 94 (gX5_fail_94 l g ad hD S hI 2) mX5_fail q679 (by decide) c11 rfl rfl ⟨(Nat.le_of_ble_eq_true rfl), (Nat.le_of_ble_eq_true rfl)⟩ ⟨(Nat.le_of_ble_eq_true rfl), (Nat.le_of_ble_eq_true rfl)⟩ (Nat.le_of_ble_eq_true rfl) rfl dX5_expectNumber_34 (fun S51 H locs hp51 hQ _ => ?_)
        obtain ⟨hI, o51⟩ := hp51
        refine lv_aload_n hx hb dX5_expectNumber_37 rfl (lv_at hl 0 rfl) ?_
        obtain ⟨v53, v55, v56, v58, v60, v61, v62, c63, b54, b57, b59⟩ := invX_94 hI
        have c63 : S51 94 = .inr (5, [.ref (ad 1), .ref (ad 20), .int v53, .int v55, .int v56, .int v58, .int v60, .int v61, .int v62]) := c63
        refine xcVi E hs hQ hml hl.1 94 (gX5_failed_94 l g ad hD S51 hI ) mX5_failed q610 (by decide) c63 rfl rfl ⟨(Nat.le_of_ble_eq_true rfl), (Nat.le_of_ble_eq_true rfl)⟩ ⟨(Nat.le_of_ble_eq_true rfl), (Nat.le_of_ble_eq_true rfl)⟩ (Nat.le_of_ble_eq_true rfl) rfl dX5_expectNumber_38 (fun r52 S52 H locs hp52 hQ _ => ?_)
        obtain ⟨rfl, b52⟩ := hp52
        refine lv_if_eq (tgt := 46) hx hb dX5_expectNumber_41 (by decide) (fun k64 => ?_) (fun k64 => ?_)
        · have h65 := ib_eq k64
          have b66 : Bd r52 (0) (0) := ⟨(b52).1, ((rf_eq b52 (by decide : Bd 0 (0) (0)) h65).1).2⟩
          refine lv_aload_n hx hb dX5_expectNumber_46 rfl (lv_at hl 0 rfl) ?_
          refine xget E hQ 94 (by decide) c63 rfl 6 (by decide) q348 rfl dX5_expectNumber_47 ?_
          refine lv_istore_n (lv' := [(3, .int v60), (0, .ref (ad 94)), (1, .int a1), (2, .int a2)]) hx hb dX5_expectNumber_50 rfl hl (by decide) rfl (fun ls hl => ?_)
          refine lv_aload_n hx hb dX5_expectNumber_51 rfl (lv_at hl 1 rfl) ?_
          refine xcVv E hs hQ hml hl.1 94 (gX5_advance_94 l g ad hD S51 hI ) mX5_advance q598 (by decide) c63 rfl rfl ⟨(Nat.le_of_ble_eq_true rfl), (Nat.le_of_ble_eq_true rfl)⟩ ⟨(Nat.le_of_ble_eq_true rfl), (Nat.le_of_ble_eq_true rfl)⟩ (Nat.le_of_ble_eq_true rfl) rfl dX5_expectNumber_52 (fun S67 H locs hp67 hQ _ => ?_)
          obtain ⟨hI, o67⟩ := hp67
          refine lv_iload_n hx hb dX5_expectNumber_55 rfl (lv_at hl 0 rfl) ?_
          exact xri E hr hlk hQ (⟨hI, (o_trans (o_trans o_refl o51 (by decide)) o67 (by decide))⟩) dX5_expectNumber_56
        · have h68 := ib_ne k64
          have b69 : Bd r52 (1) (1) := rf_nlo b52 (by decide : Bd 0 (0) (0)) h68
          refine lv_iload_n hx hb dX5_expectNumber_44 rfl (lv_at hl 1 rfl) ?_
          exact xri E hr hlk hQ (⟨hI, (o_trans o_refl o51 (by decide)), (ib_wk ba1 (by decide) (by decide))⟩) dX5_expectNumber_45
  · have h70 := ib_ne k12
    refine lv_aload_n hx hb dX5_expectNumber_8 rfl (lv_at hl 0 rfl) ?_
    refine lv_iconst (v := 1) hx hb dX5_expectNumber_9 (by decide) ?_
    refine xcVv E hs hQ hml hl.1 94 (gX5_fail_94 l g ad hD S hI 1) mX5_fail q679 (by decide) c11 rfl rfl ⟨(Nat.le_of_ble_eq_true rfl), (Nat.le_of_ble_eq_true rfl)⟩ ⟨(Nat.le_of_ble_eq_true rfl), (Nat.le_of_ble_eq_true rfl)⟩ (Nat.le_of_ble_eq_true rfl) rfl dX5_expectNumber_10 (fun S71 H locs hp71 hQ _ => ?_)
    obtain ⟨hI, o71⟩ := hp71
    refine lv_goto (tgt := 37) hx hb dX5_expectNumber_13 (by decide) ?_
    refine lv_aload_n hx hb dX5_expectNumber_37 rfl (lv_at hl 0 rfl) ?_
    obtain ⟨v73, v75, v76, v78, v80, v81, v82, c83, b74, b77, b79⟩ := invX_94 hI
    have c83 : S71 94 = .inr (5, [.ref (ad 1), .ref (ad 20), .int v73, .int v75, .int v76, .int v78, .int v80, .int v81, .int v82]) := c83
    refine xcVi E hs hQ hml hl.1 94 (gX5_failed_94 l g ad hD S71 hI ) mX5_failed q610 (by decide) c83 rfl rfl ⟨(Nat.le_of_ble_eq_true rfl), (Nat.le_of_ble_eq_true rfl)⟩ ⟨(Nat.le_of_ble_eq_true rfl), (Nat.le_of_ble_eq_true rfl)⟩ (Nat.le_of_ble_eq_true rfl) rfl dX5_expectNumber_38 (fun r72 S72 H locs hp72 hQ _ => ?_)
    obtain ⟨rfl, b72⟩ := hp72
    refine lv_if_eq (tgt := 46) hx hb dX5_expectNumber_41 (by decide) (fun k84 => ?_) (fun k84 => ?_)
    · have h85 := ib_eq k84
      have b86 : Bd r72 (0) (0) := ⟨(b72).1, ((rf_eq b72 (by decide : Bd 0 (0) (0)) h85).1).2⟩
      refine lv_aload_n hx hb dX5_expectNumber_46 rfl (lv_at hl 0 rfl) ?_
      refine xget E hQ 94 (by decide) c83 rfl 6 (by decide) q348 rfl dX5_expectNumber_47 ?_
      refine lv_istore_n (lv' := [(3, .int v80), (0, .ref (ad 94)), (1, .int a1), (2, .int a2)]) hx hb dX5_expectNumber_50 rfl hl (by decide) rfl (fun ls hl => ?_)
      refine lv_aload_n hx hb dX5_expectNumber_51 rfl (lv_at hl 1 rfl) ?_
      refine xcVv E hs hQ hml hl.1 94 (gX5_advance_94 l g ad hD S71 hI ) mX5_advance q598 (by decide) c83 rfl rfl ⟨(Nat.le_of_ble_eq_true rfl), (Nat.le_of_ble_eq_true rfl)⟩ ⟨(Nat.le_of_ble_eq_true rfl), (Nat.le_of_ble_eq_true rfl)⟩ (Nat.le_of_ble_eq_true rfl) rfl dX5_expectNumber_52 (fun S87 H locs hp87 hQ _ => ?_)
      obtain ⟨hI, o87⟩ := hp87
      refine lv_iload_n hx hb dX5_expectNumber_55 rfl (lv_at hl 0 rfl) ?_
      exact xri E hr hlk hQ (⟨hI, (o_trans (o_trans o_refl o71 (by decide)) o87 (by decide))⟩) dX5_expectNumber_56
    · have h88 := ib_ne k84
      have b89 : Bd r72 (1) (1) := rf_nlo b72 (by decide : Bd 0 (0) (0)) h88
      refine lv_iload_n hx hb dX5_expectNumber_44 rfl (lv_at hl 1 rfl) ?_
      exact xri E hr hlk hQ (⟨hI, (o_trans o_refl o71 (by decide)), (ib_wk ba1 (by decide) (by decide))⟩) dX5_expectNumber_45
set_option maxHeartbeats 4000000 in
set_option maxRecDepth 100000 in
theorem gX5_expectNumber_8 (l : Launch) (g : GG) (ad : Nat → Nat) (hD : Dj ad 122) (S : SS) (hI : InvX g ad S) (a1 : Int32) (a2 : Int32) (ba1 : Bd a1 (0) (0)) (ba2 : Bd a2 (-1) (11)) : Met l yX5_expectNumber (wG (.code yX5_expectNumber cX5_expectNumber 4 (some .int))) (Rm 2) (XPre g ad 122 S [.ref (ad 94), .int a1, .int a2]) (va_Qi (fun r S' => InvX g ad S' ∧ (∀ j, j ∉ ([94] : List Nat) → S' j = S j) ∧ Bd r (0) (11)) (QB g ad 122) (FA ad 122)) 0 0 (FA ad 122) := by
  refine xmet cX5_expectNumber "EbbWreck$Reader" (by decide) rfl (Nat.le_of_ble_eq_true rfl) (fun p e s m below meth c E hr hlk hml hQ ls hl => ?_)
  have hx := E.1
  have hb := E.2.1
  have hs : Sp ad 122 (FA ad 122) := Sp.fa hD
  have hl : lv_has ls 4 [(0, .ref (ad 94)), (1, .int a1), (2, .int a2)] := hl
  refine lv_aload_n hx hb dX5_expectNumber_0 rfl (lv_at hl 0 rfl) ?_
  obtain ⟨v1, v3, v4, v6, v8, v9, v10, c11, b2, b5, b7⟩ := invX_94 hI
  have c11 : S 94 = .inr (5, [.ref (ad 1), .ref (ad 20), .int v1, .int v3, .int v4, .int v6, .int v8, .int v9, .int v10]) := c11
  refine xget E hQ 94 (by decide) c11 rfl 3 (by decide) q345 rfl dX5_expectNumber_1 ?_
  refine lv_iconst (v := 2) hx hb dX5_expectNumber_4 (by decide) ?_
  refine lv_icmp_eq (tgt := 16) hx hb dX5_expectNumber_5 (by decide) (fun k12 => ?_) (fun k12 => ?_)
  · have h13 := ib_eq k12
    have b14 : Bd v3 (2) (2) := ⟨((rf_eq (ib_full v3) (by decide : Bd 2 (2) (2)) h13).1).1, ((rf_eq (ib_full v3) (by decide : Bd 2 (2) (2)) h13).1).2⟩
    refine lv_aload_n hx hb dX5_expectNumber_16 rfl (lv_at hl 0 rfl) ?_
    refine xget E hQ 94 (by decide) c11 rfl 6 (by decide) q348 rfl dX5_expectNumber_17 ?_
    refine lv_iload_n hx hb dX5_expectNumber_20 rfl (lv_at hl 1 rfl) ?_
    refine lv_icmp_lt (tgt := 32) hx hb dX5_expectNumber_21 (by decide) (fun k15 => ?_) (fun k15 => ?_)
    · have h16 := ib_lt k15
      have b17 : Bd v8 (-2147483648) (-1) := ⟨((ib_full v8)).1, ((rf_lt (ib_full v8) ba1 h16).1).2⟩
      refine lv_aload_n hx hb dX5_expectNumber_32 rfl (lv_at hl 0 rfl) ?_
      refine lv_iconst (v := 2) hx hb dX5_expectNumber_33 (by decide) ?_
      refine xcVv E hs hQ hml hl.1 94 (gX5_fail_94 l g ad hD S hI 2) mX5_fail q679 (by decide) c11 rfl rfl ⟨(Nat.le_of_ble_eq_true rfl), (Nat.le_of_ble_eq_true rfl)⟩ ⟨(Nat.le_of_ble_eq_true rfl), (Nat.le_of_ble_eq_true rfl)⟩ (Nat.le_of_ble_eq_true rfl) rfl dX5_expectNumber_34 (fun S18 H locs hp18 hQ _ => ?_)
      obtain ⟨hI, o18⟩ := hp18
      refine lv_aload_n hx hb dX5_expectNumber_37 rfl (lv_at hl 0 rfl) ?_
      obtain ⟨v20, v22, v23, v25, v27, v28, v29, c30, b21, b24, b26⟩ := invX_94 hI
      have c30 : S18 94 = .inr (5, [.ref (ad 1), .ref (ad 20), .int v20, .int v22, .int v23, .int v25, .int v27, .int v28, .int v29]) := c30
      refine xcVi E hs hQ hml hl.1 94 (gX5_failed_94 l g ad hD S18 hI ) mX5_failed q610 (by decide) c30 rfl rfl ⟨(Nat.le_of_ble_eq_true rfl), (Nat.le_of_ble_eq_true rfl)⟩ ⟨(Nat.le_of_ble_eq_true rfl), (Nat.le_of_ble_eq_true rfl)⟩ (Nat.le_of_ble_eq_true rfl) rfl dX5_expectNumber_38 (fun r19 S19 H locs hp19 hQ _ => ?_)
      obtain ⟨rfl, b19⟩ := hp19
      refine lv_if_eq (tgt := 46) hx hb dX5_expectNumber_41 (by decide) (fun k31 => ?_) (fun k31 => ?_)
      · have h32 := ib_eq k31
        have b33 : Bd r19 (0) (0) := ⟨(b19).1, ((rf_eq b19 (by decide : Bd 0 (0) (0)) h32).1).2⟩
        refine lv_aload_n hx hb dX5_expectNumber_46 rfl (lv_at hl 0 rfl) ?_
        refine xget E hQ 94 (by decide) c30 rfl 6 (by decide) q348 rfl dX5_expectNumber_47 ?_
        refine lv_istore_n (lv' := [(3, .int v27), (0, .ref (ad 94)), (1, .int a1), (2, .int a2)]) hx hb dX5_expectNumber_50 rfl hl (by decide) rfl (fun ls hl => ?_)
        refine lv_aload_n hx hb dX5_expectNumber_51 rfl (lv_at hl 1 rfl) ?_
        refine xcVv E hs hQ hml hl.1 94 (gX5_advance_94 l g ad hD S18 hI ) mX5_advance q598 (by decide) c30 rfl rfl ⟨(Nat.le_of_ble_eq_true rfl), (Nat.le_of_ble_eq_true rfl)⟩ ⟨(Nat.le_of_ble_eq_true rfl), (Nat.le_of_ble_eq_true rfl)⟩ (Nat.le_of_ble_eq_true rfl) rfl dX5_expectNumber_52 (fun S34 H locs hp34 hQ _ => ?_)
        obtain ⟨hI, o34⟩ := hp34
        refine lv_iload_n hx hb dX5_expectNumber_55 rfl (lv_at hl 0 rfl) ?_
        exact xri E hr hlk hQ (⟨hI, (o_trans (o_trans o_refl o18 (by decide)) o34 (by decide))⟩) dX5_expectNumber_56
      · have h35 := ib_ne k31
        have b36 : Bd r19 (1) (1) := rf_nlo b19 (by decide : Bd 0 (0) (0)) h35
        refine lv_iload_n hx hb dX5_expectNumber_44 rfl (lv_at hl 1 rfl) ?_
        exact xri E hr hlk hQ (⟨hI, (o_trans o_refl o18 (by decide)), (ib_wk ba1 (by decide) (by decide))⟩) dX5_expectNumber_45
    · have h37 := ib_nlt k15
      have b38 : Bd v8 (0) (2147483647) := ⟨((rf_le ba1 (ib_full v8) h37).2).1, ((ib_full v8)).2⟩
      refine lv_aload_n hx hb dX5_expectNumber_24 rfl (lv_at hl 0 rfl) ?_
      refine xget E hQ 94 (by decide) c11 rfl 6 (by decide) q348 rfl dX5_expectNumber_25 ?_
      refine lv_iload_n hx hb dX5_expectNumber_28 rfl (lv_at hl 2 rfl) ?_
      refine lv_icmp_le (tgt := 37) hx hb dX5_expectNumber_29 (by decide) (fun k39 => ?_) (fun k39 => ?_)
      · have h40 := ib_le k39
        have b41 : Bd v8 (0) (11) := ⟨(b38).1, ((rf_le b38 ba2 h40).1).2⟩
        have b42 : Bd a2 (0) (11) := ⟨((rf_le b38 ba2 h40).2).1, (ba2).2⟩
        refine lv_aload_n hx hb dX5_expectNumber_37 rfl (lv_at hl 0 rfl) ?_
        refine xcVi E hs hQ hml hl.1 94 (gX5_failed_94 l g ad hD S hI ) mX5_failed q610 (by decide) c11 rfl rfl ⟨(Nat.le_of_ble_eq_true rfl), (Nat.le_of_ble_eq_true rfl)⟩ ⟨(Nat.le_of_ble_eq_true rfl), (Nat.le_of_ble_eq_true rfl)⟩ (Nat.le_of_ble_eq_true rfl) rfl dX5_expectNumber_38 (fun r43 S43 H locs hp43 hQ _ => ?_)
        obtain ⟨rfl, b43⟩ := hp43
        refine lv_if_eq (tgt := 46) hx hb dX5_expectNumber_41 (by decide) (fun k44 => ?_) (fun k44 => ?_)
        · have h45 := ib_eq k44
          have b46 : Bd r43 (0) (0) := ⟨(b43).1, ((rf_eq b43 (by decide : Bd 0 (0) (0)) h45).1).2⟩
          refine lv_aload_n hx hb dX5_expectNumber_46 rfl (lv_at hl 0 rfl) ?_
          refine xget E hQ 94 (by decide) c11 rfl 6 (by decide) q348 rfl dX5_expectNumber_47 ?_
          refine lv_istore_n (lv' := [(3, .int v8), (0, .ref (ad 94)), (1, .int a1), (2, .int a2)]) hx hb dX5_expectNumber_50 rfl hl (by decide) rfl (fun ls hl => ?_)
          refine lv_aload_n hx hb dX5_expectNumber_51 rfl (lv_at hl 1 rfl) ?_
          refine xcVv E hs hQ hml hl.1 94 (gX5_advance_94 l g ad hD S hI ) mX5_advance q598 (by decide) c11 rfl rfl ⟨(Nat.le_of_ble_eq_true rfl), (Nat.le_of_ble_eq_true rfl)⟩ ⟨(Nat.le_of_ble_eq_true rfl), (Nat.le_of_ble_eq_true rfl)⟩ (Nat.le_of_ble_eq_true rfl) rfl dX5_expectNumber_52 (fun S47 H locs hp47 hQ _ => ?_)
          obtain ⟨hI, o47⟩ := hp47
          refine lv_iload_n hx hb dX5_expectNumber_55 rfl (lv_at hl 0 rfl) ?_
          exact xri E hr hlk hQ (⟨hI, (o_trans o_refl o47 (by decide)), b41⟩) dX5_expectNumber_56
        · have h48 := ib_ne k44
          have b49 : Bd r43 (1) (1) := rf_nlo b43 (by decide : Bd 0 (0) (0)) h48
          refine lv_iload_n hx hb dX5_expectNumber_44 rfl (lv_at hl 1 rfl) ?_
          exact xri E hr hlk hQ (⟨hI, o_refl, (ib_wk ba1 (by decide) (by decide))⟩) dX5_expectNumber_45
      · have h50 := ib_nle k39
        refine lv_aload_n hx hb dX5_expectNumber_32 rfl (lv_at hl 0 rfl) ?_
        refine lv_iconst (v := 2) hx hb dX5_expectNumber_33 (by decide) ?_
        refine xcVv E hs hQ hml hl.1 94 (gX5_fail_94 l g ad hD S hI 2) mX5_fail q679 (by decide) c11 rfl rfl ⟨(Nat.le_of_ble_eq_true rfl), (Nat.le_of_ble_eq_true rfl)⟩ ⟨(Nat.le_of_ble_eq_true rfl), (Nat.le_of_ble_eq_true rfl)⟩ (Nat.le_of_ble_eq_true rfl) rfl dX5_expectNumber_34 (fun S51 H locs hp51 hQ _ => ?_)
        obtain ⟨hI, o51⟩ := hp51
        refine lv_aload_n hx hb dX5_expectNumber_37 rfl (lv_at hl 0 rfl) ?_
        obtain ⟨v53, v55, v56, v58, v60, v61, v62, c63, b54, b57, b59⟩ := invX_94 hI
        have c63 : S51 94 = .inr (5, [.ref (ad 1), .ref (ad 20), .int v53, .int v55, .int v56, .int v58, .int v60, .int v61, .int v62]) := c63
        refine xcVi E hs hQ hml hl.1 94 (gX5_failed_94 l g ad hD S51 hI ) mX5_failed q610 (by decide) c63 rfl rfl ⟨(Nat.le_of_ble_eq_true rfl), (Nat.le_of_ble_eq_true rfl)⟩ ⟨(Nat.le_of_ble_eq_true rfl), (Nat.le_of_ble_eq_true rfl)⟩ (Nat.le_of_ble_eq_true rfl) rfl dX5_expectNumber_38 (fun r52 S52 H locs hp52 hQ _ => ?_)
        obtain ⟨rfl, b52⟩ := hp52
        refine lv_if_eq (tgt := 46) hx hb dX5_expectNumber_41 (by decide) (fun k64 => ?_) (fun k64 => ?_)
        · have h65 := ib_eq k64
          have b66 : Bd r52 (0) (0) := ⟨(b52).1, ((rf_eq b52 (by decide : Bd 0 (0) (0)) h65).1).2⟩
          refine lv_aload_n hx hb dX5_expectNumber_46 rfl (lv_at hl 0 rfl) ?_
          refine xget E hQ 94 (by decide) c63 rfl 6 (by decide) q348 rfl dX5_expectNumber_47 ?_
          refine lv_istore_n (lv' := [(3, .int v60), (0, .ref (ad 94)), (1, .int a1), (2, .int a2)]) hx hb dX5_expectNumber_50 rfl hl (by decide) rfl (fun ls hl => ?_)
          refine lv_aload_n hx hb dX5_expectNumber_51 rfl (lv_at hl 1 rfl) ?_
          refine xcVv E hs hQ hml hl.1 94 (gX5_advance_94 l g ad hD S51 hI ) mX5_advance q598 (by decide) c63 rfl rfl ⟨(Nat.le_of_ble_eq_true rfl), (Nat.le_of_ble_eq_true rfl)⟩ ⟨(Nat.le_of_ble_eq_true rfl), (Nat.le_of_ble_eq_true rfl)⟩ (Nat.le_of_ble_eq_true rfl) rfl dX5_expectNumber_52 (fun S67 H locs hp67 hQ _ => ?_)
          obtain ⟨hI, o67⟩ := hp67
          refine lv_iload_n hx hb dX5_expectNumber_55 rfl (lv_at hl 0 rfl) ?_
          exact xri E hr hlk hQ (⟨hI, (o_trans (o_trans o_refl o51 (by decide)) o67 (by decide))⟩) dX5_expectNumber_56
        · have h68 := ib_ne k64
          have b69 : Bd r52 (1) (1) := rf_nlo b52 (by decide : Bd 0 (0) (0)) h68
          refine lv_iload_n hx hb dX5_expectNumber_44 rfl (lv_at hl 1 rfl) ?_
          exact xri E hr hlk hQ (⟨hI, (o_trans o_refl o51 (by decide)), (ib_wk ba1 (by decide) (by decide))⟩) dX5_expectNumber_45
  · have h70 := ib_ne k12
    refine lv_aload_n hx hb dX5_expectNumber_8 rfl (lv_at hl 0 rfl) ?_
    refine lv_iconst (v := 1) hx hb dX5_expectNumber_9 (by decide) ?_
    refine xcVv E hs hQ hml hl.1 94 (gX5_fail_94 l g ad hD S hI 1) mX5_fail q679 (by decide) c11 rfl rfl ⟨(Nat.le_of_ble_eq_true rfl), (Nat.le_of_ble_eq_true rfl)⟩ ⟨(Nat.le_of_ble_eq_true rfl), (Nat.le_of_ble_eq_true rfl)⟩ (Nat.le_of_ble_eq_true rfl) rfl dX5_expectNumber_10 (fun S71 H locs hp71 hQ _ => ?_)
    obtain ⟨hI, o71⟩ := hp71
    refine lv_goto (tgt := 37) hx hb dX5_expectNumber_13 (by decide) ?_
    refine lv_aload_n hx hb dX5_expectNumber_37 rfl (lv_at hl 0 rfl) ?_
    obtain ⟨v73, v75, v76, v78, v80, v81, v82, c83, b74, b77, b79⟩ := invX_94 hI
    have c83 : S71 94 = .inr (5, [.ref (ad 1), .ref (ad 20), .int v73, .int v75, .int v76, .int v78, .int v80, .int v81, .int v82]) := c83
    refine xcVi E hs hQ hml hl.1 94 (gX5_failed_94 l g ad hD S71 hI ) mX5_failed q610 (by decide) c83 rfl rfl ⟨(Nat.le_of_ble_eq_true rfl), (Nat.le_of_ble_eq_true rfl)⟩ ⟨(Nat.le_of_ble_eq_true rfl), (Nat.le_of_ble_eq_true rfl)⟩ (Nat.le_of_ble_eq_true rfl) rfl dX5_expectNumber_38 (fun r72 S72 H locs hp72 hQ _ => ?_)
    obtain ⟨rfl, b72⟩ := hp72
    refine lv_if_eq (tgt := 46) hx hb dX5_expectNumber_41 (by decide) (fun k84 => ?_) (fun k84 => ?_)
    · have h85 := ib_eq k84
      have b86 : Bd r72 (0) (0) := ⟨(b72).1, ((rf_eq b72 (by decide : Bd 0 (0) (0)) h85).1).2⟩
      refine lv_aload_n hx hb dX5_expectNumber_46 rfl (lv_at hl 0 rfl) ?_
      refine xget E hQ 94 (by decide) c83 rfl 6 (by decide) q348 rfl dX5_expectNumber_47 ?_
      refine lv_istore_n (lv' := [(3, .int v80), (0, .ref (ad 94)), (1, .int a1), (2, .int a2)]) hx hb dX5_expectNumber_50 rfl hl (by decide) rfl (fun ls hl => ?_)
      refine lv_aload_n hx hb dX5_expectNumber_51 rfl (lv_at hl 1 rfl) ?_
      refine xcVv E hs hQ hml hl.1 94 (gX5_advance_94 l g ad hD S71 hI ) mX5_advance q598 (by decide) c83 rfl rfl ⟨(Nat.le_of_ble_eq_true rfl), (Nat.le_of_ble_eq_true rfl)⟩ ⟨(Nat.le_of_ble_eq_true rfl), (Nat.le_of_ble_eq_true rfl)⟩ (Nat.le_of_ble_eq_true rfl) rfl dX5_expectNumber_52 (fun S87 H locs hp87 hQ _ => ?_)
      obtain ⟨hI, o87⟩ := hp87
      refine lv_iload_n hx hb dX5_expectNumber_55 rfl (lv_at hl 0 rfl) ?_
      exact xri E hr hlk hQ (⟨hI, (o_trans (o_trans o_refl o71 (by decide)) o87 (by decide))⟩) dX5_expectNumber_56
    · have h88 := ib_ne k84
      have b89 : Bd r72 (1) (1) := rf_nlo b72 (by decide : Bd 0 (0) (0)) h88
      refine lv_iload_n hx hb dX5_expectNumber_44 rfl (lv_at hl 1 rfl) ?_
      exact xri E hr hlk hQ (⟨hI, (o_trans o_refl o71 (by decide)), (ib_wk ba1 (by decide) (by decide))⟩) dX5_expectNumber_45
set_option maxHeartbeats 4000000 in
set_option maxRecDepth 100000 in
theorem gX5_expectNumber_9 (l : Launch) (g : GG) (ad : Nat → Nat) (hD : Dj ad 122) (S : SS) (hI : InvX g ad S) (a1 : Int32) (a2 : Int32) (ba1 : Bd a1 (0) (11)) (ba2 : Bd a2 (-1) (11)) : Met l yX5_expectNumber (wG (.code yX5_expectNumber cX5_expectNumber 4 (some .int))) (Rm 2) (XPre g ad 122 S [.ref (ad 94), .int a1, .int a2]) (va_Qi (fun r S' => InvX g ad S' ∧ (∀ j, j ∉ ([94] : List Nat) → S' j = S j) ∧ Bd r (0) (11)) (QB g ad 122) (FA ad 122)) 0 0 (FA ad 122) := by
  refine xmet cX5_expectNumber "EbbWreck$Reader" (by decide) rfl (Nat.le_of_ble_eq_true rfl) (fun p e s m below meth c E hr hlk hml hQ ls hl => ?_)
  have hx := E.1
  have hb := E.2.1
  have hs : Sp ad 122 (FA ad 122) := Sp.fa hD
  have hl : lv_has ls 4 [(0, .ref (ad 94)), (1, .int a1), (2, .int a2)] := hl
  refine lv_aload_n hx hb dX5_expectNumber_0 rfl (lv_at hl 0 rfl) ?_
  obtain ⟨v1, v3, v4, v6, v8, v9, v10, c11, b2, b5, b7⟩ := invX_94 hI
  have c11 : S 94 = .inr (5, [.ref (ad 1), .ref (ad 20), .int v1, .int v3, .int v4, .int v6, .int v8, .int v9, .int v10]) := c11
  refine xget E hQ 94 (by decide) c11 rfl 3 (by decide) q345 rfl dX5_expectNumber_1 ?_
  refine lv_iconst (v := 2) hx hb dX5_expectNumber_4 (by decide) ?_
  refine lv_icmp_eq (tgt := 16) hx hb dX5_expectNumber_5 (by decide) (fun k12 => ?_) (fun k12 => ?_)
  · have h13 := ib_eq k12
    have b14 : Bd v3 (2) (2) := ⟨((rf_eq (ib_full v3) (by decide : Bd 2 (2) (2)) h13).1).1, ((rf_eq (ib_full v3) (by decide : Bd 2 (2) (2)) h13).1).2⟩
    refine lv_aload_n hx hb dX5_expectNumber_16 rfl (lv_at hl 0 rfl) ?_
    refine xget E hQ 94 (by decide) c11 rfl 6 (by decide) q348 rfl dX5_expectNumber_17 ?_
    refine lv_iload_n hx hb dX5_expectNumber_20 rfl (lv_at hl 1 rfl) ?_
    refine lv_icmp_lt (tgt := 32) hx hb dX5_expectNumber_21 (by decide) (fun k15 => ?_) (fun k15 => ?_)
    · have h16 := ib_lt k15
      have b17 : Bd v8 (-2147483648) (10) := ⟨((ib_full v8)).1, ((rf_lt (ib_full v8) ba1 h16).1).2⟩
      refine lv_aload_n hx hb dX5_expectNumber_32 rfl (lv_at hl 0 rfl) ?_
      refine lv_iconst (v := 2) hx hb dX5_expectNumber_33 (by decide) ?_
      refine xcVv E hs hQ hml hl.1 94 (gX5_fail_94 l g ad hD S hI 2) mX5_fail q679 (by decide) c11 rfl rfl ⟨(Nat.le_of_ble_eq_true rfl), (Nat.le_of_ble_eq_true rfl)⟩ ⟨(Nat.le_of_ble_eq_true rfl), (Nat.le_of_ble_eq_true rfl)⟩ (Nat.le_of_ble_eq_true rfl) rfl dX5_expectNumber_34 (fun S18 H locs hp18 hQ _ => ?_)
      obtain ⟨hI, o18⟩ := hp18
      refine lv_aload_n hx hb dX5_expectNumber_37 rfl (lv_at hl 0 rfl) ?_
      obtain ⟨v20, v22, v23, v25, v27, v28, v29, c30, b21, b24, b26⟩ := invX_94 hI
      have c30 : S18 94 = .inr (5, [.ref (ad 1), .ref (ad 20), .int v20, .int v22, .int v23, .int v25, .int v27, .int v28, .int v29]) := c30
      refine xcVi E hs hQ hml hl.1 94 (gX5_failed_94 l g ad hD S18 hI ) mX5_failed q610 (by decide) c30 rfl rfl ⟨(Nat.le_of_ble_eq_true rfl), (Nat.le_of_ble_eq_true rfl)⟩ ⟨(Nat.le_of_ble_eq_true rfl), (Nat.le_of_ble_eq_true rfl)⟩ (Nat.le_of_ble_eq_true rfl) rfl dX5_expectNumber_38 (fun r19 S19 H locs hp19 hQ _ => ?_)
      obtain ⟨rfl, b19⟩ := hp19
      refine lv_if_eq (tgt := 46) hx hb dX5_expectNumber_41 (by decide) (fun k31 => ?_) (fun k31 => ?_)
      · have h32 := ib_eq k31
        have b33 : Bd r19 (0) (0) := ⟨(b19).1, ((rf_eq b19 (by decide : Bd 0 (0) (0)) h32).1).2⟩
        refine lv_aload_n hx hb dX5_expectNumber_46 rfl (lv_at hl 0 rfl) ?_
        refine xget E hQ 94 (by decide) c30 rfl 6 (by decide) q348 rfl dX5_expectNumber_47 ?_
        refine lv_istore_n (lv' := [(3, .int v27), (0, .ref (ad 94)), (1, .int a1), (2, .int a2)]) hx hb dX5_expectNumber_50 rfl hl (by decide) rfl (fun ls hl => ?_)
        refine lv_aload_n hx hb dX5_expectNumber_51 rfl (lv_at hl 1 rfl) ?_
        refine xcVv E hs hQ hml hl.1 94 (gX5_advance_94 l g ad hD S18 hI ) mX5_advance q598 (by decide) c30 rfl rfl ⟨(Nat.le_of_ble_eq_true rfl), (Nat.le_of_ble_eq_true rfl)⟩ ⟨(Nat.le_of_ble_eq_true rfl), (Nat.le_of_ble_eq_true rfl)⟩ (Nat.le_of_ble_eq_true rfl) rfl dX5_expectNumber_52 (fun S34 H locs hp34 hQ _ => ?_)
        obtain ⟨hI, o34⟩ := hp34
        refine lv_iload_n hx hb dX5_expectNumber_55 rfl (lv_at hl 0 rfl) ?_
        exact xri E hr hlk hQ (⟨hI, (o_trans (o_trans o_refl o18 (by decide)) o34 (by decide))⟩) dX5_expectNumber_56
      · have h35 := ib_ne k31
        have b36 : Bd r19 (1) (1) := rf_nlo b19 (by decide : Bd 0 (0) (0)) h35
        refine lv_iload_n hx hb dX5_expectNumber_44 rfl (lv_at hl 1 rfl) ?_
        exact xri E hr hlk hQ (⟨hI, (o_trans o_refl o18 (by decide)), ba1⟩) dX5_expectNumber_45
    · have h37 := ib_nlt k15
      have b38 : Bd v8 (0) (2147483647) := ⟨((rf_le ba1 (ib_full v8) h37).2).1, ((ib_full v8)).2⟩
      refine lv_aload_n hx hb dX5_expectNumber_24 rfl (lv_at hl 0 rfl) ?_
      refine xget E hQ 94 (by decide) c11 rfl 6 (by decide) q348 rfl dX5_expectNumber_25 ?_
      refine lv_iload_n hx hb dX5_expectNumber_28 rfl (lv_at hl 2 rfl) ?_
      refine lv_icmp_le (tgt := 37) hx hb dX5_expectNumber_29 (by decide) (fun k39 => ?_) (fun k39 => ?_)
      · have h40 := ib_le k39
        have b41 : Bd v8 (0) (11) := ⟨(b38).1, ((rf_le b38 ba2 h40).1).2⟩
        have b42 : Bd a2 (0) (11) := ⟨((rf_le b38 ba2 h40).2).1, (ba2).2⟩
        refine lv_aload_n hx hb dX5_expectNumber_37 rfl (lv_at hl 0 rfl) ?_
        refine xcVi E hs hQ hml hl.1 94 (gX5_failed_94 l g ad hD S hI ) mX5_failed q610 (by decide) c11 rfl rfl ⟨(Nat.le_of_ble_eq_true rfl), (Nat.le_of_ble_eq_true rfl)⟩ ⟨(Nat.le_of_ble_eq_true rfl), (Nat.le_of_ble_eq_true rfl)⟩ (Nat.le_of_ble_eq_true rfl) rfl dX5_expectNumber_38 (fun r43 S43 H locs hp43 hQ _ => ?_)
        obtain ⟨rfl, b43⟩ := hp43
        refine lv_if_eq (tgt := 46) hx hb dX5_expectNumber_41 (by decide) (fun k44 => ?_) (fun k44 => ?_)
        · have h45 := ib_eq k44
          have b46 : Bd r43 (0) (0) := ⟨(b43).1, ((rf_eq b43 (by decide : Bd 0 (0) (0)) h45).1).2⟩
          refine lv_aload_n hx hb dX5_expectNumber_46 rfl (lv_at hl 0 rfl) ?_
          refine xget E hQ 94 (by decide) c11 rfl 6 (by decide) q348 rfl dX5_expectNumber_47 ?_
          refine lv_istore_n (lv' := [(3, .int v8), (0, .ref (ad 94)), (1, .int a1), (2, .int a2)]) hx hb dX5_expectNumber_50 rfl hl (by decide) rfl (fun ls hl => ?_)
          refine lv_aload_n hx hb dX5_expectNumber_51 rfl (lv_at hl 1 rfl) ?_
          refine xcVv E hs hQ hml hl.1 94 (gX5_advance_94 l g ad hD S hI ) mX5_advance q598 (by decide) c11 rfl rfl ⟨(Nat.le_of_ble_eq_true rfl), (Nat.le_of_ble_eq_true rfl)⟩ ⟨(Nat.le_of_ble_eq_true rfl), (Nat.le_of_ble_eq_true rfl)⟩ (Nat.le_of_ble_eq_true rfl) rfl dX5_expectNumber_52 (fun S47 H locs hp47 hQ _ => ?_)
          obtain ⟨hI, o47⟩ := hp47
          refine lv_iload_n hx hb dX5_expectNumber_55 rfl (lv_at hl 0 rfl) ?_
          exact xri E hr hlk hQ (⟨hI, (o_trans o_refl o47 (by decide)), b41⟩) dX5_expectNumber_56
        · have h48 := ib_ne k44
          have b49 : Bd r43 (1) (1) := rf_nlo b43 (by decide : Bd 0 (0) (0)) h48
          refine lv_iload_n hx hb dX5_expectNumber_44 rfl (lv_at hl 1 rfl) ?_
          exact xri E hr hlk hQ (⟨hI, o_refl, ba1⟩) dX5_expectNumber_45
      · have h50 := ib_nle k39
        refine lv_aload_n hx hb dX5_expectNumber_32 rfl (lv_at hl 0 rfl) ?_
        refine lv_iconst (v := 2) hx hb dX5_expectNumber_33 (by decide) ?_
        refine xcVv E hs hQ hml hl.1 94 (gX5_fail_94 l g ad hD S hI 2) mX5_fail q679 (by decide) c11 rfl rfl ⟨(Nat.le_of_ble_eq_true rfl), (Nat.le_of_ble_eq_true rfl)⟩ ⟨(Nat.le_of_ble_eq_true rfl), (Nat.le_of_ble_eq_true rfl)⟩ (Nat.le_of_ble_eq_true rfl) rfl dX5_expectNumber_34 (fun S51 H locs hp51 hQ _ => ?_)
        obtain ⟨hI, o51⟩ := hp51
        refine lv_aload_n hx hb dX5_expectNumber_37 rfl (lv_at hl 0 rfl) ?_
        obtain ⟨v53, v55, v56, v58, v60, v61, v62, c63, b54, b57, b59⟩ := invX_94 hI
        have c63 : S51 94 = .inr (5, [.ref (ad 1), .ref (ad 20), .int v53, .int v55, .int v56, .int v58, .int v60, .int v61, .int v62]) := c63
        refine xcVi E hs hQ hml hl.1 94 (gX5_failed_94 l g ad hD S51 hI ) mX5_failed q610 (by decide) c63 rfl rfl ⟨(Nat.le_of_ble_eq_true rfl), (Nat.le_of_ble_eq_true rfl)⟩ ⟨(Nat.le_of_ble_eq_true rfl), (Nat.le_of_ble_eq_true rfl)⟩ (Nat.le_of_ble_eq_true rfl) rfl dX5_expectNumber_38 (fun r52 S52 H locs hp52 hQ _ => ?_)
        obtain ⟨rfl, b52⟩ := hp52
        refine lv_if_eq (tgt := 46) hx hb dX5_expectNumber_41 (by decide) (fun k64 => ?_) (fun k64 => ?_)
        · have h65 := ib_eq k64
          have b66 : Bd r52 (0) (0) := ⟨(b52).1, ((rf_eq b52 (by decide : Bd 0 (0) (0)) h65).1).2⟩
          refine lv_aload_n hx hb dX5_expectNumber_46 rfl (lv_at hl 0 rfl) ?_
          refine xget E hQ 94 (by decide) c63 rfl 6 (by decide) q348 rfl dX5_expectNumber_47 ?_
          refine lv_istore_n (lv' := [(3, .int v60), (0, .ref (ad 94)), (1, .int a1), (2, .int a2)]) hx hb dX5_expectNumber_50 rfl hl (by decide) rfl (fun ls hl => ?_)
          refine lv_aload_n hx hb dX5_expectNumber_51 rfl (lv_at hl 1 rfl) ?_
          refine xcVv E hs hQ hml hl.1 94 (gX5_advance_94 l g ad hD S51 hI ) mX5_advance q598 (by decide) c63 rfl rfl ⟨(Nat.le_of_ble_eq_true rfl), (Nat.le_of_ble_eq_true rfl)⟩ ⟨(Nat.le_of_ble_eq_true rfl), (Nat.le_of_ble_eq_true rfl)⟩ (Nat.le_of_ble_eq_true rfl) rfl dX5_expectNumber_52 (fun S67 H locs hp67 hQ _ => ?_)
          obtain ⟨hI, o67⟩ := hp67
          refine lv_iload_n hx hb dX5_expectNumber_55 rfl (lv_at hl 0 rfl) ?_
          exact xri E hr hlk hQ (⟨hI, (o_trans (o_trans o_refl o51 (by decide)) o67 (by decide))⟩) dX5_expectNumber_56
        · have h68 := ib_ne k64
          have b69 : Bd r52 (1) (1) := rf_nlo b52 (by decide : Bd 0 (0) (0)) h68
          refine lv_iload_n hx hb dX5_expectNumber_44 rfl (lv_at hl 1 rfl) ?_
          exact xri E hr hlk hQ (⟨hI, (o_trans o_refl o51 (by decide)), ba1⟩) dX5_expectNumber_45
  · have h70 := ib_ne k12
    refine lv_aload_n hx hb dX5_expectNumber_8 rfl (lv_at hl 0 rfl) ?_
    refine lv_iconst (v := 1) hx hb dX5_expectNumber_9 (by decide) ?_
    refine xcVv E hs hQ hml hl.1 94 (gX5_fail_94 l g ad hD S hI 1) mX5_fail q679 (by decide) c11 rfl rfl ⟨(Nat.le_of_ble_eq_true rfl), (Nat.le_of_ble_eq_true rfl)⟩ ⟨(Nat.le_of_ble_eq_true rfl), (Nat.le_of_ble_eq_true rfl)⟩ (Nat.le_of_ble_eq_true rfl) rfl dX5_expectNumber_10 (fun S71 H locs hp71 hQ _ => ?_)
    obtain ⟨hI, o71⟩ := hp71
    refine lv_goto (tgt := 37) hx hb dX5_expectNumber_13 (by decide) ?_
    refine lv_aload_n hx hb dX5_expectNumber_37 rfl (lv_at hl 0 rfl) ?_
    obtain ⟨v73, v75, v76, v78, v80, v81, v82, c83, b74, b77, b79⟩ := invX_94 hI
    have c83 : S71 94 = .inr (5, [.ref (ad 1), .ref (ad 20), .int v73, .int v75, .int v76, .int v78, .int v80, .int v81, .int v82]) := c83
    refine xcVi E hs hQ hml hl.1 94 (gX5_failed_94 l g ad hD S71 hI ) mX5_failed q610 (by decide) c83 rfl rfl ⟨(Nat.le_of_ble_eq_true rfl), (Nat.le_of_ble_eq_true rfl)⟩ ⟨(Nat.le_of_ble_eq_true rfl), (Nat.le_of_ble_eq_true rfl)⟩ (Nat.le_of_ble_eq_true rfl) rfl dX5_expectNumber_38 (fun r72 S72 H locs hp72 hQ _ => ?_)
    obtain ⟨rfl, b72⟩ := hp72
    refine lv_if_eq (tgt := 46) hx hb dX5_expectNumber_41 (by decide) (fun k84 => ?_) (fun k84 => ?_)
    · have h85 := ib_eq k84
      have b86 : Bd r72 (0) (0) := ⟨(b72).1, ((rf_eq b72 (by decide : Bd 0 (0) (0)) h85).1).2⟩
      refine lv_aload_n hx hb dX5_expectNumber_46 rfl (lv_at hl 0 rfl) ?_
      refine xget E hQ 94 (by decide) c83 rfl 6 (by decide) q348 rfl dX5_expectNumber_47 ?_
      refine lv_istore_n (lv' := [(3, .int v80), (0, .ref (ad 94)), (1, .int a1), (2, .int a2)]) hx hb dX5_expectNumber_50 rfl hl (by decide) rfl (fun ls hl => ?_)
      refine lv_aload_n hx hb dX5_expectNumber_51 rfl (lv_at hl 1 rfl) ?_
      refine xcVv E hs hQ hml hl.1 94 (gX5_advance_94 l g ad hD S71 hI ) mX5_advance q598 (by decide) c83 rfl rfl ⟨(Nat.le_of_ble_eq_true rfl), (Nat.le_of_ble_eq_true rfl)⟩ ⟨(Nat.le_of_ble_eq_true rfl), (Nat.le_of_ble_eq_true rfl)⟩ (Nat.le_of_ble_eq_true rfl) rfl dX5_expectNumber_52 (fun S87 H locs hp87 hQ _ => ?_)
      obtain ⟨hI, o87⟩ := hp87
      refine lv_iload_n hx hb dX5_expectNumber_55 rfl (lv_at hl 0 rfl) ?_
      exact xri E hr hlk hQ (⟨hI, (o_trans (o_trans o_refl o71 (by decide)) o87 (by decide))⟩) dX5_expectNumber_56
    · have h88 := ib_ne k84
      have b89 : Bd r72 (1) (1) := rf_nlo b72 (by decide : Bd 0 (0) (0)) h88
      refine lv_iload_n hx hb dX5_expectNumber_44 rfl (lv_at hl 1 rfl) ?_
      exact xri E hr hlk hQ (⟨hI, (o_trans o_refl o71 (by decide)), ba1⟩) dX5_expectNumber_45
set_option maxHeartbeats 4000000 in
set_option maxRecDepth 100000 in
theorem gX10_tell_3 (l : Launch) (g : GG) (ad : Nat → Nat) (hD : Dj ad 122) (S : SS) (hI : InvX g ad S) (a1 : Int32) (a2 : Int32) (a3 : Int32) (ba1 : Bd a1 (0) (12)) (ba2 : Bd a2 (0) (6)) (ba3 : Bd a3 (0) (12)) : Met l yX10_tell (wG (.code yX10_tell cX10_tell 5 none)) (Rm 1) (XPre g ad 122 S [.ref (ad 3), .int a1, .int a2, .int a3]) (va_Qv (fun S' => InvX g ad S' ∧ (∀ j, j ∉ ([3, 4] : List Nat) → S' j = S j)) (QB g ad 122) (FA ad 122)) 0 0 (FA ad 122) := by
  refine xmet cX10_tell "EbbWreck$Tide" (by decide) rfl (Nat.le_of_ble_eq_true rfl) (fun p e s m below meth c E hr hlk hml hQ ls hl => ?_)
  have hx := E.1
  have hb := E.2.1
  have hs : Sp ad 122 (FA ad 122) := Sp.fa hD
  have hl : lv_has ls 5 [(0, .ref (ad 3)), (1, .int a1), (2, .int a2), (3, .int a3)] := hl
  refine lv_aload_n hx hb dX10_tell_0 rfl (lv_at hl 0 rfl) ?_
  refine lv_iload_n hx hb dX10_tell_1 rfl (lv_at hl 1 rfl) ?_
  obtain ⟨v1, v3, v5, v7, c9, b2, b4, b6, b8⟩ := invX_3 hI
  have c9 : S 3 = .inr (10, [.int v1, .int v3, .int v5, .int v7, .ref (ad 4)]) := c9
  refine xputi E hs hQ 3 (by decide) c9 rfl 0 (by decide) q155 rfl rfl (Nat.le_of_ble_eq_true rfl) dX10_tell_2 (fun H locs S10 eS10 hQ => ?_)
  have hI := invX_up_3 hI eS10 ⟨a1, v3, v5, v7, rfl, ba1, b4, b6, b8⟩
  have c11 : S10 3 = .inr (10, [.int a1, .int v3, .int v5, .int v7, .ref (ad 4)]) := up_at eS10 rfl
  refine lv_aload_n hx hb dX10_tell_5 rfl (lv_at hl 0 rfl) ?_
  refine lv_iload_n hx hb dX10_tell_6 rfl (lv_at hl 2 rfl) ?_
  refine xputi E hs hQ 3 (by decide) c11 rfl 1 (by decide) q158 rfl rfl (Nat.le_of_ble_eq_true rfl) dX10_tell_7 (fun H locs S12 eS12 hQ => ?_)
  have hI := invX_up_3 hI eS12 ⟨a1, a2, v5, v7, rfl, ba1, ba2, b6, b8⟩
  have c13 : S12 3 = .inr (10, [.int a1, .int a2, .int v5, .int v7, .ref (ad 4)]) := up_at eS12 rfl
  refine lv_aload_n hx hb dX10_tell_10 rfl (lv_at hl 0 rfl) ?_
  refine lv_iload_n hx hb dX10_tell_11 rfl (lv_at hl 3 rfl) ?_
  refine xputi E hs hQ 3 (by decide) c13 rfl 2 (by decide) q161 rfl rfl (Nat.le_of_ble_eq_true rfl) dX10_tell_12 (fun H locs S14 eS14 hQ => ?_)
  have hI := invX_up_3 hI eS14 ⟨a1, a2, a3, v7, rfl, ba1, ba2, ba3, b8⟩
  have c15 : S14 3 = .inr (10, [.int a1, .int a2, .int a3, .int v7, .ref (ad 4)]) := up_at eS14 rfl
  refine lv_aload_n hx hb dX10_tell_15 rfl (lv_at hl 0 rfl) ?_
  refine lv_aload_n hx hb dX10_tell_16 rfl (lv_at hl 0 rfl) ?_
  refine xget E hQ 3 (by decide) c15 rfl 0 (by decide) q155 rfl dX10_tell_17 ?_
  refine lv_aload_n hx hb dX10_tell_20 rfl (lv_at hl 0 rfl) ?_
  refine xget E hQ 3 (by decide) c15 rfl 1 (by decide) q158 rfl dX10_tell_21 ?_
  refine lv_iadd hx hb dX10_tell_24 ?_
  refine lv_topi (fun z16 e17 => ?_)
  have t18 := ib_add e17 ba1 ba2 (by decide) (by decide)
  have b19 : Bd z16 (0) (18) := ib_addb t18 ba1 ba2
  refine lv_aload_n hx hb dX10_tell_25 rfl (lv_at hl 0 rfl) ?_
  refine xget E hQ 3 (by decide) c15 rfl 2 (by decide) q161 rfl dX10_tell_26 ?_
  refine lv_iadd hx hb dX10_tell_29 ?_
  refine lv_topi (fun z20 e21 => ?_)
  have t22 := ib_add e21 b19 ba3 (by decide) (by decide)
  have b23 : Bd z20 (0) (30) := ib_addb t22 b19 ba3
  refine lv_aload_n hx hb dX10_tell_30 rfl (lv_at hl 0 rfl) ?_
  refine xget E hQ 3 (by decide) c15 rfl 1 (by decide) q158 rfl dX10_tell_31 ?_
  refine lv_iadd hx hb dX10_tell_34 ?_
  refine lv_topi (fun z24 e25 => ?_)
  have t26 := ib_add e25 b23 ba2 (by decide) (by decide)
  have b27 : Bd z24 (0) (36) := ib_addb t26 b23 ba2
  refine xputi E hs hQ 3 (by decide) c15 rfl 3 (by decide) q165 rfl rfl (Nat.le_of_ble_eq_true rfl) dX10_tell_35 (fun H locs S28 eS28 hQ => ?_)
  have hI := invX_up_3 hI eS28 ⟨a1, a2, a3, z24, rfl, ba1, ba2, ba3, b27⟩
  have c29 : S28 3 = .inr (10, [.int a1, .int a2, .int a3, .int z24, .ref (ad 4)]) := up_at eS28 rfl
  refine lv_aload_n hx hb dX10_tell_38 rfl (lv_at hl 0 rfl) ?_
  refine xget E hQ 3 (by decide) c29 rfl 4 (by decide) q166 rfl dX10_tell_39 ?_
  refine lv_iconst (v := 1) hx hb dX10_tell_42 (by decide) ?_
  obtain ⟨f30, c31⟩ := invX_4 hI
  refine xcSv E hs hQ hml hl.1 (uFillI l g ad 122 hD S28 4 (by decide) 36 (by decide) f30 1 c31) mJ7_fill_53178 q596 rfl ⟨(Nat.le_of_ble_eq_true rfl), (Nat.le_of_ble_eq_true rfl)⟩ ⟨(Nat.le_of_ble_eq_true rfl), (Nat.le_of_ble_eq_true rfl)⟩ (Nat.le_of_ble_eq_true rfl) rfl dX10_tell_43 (fun S33 H locs eS33 hQ => ?_)
  have hI := invX_up_4 hI eS33 ⟨_, rfl⟩
  have c34 : S33 4 = .inl (g.2 0, 36, .inl (fillF 1 36 f30)) := up_at eS33 rfl
  refine lv_iconst (v := 0) hx hb dX10_tell_46 (by decide) ?_
  refine lv_istore (lv' := [(4, .int 0), (0, .ref (ad 3)), (1, .int a1), (2, .int a2), (3, .int a3)]) hx hb dX10_tell_47 hl (by decide) rfl (fun ls hl => ?_)
  have loop49 : ∀ (n : Nat) (S_49 : SS) (H : Heap) (locs : List Loc) (ls : Array Slot) (x49_4 : Int32), Bd x49_4 (0) (12) → (-1) * x49_4.toInt + 12 < ((n : Nat) : Int) → InvX g ad S_49 → (∀ j, j ∉ ([4] : List Nat) → S_49 j = S33 j) → Hp g ad 122 S_49 (FA ad 122) s.heap H locs → lv_has ls 5 [(4, .int x49_4), (0, .ref (ad 3)), (1, .int a1), (2, .int a2), (3, .int a3)] → W p l e (Rm 1) s m [.ref (ad 3), .int a1, .int a2, .int a3].toArray below meth c H locs 0 0 (MQ below (va_Qv (fun S' => InvX g ad S' ∧ (∀ j, j ∉ ([3, 4] : List Nat) → S' j = S j)) (QB g ad 122) (FA ad 122)) [.ref (ad 3), .int a1, .int a2, .int a3].toArray s 0 0 (FA ad 122)) (F0 m 49 ls []) := by
    intro n
    induction n with
    | zero => intro S_49 H locs ls x49_4 Bx49_4 hn49_ hI hf49 hQ hl; exfalso; have := (Bx49_4).2; omega
    | succ n49_ ih49 =>
      intro S_49 H locs ls x49_4 Bx49_4 hn49_ hI hf49 hQ hl
      refine lv_iload hx hb dX10_tell_49 (lv_at hl 0 rfl) ?_
      refine lv_aload_n hx hb dX10_tell_51 rfl (lv_at hl 1 rfl) ?_
      have c35 : S_49 3 = .inr (10, [.int a1, .int a2, .int a3, .int z24, .ref (ad 4)]) := ((hf49 3 (by decide)).trans (up_ne eS33 (by decide) c29))
      refine xget E hQ 3 (by decide) c35 rfl 0 (by decide) q155 rfl dX10_tell_52 ?_
      refine lv_icmp_ge (tgt := 79) hx hb dX10_tell_55 (by decide) (fun k36 => ?_) (fun k36 => ?_)
      · have h37 := ib_le k36
        refine lv_aload_n hx hb dX10_tell_79 rfl (lv_at hl 1 rfl) ?_
        refine xget E hQ 3 (by decide) c35 rfl 0 (by decide) q155 rfl dX10_tell_80 ?_
        refine lv_aload_n hx hb dX10_tell_83 rfl (lv_at hl 1 rfl) ?_
        refine xget E hQ 3 (by decide) c35 rfl 1 (by decide) q158 rfl dX10_tell_84 ?_
        refine lv_iadd hx hb dX10_tell_87 ?_
        refine lv_topi (fun z38 e39 => ?_)
        have t40 := ib_add e39 ba1 ba2 (by decide) (by decide)
        have b41 : Bd z38 (0) (18) := ib_addb t40 ba1 ba2
        refine lv_istore (lv' := [(4, .int z38), (0, .ref (ad 3)), (1, .int a1), (2, .int a2), (3, .int a3)]) hx hb dX10_tell_88 hl (by decide) rfl (fun ls hl => ?_)
        have loop90 : ∀ (n : Nat) (S_90 : SS) (H : Heap) (locs : List Loc) (ls : Array Slot) (x90_4 : Int32), Bd x90_4 (0) (36) → (-1) * x90_4.toInt + 36 < ((n : Nat) : Int) → InvX g ad S_90 → (∀ j, j ∉ ([4] : List Nat) → S_90 j = S_49 j) → Hp g ad 122 S_90 (FA ad 122) s.heap H locs → lv_has ls 5 [(4, .int x90_4), (0, .ref (ad 3)), (1, .int a1), (2, .int a2), (3, .int a3)] → W p l e (Rm 1) s m [.ref (ad 3), .int a1, .int a2, .int a3].toArray below meth c H locs 0 0 (MQ below (va_Qv (fun S' => InvX g ad S' ∧ (∀ j, j ∉ ([3, 4] : List Nat) → S' j = S j)) (QB g ad 122) (FA ad 122)) [.ref (ad 3), .int a1, .int a2, .int a3].toArray s 0 0 (FA ad 122)) (F0 m 90 ls []) := by
          intro n
          induction n with
          | zero => intro S_90 H locs ls x90_4 Bx90_4 hn90_ hI hf90 hQ hl; exfalso; have := (Bx90_4).2; omega
          | succ n90_ ih90 =>
            intro S_90 H locs ls x90_4 Bx90_4 hn90_ hI hf90 hQ hl
            refine lv_iload hx hb dX10_tell_90 (lv_at hl 0 rfl) ?_
            refine lv_aload_n hx hb dX10_tell_92 rfl (lv_at hl 1 rfl) ?_
            have c42 : S_90 3 = .inr (10, [.int a1, .int a2, .int a3, .int z24, .ref (ad 4)]) := ((hf90 3 (by decide)).trans c35)
            refine xget E hQ 3 (by decide) c42 rfl 3 (by decide) q165 rfl dX10_tell_93 ?_
            refine lv_aload_n hx hb dX10_tell_96 rfl (lv_at hl 1 rfl) ?_
            refine xget E hQ 3 (by decide) c42 rfl 1 (by decide) q158 rfl dX10_tell_97 ?_
            refine lv_isub hx hb dX10_tell_100 ?_
            refine lv_topi (fun z43 e44 => ?_)
            have t45 := ib_sub e44 b27 ba2 (by decide) (by decide)
            have b46 : Bd z43 (-6) (36) := ib_subb t45 b27 ba2
            refine lv_icmp_ge (tgt := 125) hx hb dX10_tell_101 (by decide) (fun k47 => ?_) (fun k47 => ?_)
            · have h48 := ib_le k47
              exact xrv E hr hlk hQ (⟨hI, (o_trans (o_trans (up_o (up_o (up_o (up_o (up_o o_refl eS10 (by decide)) eS12 (by decide)) eS14 (by decide)) eS28 (by decide)) eS33 (by decide)) hf49 (by decide)) hf90 (by decide))⟩) dX10_tell_125
            · have h49 := ib_nle k47
              have b50 : Bd x90_4 (0) (35) := ⟨(Bx90_4).1, ((rf_lt Bx90_4 b46 h49).1).2⟩
              have b51 : Bd z43 (1) (36) := ⟨((rf_lt Bx90_4 b46 h49).2).1, (b46).2⟩
              refine lv_iload hx hb dX10_tell_104 (lv_at hl 0 rfl) ?_
              refine lv_bipush (v := 36) hx hb dX10_tell_106 (by decide) ?_
              refine lv_icmp_ge (tgt := 125) hx hb dX10_tell_108 (by decide) (fun k52 => ?_) (fun k52 => ?_)
              · have h53 := ib_le k52
                exact absurd (Int.le_trans ((by decide : Bd 36 (36) (36))).1 ((rf_le (by decide : Bd 36 (36) (36)) b50 h53).1).2) (by decide)
              · have h54 := ib_nle k52
                refine lv_aload_n hx hb dX10_tell_111 rfl (lv_at hl 1 rfl) ?_
                refine xget E hQ 3 (by decide) c42 rfl 4 (by decide) q166 rfl dX10_tell_112 ?_
                refine lv_iload hx hb dX10_tell_115 (lv_at hl 0 rfl) ?_
                refine lv_iconst (v := 2) hx hb dX10_tell_117 (by decide) ?_
                obtain ⟨f55, c56⟩ := invX_4 hI
                refine xiast E hs hQ 4 (by decide) c56 (ib_in b50 (by decide) (by decide)) dX10_tell_118 (fun H locs S58 eS58 hQ => ?_)
                have hI := invX_up_4 hI eS58 ⟨_, rfl⟩
                have c59 : S58 4 = .inl (g.2 0, 36, .inl (upd f55 (x90_4 : Int32).toNatClampNeg 2)) := up_at eS58 rfl
                obtain ⟨z60, e61⟩ : ∃ z : Int32, z = x90_4 + 1 := ⟨_, rfl⟩
                have t62 := ib_add e61 b50 (by decide : Bd 1 (1) (1)) (by decide) (by decide)
                have b63 : Bd z60 (1) (36) := ib_addb t62 b50 (by decide : Bd 1 (1) (1))
                have t62 : z60.toInt = x90_4.toInt + 1 := fold_add t62 rfl (by decide)
                refine lv_iinc (v := z60) (lv' := [(4, .int z60), (0, .ref (ad 3)), (1, .int a1), (2, .int a2), (3, .int a3)]) hx hb dX10_tell_119 hl (k := 0) rfl (by rw [e61]; rfl) (by decide) rfl (fun ls hl => ?_)
                refine lv_goto (tgt := 90) hx hb dX10_tell_122 (by decide) ?_
                exact ih90 _ _ _ _ z60 (ib_wk b63 (by decide) (by decide)) (by omega) hI (up_o hf90 eS58 (by decide)) hQ (lv_sub hl [0, 1, 2, 3, 4] rfl)
        obtain ⟨n90, hn90⟩ := fu_n ((-1) * z38.toInt + 36)
        exact loop90 n90 _ _ _ _ z38 (ib_wk b41 (by decide) (by decide)) (by omega) hI o_refl hQ (lv_sub hl [0, 1, 2, 3, 4] rfl)
      · have h64 := ib_nle k36
        have b65 : Bd x49_4 (0) (11) := ⟨(Bx49_4).1, ((rf_lt Bx49_4 ba1 h64).1).2⟩
        have b66 : Bd a1 (1) (12) := ⟨((rf_lt Bx49_4 ba1 h64).2).1, (ba1).2⟩
        refine lv_iload hx hb dX10_tell_58 (lv_at hl 0 rfl) ?_
        refine lv_bipush (v := 36) hx hb dX10_tell_60 (by decide) ?_
        refine lv_icmp_ge (tgt := 79) hx hb dX10_tell_62 (by decide) (fun k67 => ?_) (fun k67 => ?_)
        · have h68 := ib_le k67
          exact absurd (Int.le_trans ((by decide : Bd 36 (36) (36))).1 ((rf_le (by decide : Bd 36 (36) (36)) b65 h68).1).2) (by decide)
        · have h69 := ib_nle k67
          refine lv_aload_n hx hb dX10_tell_65 rfl (lv_at hl 1 rfl) ?_
          refine xget E hQ 3 (by decide) c35 rfl 4 (by decide) q166 rfl dX10_tell_66 ?_
          refine lv_iload hx hb dX10_tell_69 (lv_at hl 0 rfl) ?_
          refine lv_iconst (v := 0) hx hb dX10_tell_71 (by decide) ?_
          obtain ⟨f70, c71⟩ := invX_4 hI
          refine xiast E hs hQ 4 (by decide) c71 (ib_in b65 (by decide) (by decide)) dX10_tell_72 (fun H locs S73 eS73 hQ => ?_)
          have hI := invX_up_4 hI eS73 ⟨_, rfl⟩
          have c74 : S73 4 = .inl (g.2 0, 36, .inl (upd f70 (x49_4 : Int32).toNatClampNeg 0)) := up_at eS73 rfl
          obtain ⟨z75, e76⟩ : ∃ z : Int32, z = x49_4 + 1 := ⟨_, rfl⟩
          have t77 := ib_add e76 b65 (by decide : Bd 1 (1) (1)) (by decide) (by decide)
          have b78 : Bd z75 (1) (12) := ib_addb t77 b65 (by decide : Bd 1 (1) (1))
          have t77 : z75.toInt = x49_4.toInt + 1 := fold_add t77 rfl (by decide)
          refine lv_iinc (v := z75) (lv' := [(4, .int z75), (0, .ref (ad 3)), (1, .int a1), (2, .int a2), (3, .int a3)]) hx hb dX10_tell_73 hl (k := 0) rfl (by rw [e76]; rfl) (by decide) rfl (fun ls hl => ?_)
          refine lv_goto (tgt := 49) hx hb dX10_tell_76 (by decide) ?_
          exact ih49 _ _ _ _ z75 (ib_wk b78 (by decide) (by decide)) (by omega) hI (up_o hf49 eS73 (by decide)) hQ (lv_sub hl [0, 1, 2, 3, 4] rfl)
  obtain ⟨n49, hn49⟩ := fu_n (12)
  exact loop49 n49 _ _ _ _ 0 (ib_wk (by decide : Bd 0 (0) (0)) (by decide) (by decide)) (by have : (0 : Int32).toInt = 0 := (by decide); omega) hI o_refl hQ (lv_sub hl [0, 1, 2, 3, 4] rfl)
set_option maxHeartbeats 4000000 in
set_option maxRecDepth 100000 in
theorem gX10_tell_21 (l : Launch) (g : GG) (ad : Nat → Nat) (hD : Dj ad 122) (S : SS) (hI : InvX g ad S) (a1 : Int32) (a2 : Int32) (a3 : Int32) (ba1 : Bd a1 (0) (12)) (ba2 : Bd a2 (0) (6)) (ba3 : Bd a3 (0) (12)) : Met l yX10_tell (wG (.code yX10_tell cX10_tell 5 none)) (Rm 1) (XPre g ad 122 S [.ref (ad 21), .int a1, .int a2, .int a3]) (va_Qv (fun S' => InvX g ad S' ∧ (∀ j, j ∉ ([21, 22] : List Nat) → S' j = S j)) (QB g ad 122) (FA ad 122)) 0 0 (FA ad 122) := by
  refine xmet cX10_tell "EbbWreck$Tide" (by decide) rfl (Nat.le_of_ble_eq_true rfl) (fun p e s m below meth c E hr hlk hml hQ ls hl => ?_)
  have hx := E.1
  have hb := E.2.1
  have hs : Sp ad 122 (FA ad 122) := Sp.fa hD
  have hl : lv_has ls 5 [(0, .ref (ad 21)), (1, .int a1), (2, .int a2), (3, .int a3)] := hl
  refine lv_aload_n hx hb dX10_tell_0 rfl (lv_at hl 0 rfl) ?_
  refine lv_iload_n hx hb dX10_tell_1 rfl (lv_at hl 1 rfl) ?_
  obtain ⟨v1, v3, v5, v7, c9, b2, b4, b6, b8⟩ := invX_21 hI
  have c9 : S 21 = .inr (10, [.int v1, .int v3, .int v5, .int v7, .ref (ad 22)]) := c9
  refine xputi E hs hQ 21 (by decide) c9 rfl 0 (by decide) q155 rfl rfl (Nat.le_of_ble_eq_true rfl) dX10_tell_2 (fun H locs S10 eS10 hQ => ?_)
  have hI := invX_up_21 hI eS10 ⟨a1, v3, v5, v7, rfl, ba1, b4, b6, b8⟩
  have c11 : S10 21 = .inr (10, [.int a1, .int v3, .int v5, .int v7, .ref (ad 22)]) := up_at eS10 rfl
  refine lv_aload_n hx hb dX10_tell_5 rfl (lv_at hl 0 rfl) ?_
  refine lv_iload_n hx hb dX10_tell_6 rfl (lv_at hl 2 rfl) ?_
  refine xputi E hs hQ 21 (by decide) c11 rfl 1 (by decide) q158 rfl rfl (Nat.le_of_ble_eq_true rfl) dX10_tell_7 (fun H locs S12 eS12 hQ => ?_)
  have hI := invX_up_21 hI eS12 ⟨a1, a2, v5, v7, rfl, ba1, ba2, b6, b8⟩
  have c13 : S12 21 = .inr (10, [.int a1, .int a2, .int v5, .int v7, .ref (ad 22)]) := up_at eS12 rfl
  refine lv_aload_n hx hb dX10_tell_10 rfl (lv_at hl 0 rfl) ?_
  refine lv_iload_n hx hb dX10_tell_11 rfl (lv_at hl 3 rfl) ?_
  refine xputi E hs hQ 21 (by decide) c13 rfl 2 (by decide) q161 rfl rfl (Nat.le_of_ble_eq_true rfl) dX10_tell_12 (fun H locs S14 eS14 hQ => ?_)
  have hI := invX_up_21 hI eS14 ⟨a1, a2, a3, v7, rfl, ba1, ba2, ba3, b8⟩
  have c15 : S14 21 = .inr (10, [.int a1, .int a2, .int a3, .int v7, .ref (ad 22)]) := up_at eS14 rfl
  refine lv_aload_n hx hb dX10_tell_15 rfl (lv_at hl 0 rfl) ?_
  refine lv_aload_n hx hb dX10_tell_16 rfl (lv_at hl 0 rfl) ?_
  refine xget E hQ 21 (by decide) c15 rfl 0 (by decide) q155 rfl dX10_tell_17 ?_
  refine lv_aload_n hx hb dX10_tell_20 rfl (lv_at hl 0 rfl) ?_
  refine xget E hQ 21 (by decide) c15 rfl 1 (by decide) q158 rfl dX10_tell_21 ?_
  refine lv_iadd hx hb dX10_tell_24 ?_
  refine lv_topi (fun z16 e17 => ?_)
  have t18 := ib_add e17 ba1 ba2 (by decide) (by decide)
  have b19 : Bd z16 (0) (18) := ib_addb t18 ba1 ba2
  refine lv_aload_n hx hb dX10_tell_25 rfl (lv_at hl 0 rfl) ?_
  refine xget E hQ 21 (by decide) c15 rfl 2 (by decide) q161 rfl dX10_tell_26 ?_
  refine lv_iadd hx hb dX10_tell_29 ?_
  refine lv_topi (fun z20 e21 => ?_)
  have t22 := ib_add e21 b19 ba3 (by decide) (by decide)
  have b23 : Bd z20 (0) (30) := ib_addb t22 b19 ba3
  refine lv_aload_n hx hb dX10_tell_30 rfl (lv_at hl 0 rfl) ?_
  refine xget E hQ 21 (by decide) c15 rfl 1 (by decide) q158 rfl dX10_tell_31 ?_
  refine lv_iadd hx hb dX10_tell_34 ?_
  refine lv_topi (fun z24 e25 => ?_)
  have t26 := ib_add e25 b23 ba2 (by decide) (by decide)
  have b27 : Bd z24 (0) (36) := ib_addb t26 b23 ba2
  refine xputi E hs hQ 21 (by decide) c15 rfl 3 (by decide) q165 rfl rfl (Nat.le_of_ble_eq_true rfl) dX10_tell_35 (fun H locs S28 eS28 hQ => ?_)
  have hI := invX_up_21 hI eS28 ⟨a1, a2, a3, z24, rfl, ba1, ba2, ba3, b27⟩
  have c29 : S28 21 = .inr (10, [.int a1, .int a2, .int a3, .int z24, .ref (ad 22)]) := up_at eS28 rfl
  refine lv_aload_n hx hb dX10_tell_38 rfl (lv_at hl 0 rfl) ?_
  refine xget E hQ 21 (by decide) c29 rfl 4 (by decide) q166 rfl dX10_tell_39 ?_
  refine lv_iconst (v := 1) hx hb dX10_tell_42 (by decide) ?_
  obtain ⟨f30, c31⟩ := invX_22 hI
  refine xcSv E hs hQ hml hl.1 (uFillI l g ad 122 hD S28 22 (by decide) 36 (by decide) f30 1 c31) mJ7_fill_53178 q596 rfl ⟨(Nat.le_of_ble_eq_true rfl), (Nat.le_of_ble_eq_true rfl)⟩ ⟨(Nat.le_of_ble_eq_true rfl), (Nat.le_of_ble_eq_true rfl)⟩ (Nat.le_of_ble_eq_true rfl) rfl dX10_tell_43 (fun S33 H locs eS33 hQ => ?_)
  have hI := invX_up_22 hI eS33 ⟨_, rfl⟩
  have c34 : S33 22 = .inl (g.2 0, 36, .inl (fillF 1 36 f30)) := up_at eS33 rfl
  refine lv_iconst (v := 0) hx hb dX10_tell_46 (by decide) ?_
  refine lv_istore (lv' := [(4, .int 0), (0, .ref (ad 21)), (1, .int a1), (2, .int a2), (3, .int a3)]) hx hb dX10_tell_47 hl (by decide) rfl (fun ls hl => ?_)
  have loop49 : ∀ (n : Nat) (S_49 : SS) (H : Heap) (locs : List Loc) (ls : Array Slot) (x49_4 : Int32), Bd x49_4 (0) (12) → (-1) * x49_4.toInt + 12 < ((n : Nat) : Int) → InvX g ad S_49 → (∀ j, j ∉ ([22] : List Nat) → S_49 j = S33 j) → Hp g ad 122 S_49 (FA ad 122) s.heap H locs → lv_has ls 5 [(4, .int x49_4), (0, .ref (ad 21)), (1, .int a1), (2, .int a2), (3, .int a3)] → W p l e (Rm 1) s m [.ref (ad 21), .int a1, .int a2, .int a3].toArray below meth c H locs 0 0 (MQ below (va_Qv (fun S' => InvX g ad S' ∧ (∀ j, j ∉ ([21, 22] : List Nat) → S' j = S j)) (QB g ad 122) (FA ad 122)) [.ref (ad 21), .int a1, .int a2, .int a3].toArray s 0 0 (FA ad 122)) (F0 m 49 ls []) := by
    intro n
    induction n with
    | zero => intro S_49 H locs ls x49_4 Bx49_4 hn49_ hI hf49 hQ hl; exfalso; have := (Bx49_4).2; omega
    | succ n49_ ih49 =>
      intro S_49 H locs ls x49_4 Bx49_4 hn49_ hI hf49 hQ hl
      refine lv_iload hx hb dX10_tell_49 (lv_at hl 0 rfl) ?_
      refine lv_aload_n hx hb dX10_tell_51 rfl (lv_at hl 1 rfl) ?_
      have c35 : S_49 21 = .inr (10, [.int a1, .int a2, .int a3, .int z24, .ref (ad 22)]) := ((hf49 21 (by decide)).trans (up_ne eS33 (by decide) c29))
      refine xget E hQ 21 (by decide) c35 rfl 0 (by decide) q155 rfl dX10_tell_52 ?_
      refine lv_icmp_ge (tgt := 79) hx hb dX10_tell_55 (by decide) (fun k36 => ?_) (fun k36 => ?_)
      · have h37 := ib_le k36
        refine lv_aload_n hx hb dX10_tell_79 rfl (lv_at hl 1 rfl) ?_
        refine xget E hQ 21 (by decide) c35 rfl 0 (by decide) q155 rfl dX10_tell_80 ?_
        refine lv_aload_n hx hb dX10_tell_83 rfl (lv_at hl 1 rfl) ?_
        refine xget E hQ 21 (by decide) c35 rfl 1 (by decide) q158 rfl dX10_tell_84 ?_
        refine lv_iadd hx hb dX10_tell_87 ?_
        refine lv_topi (fun z38 e39 => ?_)
        have t40 := ib_add e39 ba1 ba2 (by decide) (by decide)
        have b41 : Bd z38 (0) (18) := ib_addb t40 ba1 ba2
        refine lv_istore (lv' := [(4, .int z38), (0, .ref (ad 21)), (1, .int a1), (2, .int a2), (3, .int a3)]) hx hb dX10_tell_88 hl (by decide) rfl (fun ls hl => ?_)
        have loop90 : ∀ (n : Nat) (S_90 : SS) (H : Heap) (locs : List Loc) (ls : Array Slot) (x90_4 : Int32), Bd x90_4 (0) (36) → (-1) * x90_4.toInt + 36 < ((n : Nat) : Int) → InvX g ad S_90 → (∀ j, j ∉ ([22] : List Nat) → S_90 j = S_49 j) → Hp g ad 122 S_90 (FA ad 122) s.heap H locs → lv_has ls 5 [(4, .int x90_4), (0, .ref (ad 21)), (1, .int a1), (2, .int a2), (3, .int a3)] → W p l e (Rm 1) s m [.ref (ad 21), .int a1, .int a2, .int a3].toArray below meth c H locs 0 0 (MQ below (va_Qv (fun S' => InvX g ad S' ∧ (∀ j, j ∉ ([21, 22] : List Nat) → S' j = S j)) (QB g ad 122) (FA ad 122)) [.ref (ad 21), .int a1, .int a2, .int a3].toArray s 0 0 (FA ad 122)) (F0 m 90 ls []) := by
          intro n
          induction n with
          | zero => intro S_90 H locs ls x90_4 Bx90_4 hn90_ hI hf90 hQ hl; exfalso; have := (Bx90_4).2; omega
          | succ n90_ ih90 =>
            intro S_90 H locs ls x90_4 Bx90_4 hn90_ hI hf90 hQ hl
            refine lv_iload hx hb dX10_tell_90 (lv_at hl 0 rfl) ?_
            refine lv_aload_n hx hb dX10_tell_92 rfl (lv_at hl 1 rfl) ?_
            have c42 : S_90 21 = .inr (10, [.int a1, .int a2, .int a3, .int z24, .ref (ad 22)]) := ((hf90 21 (by decide)).trans c35)
            refine xget E hQ 21 (by decide) c42 rfl 3 (by decide) q165 rfl dX10_tell_93 ?_
            refine lv_aload_n hx hb dX10_tell_96 rfl (lv_at hl 1 rfl) ?_
            refine xget E hQ 21 (by decide) c42 rfl 1 (by decide) q158 rfl dX10_tell_97 ?_
            refine lv_isub hx hb dX10_tell_100 ?_
            refine lv_topi (fun z43 e44 => ?_)
            have t45 := ib_sub e44 b27 ba2 (by decide) (by decide)
            have b46 : Bd z43 (-6) (36) := ib_subb t45 b27 ba2
            refine lv_icmp_ge (tgt := 125) hx hb dX10_tell_101 (by decide) (fun k47 => ?_) (fun k47 => ?_)
            · have h48 := ib_le k47
              exact xrv E hr hlk hQ (⟨hI, (o_trans (o_trans (up_o (up_o (up_o (up_o (up_o o_refl eS10 (by decide)) eS12 (by decide)) eS14 (by decide)) eS28 (by decide)) eS33 (by decide)) hf49 (by decide)) hf90 (by decide))⟩) dX10_tell_125
            · have h49 := ib_nle k47
              have b50 : Bd x90_4 (0) (35) := ⟨(Bx90_4).1, ((rf_lt Bx90_4 b46 h49).1).2⟩
              have b51 : Bd z43 (1) (36) := ⟨((rf_lt Bx90_4 b46 h49).2).1, (b46).2⟩
              refine lv_iload hx hb dX10_tell_104 (lv_at hl 0 rfl) ?_
              refine lv_bipush (v := 36) hx hb dX10_tell_106 (by decide) ?_
              refine lv_icmp_ge (tgt := 125) hx hb dX10_tell_108 (by decide) (fun k52 => ?_) (fun k52 => ?_)
              · have h53 := ib_le k52
                exact absurd (Int.le_trans ((by decide : Bd 36 (36) (36))).1 ((rf_le (by decide : Bd 36 (36) (36)) b50 h53).1).2) (by decide)
              · have h54 := ib_nle k52
                refine lv_aload_n hx hb dX10_tell_111 rfl (lv_at hl 1 rfl) ?_
                refine xget E hQ 21 (by decide) c42 rfl 4 (by decide) q166 rfl dX10_tell_112 ?_
                refine lv_iload hx hb dX10_tell_115 (lv_at hl 0 rfl) ?_
                refine lv_iconst (v := 2) hx hb dX10_tell_117 (by decide) ?_
                obtain ⟨f55, c56⟩ := invX_22 hI
                refine xiast E hs hQ 22 (by decide) c56 (ib_in b50 (by decide) (by decide)) dX10_tell_118 (fun H locs S58 eS58 hQ => ?_)
                have hI := invX_up_22 hI eS58 ⟨_, rfl⟩
                have c59 : S58 22 = .inl (g.2 0, 36, .inl (upd f55 (x90_4 : Int32).toNatClampNeg 2)) := up_at eS58 rfl
                obtain ⟨z60, e61⟩ : ∃ z : Int32, z = x90_4 + 1 := ⟨_, rfl⟩
                have t62 := ib_add e61 b50 (by decide : Bd 1 (1) (1)) (by decide) (by decide)
                have b63 : Bd z60 (1) (36) := ib_addb t62 b50 (by decide : Bd 1 (1) (1))
                have t62 : z60.toInt = x90_4.toInt + 1 := fold_add t62 rfl (by decide)
                refine lv_iinc (v := z60) (lv' := [(4, .int z60), (0, .ref (ad 21)), (1, .int a1), (2, .int a2), (3, .int a3)]) hx hb dX10_tell_119 hl (k := 0) rfl (by rw [e61]; rfl) (by decide) rfl (fun ls hl => ?_)
                refine lv_goto (tgt := 90) hx hb dX10_tell_122 (by decide) ?_
                exact ih90 _ _ _ _ z60 (ib_wk b63 (by decide) (by decide)) (by omega) hI (up_o hf90 eS58 (by decide)) hQ (lv_sub hl [0, 1, 2, 3, 4] rfl)
        obtain ⟨n90, hn90⟩ := fu_n ((-1) * z38.toInt + 36)
        exact loop90 n90 _ _ _ _ z38 (ib_wk b41 (by decide) (by decide)) (by omega) hI o_refl hQ (lv_sub hl [0, 1, 2, 3, 4] rfl)
      · have h64 := ib_nle k36
        have b65 : Bd x49_4 (0) (11) := ⟨(Bx49_4).1, ((rf_lt Bx49_4 ba1 h64).1).2⟩
        have b66 : Bd a1 (1) (12) := ⟨((rf_lt Bx49_4 ba1 h64).2).1, (ba1).2⟩
        refine lv_iload hx hb dX10_tell_58 (lv_at hl 0 rfl) ?_
        refine lv_bipush (v := 36) hx hb dX10_tell_60 (by decide) ?_
        refine lv_icmp_ge (tgt := 79) hx hb dX10_tell_62 (by decide) (fun k67 => ?_) (fun k67 => ?_)
        · have h68 := ib_le k67
          exact absurd (Int.le_trans ((by decide : Bd 36 (36) (36))).1 ((rf_le (by decide : Bd 36 (36) (36)) b65 h68).1).2) (by decide)
        · have h69 := ib_nle k67
          refine lv_aload_n hx hb dX10_tell_65 rfl (lv_at hl 1 rfl) ?_
          refine xget E hQ 21 (by decide) c35 rfl 4 (by decide) q166 rfl dX10_tell_66 ?_
          refine lv_iload hx hb dX10_tell_69 (lv_at hl 0 rfl) ?_
          refine lv_iconst (v := 0) hx hb dX10_tell_71 (by decide) ?_
          obtain ⟨f70, c71⟩ := invX_22 hI
          refine xiast E hs hQ 22 (by decide) c71 (ib_in b65 (by decide) (by decide)) dX10_tell_72 (fun H locs S73 eS73 hQ => ?_)
          have hI := invX_up_22 hI eS73 ⟨_, rfl⟩
          have c74 : S73 22 = .inl (g.2 0, 36, .inl (upd f70 (x49_4 : Int32).toNatClampNeg 0)) := up_at eS73 rfl
          obtain ⟨z75, e76⟩ : ∃ z : Int32, z = x49_4 + 1 := ⟨_, rfl⟩
          have t77 := ib_add e76 b65 (by decide : Bd 1 (1) (1)) (by decide) (by decide)
          have b78 : Bd z75 (1) (12) := ib_addb t77 b65 (by decide : Bd 1 (1) (1))
          have t77 : z75.toInt = x49_4.toInt + 1 := fold_add t77 rfl (by decide)
          refine lv_iinc (v := z75) (lv' := [(4, .int z75), (0, .ref (ad 21)), (1, .int a1), (2, .int a2), (3, .int a3)]) hx hb dX10_tell_73 hl (k := 0) rfl (by rw [e76]; rfl) (by decide) rfl (fun ls hl => ?_)
          refine lv_goto (tgt := 49) hx hb dX10_tell_76 (by decide) ?_
          exact ih49 _ _ _ _ z75 (ib_wk b78 (by decide) (by decide)) (by omega) hI (up_o hf49 eS73 (by decide)) hQ (lv_sub hl [0, 1, 2, 3, 4] rfl)
  obtain ⟨n49, hn49⟩ := fu_n (12)
  exact loop49 n49 _ _ _ _ 0 (ib_wk (by decide : Bd 0 (0) (0)) (by decide) (by decide)) (by have : (0 : Int32).toInt = 0 := (by decide); omega) hI o_refl hQ (lv_sub hl [0, 1, 2, 3, 4] rfl)
set_option maxHeartbeats 4000000 in
set_option maxRecDepth 100000 in
theorem gX10_tell_40 (l : Launch) (g : GG) (ad : Nat → Nat) (hD : Dj ad 122) (S : SS) (hI : InvX g ad S) (a1 : Int32) (a2 : Int32) (a3 : Int32) (ba1 : Bd a1 (0) (12)) (ba2 : Bd a2 (0) (6)) (ba3 : Bd a3 (0) (12)) : Met l yX10_tell (wG (.code yX10_tell cX10_tell 5 none)) (Rm 1) (XPre g ad 122 S [.ref (ad 40), .int a1, .int a2, .int a3]) (va_Qv (fun S' => InvX g ad S' ∧ (∀ j, j ∉ ([40, 41] : List Nat) → S' j = S j)) (QB g ad 122) (FA ad 122)) 0 0 (FA ad 122) := by
  refine xmet cX10_tell "EbbWreck$Tide" (by decide) rfl (Nat.le_of_ble_eq_true rfl) (fun p e s m below meth c E hr hlk hml hQ ls hl => ?_)
  have hx := E.1
  have hb := E.2.1
  have hs : Sp ad 122 (FA ad 122) := Sp.fa hD
  have hl : lv_has ls 5 [(0, .ref (ad 40)), (1, .int a1), (2, .int a2), (3, .int a3)] := hl
  refine lv_aload_n hx hb dX10_tell_0 rfl (lv_at hl 0 rfl) ?_
  refine lv_iload_n hx hb dX10_tell_1 rfl (lv_at hl 1 rfl) ?_
  obtain ⟨v1, v3, v5, v7, c9, b2, b4, b6, b8⟩ := invX_40 hI
  have c9 : S 40 = .inr (10, [.int v1, .int v3, .int v5, .int v7, .ref (ad 41)]) := c9
  refine xputi E hs hQ 40 (by decide) c9 rfl 0 (by decide) q155 rfl rfl (Nat.le_of_ble_eq_true rfl) dX10_tell_2 (fun H locs S10 eS10 hQ => ?_)
  have hI := invX_up_40 hI eS10 ⟨a1, v3, v5, v7, rfl, ba1, b4, b6, b8⟩
  have c11 : S10 40 = .inr (10, [.int a1, .int v3, .int v5, .int v7, .ref (ad 41)]) := up_at eS10 rfl
  refine lv_aload_n hx hb dX10_tell_5 rfl (lv_at hl 0 rfl) ?_
  refine lv_iload_n hx hb dX10_tell_6 rfl (lv_at hl 2 rfl) ?_
  refine xputi E hs hQ 40 (by decide) c11 rfl 1 (by decide) q158 rfl rfl (Nat.le_of_ble_eq_true rfl) dX10_tell_7 (fun H locs S12 eS12 hQ => ?_)
  have hI := invX_up_40 hI eS12 ⟨a1, a2, v5, v7, rfl, ba1, ba2, b6, b8⟩
  have c13 : S12 40 = .inr (10, [.int a1, .int a2, .int v5, .int v7, .ref (ad 41)]) := up_at eS12 rfl
  refine lv_aload_n hx hb dX10_tell_10 rfl (lv_at hl 0 rfl) ?_
  refine lv_iload_n hx hb dX10_tell_11 rfl (lv_at hl 3 rfl) ?_
  refine xputi E hs hQ 40 (by decide) c13 rfl 2 (by decide) q161 rfl rfl (Nat.le_of_ble_eq_true rfl) dX10_tell_12 (fun H locs S14 eS14 hQ => ?_)
  have hI := invX_up_40 hI eS14 ⟨a1, a2, a3, v7, rfl, ba1, ba2, ba3, b8⟩
  have c15 : S14 40 = .inr (10, [.int a1, .int a2, .int a3, .int v7, .ref (ad 41)]) := up_at eS14 rfl
  refine lv_aload_n hx hb dX10_tell_15 rfl (lv_at hl 0 rfl) ?_
  refine lv_aload_n hx hb dX10_tell_16 rfl (lv_at hl 0 rfl) ?_
  refine xget E hQ 40 (by decide) c15 rfl 0 (by decide) q155 rfl dX10_tell_17 ?_
  refine lv_aload_n hx hb dX10_tell_20 rfl (lv_at hl 0 rfl) ?_
  refine xget E hQ 40 (by decide) c15 rfl 1 (by decide) q158 rfl dX10_tell_21 ?_
  refine lv_iadd hx hb dX10_tell_24 ?_
  refine lv_topi (fun z16 e17 => ?_)
  have t18 := ib_add e17 ba1 ba2 (by decide) (by decide)
  have b19 : Bd z16 (0) (18) := ib_addb t18 ba1 ba2
  refine lv_aload_n hx hb dX10_tell_25 rfl (lv_at hl 0 rfl) ?_
  refine xget E hQ 40 (by decide) c15 rfl 2 (by decide) q161 rfl dX10_tell_26 ?_
  refine lv_iadd hx hb dX10_tell_29 ?_
  refine lv_topi (fun z20 e21 => ?_)
  have t22 := ib_add e21 b19 ba3 (by decide) (by decide)
  have b23 : Bd z20 (0) (30) := ib_addb t22 b19 ba3
  refine lv_aload_n hx hb dX10_tell_30 rfl (lv_at hl 0 rfl) ?_
  refine xget E hQ 40 (by decide) c15 rfl 1 (by decide) q158 rfl dX10_tell_31 ?_
  refine lv_iadd hx hb dX10_tell_34 ?_
  refine lv_topi (fun z24 e25 => ?_)
  have t26 := ib_add e25 b23 ba2 (by decide) (by decide)
  have b27 : Bd z24 (0) (36) := ib_addb t26 b23 ba2
  refine xputi E hs hQ 40 (by decide) c15 rfl 3 (by decide) q165 rfl rfl (Nat.le_of_ble_eq_true rfl) dX10_tell_35 (fun H locs S28 eS28 hQ => ?_)
  have hI := invX_up_40 hI eS28 ⟨a1, a2, a3, z24, rfl, ba1, ba2, ba3, b27⟩
  have c29 : S28 40 = .inr (10, [.int a1, .int a2, .int a3, .int z24, .ref (ad 41)]) := up_at eS28 rfl
  refine lv_aload_n hx hb dX10_tell_38 rfl (lv_at hl 0 rfl) ?_
  refine xget E hQ 40 (by decide) c29 rfl 4 (by decide) q166 rfl dX10_tell_39 ?_
  refine lv_iconst (v := 1) hx hb dX10_tell_42 (by decide) ?_
  obtain ⟨f30, c31⟩ := invX_41 hI
  refine xcSv E hs hQ hml hl.1 (uFillI l g ad 122 hD S28 41 (by decide) 36 (by decide) f30 1 c31) mJ7_fill_53178 q596 rfl ⟨(Nat.le_of_ble_eq_true rfl), (Nat.le_of_ble_eq_true rfl)⟩ ⟨(Nat.le_of_ble_eq_true rfl), (Nat.le_of_ble_eq_true rfl)⟩ (Nat.le_of_ble_eq_true rfl) rfl dX10_tell_43 (fun S33 H locs eS33 hQ => ?_)
  have hI := invX_up_41 hI eS33 ⟨_, rfl⟩
  have c34 : S33 41 = .inl (g.2 0, 36, .inl (fillF 1 36 f30)) := up_at eS33 rfl
  refine lv_iconst (v := 0) hx hb dX10_tell_46 (by decide) ?_
  refine lv_istore (lv' := [(4, .int 0), (0, .ref (ad 40)), (1, .int a1), (2, .int a2), (3, .int a3)]) hx hb dX10_tell_47 hl (by decide) rfl (fun ls hl => ?_)
  have loop49 : ∀ (n : Nat) (S_49 : SS) (H : Heap) (locs : List Loc) (ls : Array Slot) (x49_4 : Int32), Bd x49_4 (0) (12) → (-1) * x49_4.toInt + 12 < ((n : Nat) : Int) → InvX g ad S_49 → (∀ j, j ∉ ([41] : List Nat) → S_49 j = S33 j) → Hp g ad 122 S_49 (FA ad 122) s.heap H locs → lv_has ls 5 [(4, .int x49_4), (0, .ref (ad 40)), (1, .int a1), (2, .int a2), (3, .int a3)] → W p l e (Rm 1) s m [.ref (ad 40), .int a1, .int a2, .int a3].toArray below meth c H locs 0 0 (MQ below (va_Qv (fun S' => InvX g ad S' ∧ (∀ j, j ∉ ([40, 41] : List Nat) → S' j = S j)) (QB g ad 122) (FA ad 122)) [.ref (ad 40), .int a1, .int a2, .int a3].toArray s 0 0 (FA ad 122)) (F0 m 49 ls []) := by
    intro n
    induction n with
    | zero => intro S_49 H locs ls x49_4 Bx49_4 hn49_ hI hf49 hQ hl; exfalso; have := (Bx49_4).2; omega
    | succ n49_ ih49 =>
      intro S_49 H locs ls x49_4 Bx49_4 hn49_ hI hf49 hQ hl
      refine lv_iload hx hb dX10_tell_49 (lv_at hl 0 rfl) ?_
      refine lv_aload_n hx hb dX10_tell_51 rfl (lv_at hl 1 rfl) ?_
      have c35 : S_49 40 = .inr (10, [.int a1, .int a2, .int a3, .int z24, .ref (ad 41)]) := ((hf49 40 (by decide)).trans (up_ne eS33 (by decide) c29))
      refine xget E hQ 40 (by decide) c35 rfl 0 (by decide) q155 rfl dX10_tell_52 ?_
      refine lv_icmp_ge (tgt := 79) hx hb dX10_tell_55 (by decide) (fun k36 => ?_) (fun k36 => ?_)
      · have h37 := ib_le k36
        refine lv_aload_n hx hb dX10_tell_79 rfl (lv_at hl 1 rfl) ?_
        refine xget E hQ 40 (by decide) c35 rfl 0 (by decide) q155 rfl dX10_tell_80 ?_
        refine lv_aload_n hx hb dX10_tell_83 rfl (lv_at hl 1 rfl) ?_
        refine xget E hQ 40 (by decide) c35 rfl 1 (by decide) q158 rfl dX10_tell_84 ?_
        refine lv_iadd hx hb dX10_tell_87 ?_
        refine lv_topi (fun z38 e39 => ?_)
        have t40 := ib_add e39 ba1 ba2 (by decide) (by decide)
        have b41 : Bd z38 (0) (18) := ib_addb t40 ba1 ba2
        refine lv_istore (lv' := [(4, .int z38), (0, .ref (ad 40)), (1, .int a1), (2, .int a2), (3, .int a3)]) hx hb dX10_tell_88 hl (by decide) rfl (fun ls hl => ?_)
        have loop90 : ∀ (n : Nat) (S_90 : SS) (H : Heap) (locs : List Loc) (ls : Array Slot) (x90_4 : Int32), Bd x90_4 (0) (36) → (-1) * x90_4.toInt + 36 < ((n : Nat) : Int) → InvX g ad S_90 → (∀ j, j ∉ ([41] : List Nat) → S_90 j = S_49 j) → Hp g ad 122 S_90 (FA ad 122) s.heap H locs → lv_has ls 5 [(4, .int x90_4), (0, .ref (ad 40)), (1, .int a1), (2, .int a2), (3, .int a3)] → W p l e (Rm 1) s m [.ref (ad 40), .int a1, .int a2, .int a3].toArray below meth c H locs 0 0 (MQ below (va_Qv (fun S' => InvX g ad S' ∧ (∀ j, j ∉ ([40, 41] : List Nat) → S' j = S j)) (QB g ad 122) (FA ad 122)) [.ref (ad 40), .int a1, .int a2, .int a3].toArray s 0 0 (FA ad 122)) (F0 m 90 ls []) := by
          intro n
          induction n with
          | zero => intro S_90 H locs ls x90_4 Bx90_4 hn90_ hI hf90 hQ hl; exfalso; have := (Bx90_4).2; omega
          | succ n90_ ih90 =>
            intro S_90 H locs ls x90_4 Bx90_4 hn90_ hI hf90 hQ hl
            refine lv_iload hx hb dX10_tell_90 (lv_at hl 0 rfl) ?_
            refine lv_aload_n hx hb dX10_tell_92 rfl (lv_at hl 1 rfl) ?_
            have c42 : S_90 40 = .inr (10, [.int a1, .int a2, .int a3, .int z24, .ref (ad 41)]) := ((hf90 40 (by decide)).trans c35)
            refine xget E hQ 40 (by decide) c42 rfl 3 (by decide) q165 rfl dX10_tell_93 ?_
            refine lv_aload_n hx hb dX10_tell_96 rfl (lv_at hl 1 rfl) ?_
            refine xget E hQ 40 (by decide) c42 rfl 1 (by decide) q158 rfl dX10_tell_97 ?_
            refine lv_isub hx hb dX10_tell_100 ?_
            refine lv_topi (fun z43 e44 => ?_)
            have t45 := ib_sub e44 b27 ba2 (by decide) (by decide)
            have b46 : Bd z43 (-6) (36) := ib_subb t45 b27 ba2
            refine lv_icmp_ge (tgt := 125) hx hb dX10_tell_101 (by decide) (fun k47 => ?_) (fun k47 => ?_)
            · have h48 := ib_le k47
              exact xrv E hr hlk hQ (⟨hI, (o_trans (o_trans (up_o (up_o (up_o (up_o (up_o o_refl eS10 (by decide)) eS12 (by decide)) eS14 (by decide)) eS28 (by decide)) eS33 (by decide)) hf49 (by decide)) hf90 (by decide))⟩) dX10_tell_125
            · have h49 := ib_nle k47
              have b50 : Bd x90_4 (0) (35) := ⟨(Bx90_4).1, ((rf_lt Bx90_4 b46 h49).1).2⟩
              have b51 : Bd z43 (1) (36) := ⟨((rf_lt Bx90_4 b46 h49).2).1, (b46).2⟩
              refine lv_iload hx hb dX10_tell_104 (lv_at hl 0 rfl) ?_
              refine lv_bipush (v := 36) hx hb dX10_tell_106 (by decide) ?_
              refine lv_icmp_ge (tgt := 125) hx hb dX10_tell_108 (by decide) (fun k52 => ?_) (fun k52 => ?_)
              · have h53 := ib_le k52
                exact absurd (Int.le_trans ((by decide : Bd 36 (36) (36))).1 ((rf_le (by decide : Bd 36 (36) (36)) b50 h53).1).2) (by decide)
              · have h54 := ib_nle k52
                refine lv_aload_n hx hb dX10_tell_111 rfl (lv_at hl 1 rfl) ?_
                refine xget E hQ 40 (by decide) c42 rfl 4 (by decide) q166 rfl dX10_tell_112 ?_
                refine lv_iload hx hb dX10_tell_115 (lv_at hl 0 rfl) ?_
                refine lv_iconst (v := 2) hx hb dX10_tell_117 (by decide) ?_
                obtain ⟨f55, c56⟩ := invX_41 hI
                refine xiast E hs hQ 41 (by decide) c56 (ib_in b50 (by decide) (by decide)) dX10_tell_118 (fun H locs S58 eS58 hQ => ?_)
                have hI := invX_up_41 hI eS58 ⟨_, rfl⟩
                have c59 : S58 41 = .inl (g.2 0, 36, .inl (upd f55 (x90_4 : Int32).toNatClampNeg 2)) := up_at eS58 rfl
                obtain ⟨z60, e61⟩ : ∃ z : Int32, z = x90_4 + 1 := ⟨_, rfl⟩
                have t62 := ib_add e61 b50 (by decide : Bd 1 (1) (1)) (by decide) (by decide)
                have b63 : Bd z60 (1) (36) := ib_addb t62 b50 (by decide : Bd 1 (1) (1))
                have t62 : z60.toInt = x90_4.toInt + 1 := fold_add t62 rfl (by decide)
                refine lv_iinc (v := z60) (lv' := [(4, .int z60), (0, .ref (ad 40)), (1, .int a1), (2, .int a2), (3, .int a3)]) hx hb dX10_tell_119 hl (k := 0) rfl (by rw [e61]; rfl) (by decide) rfl (fun ls hl => ?_)
                refine lv_goto (tgt := 90) hx hb dX10_tell_122 (by decide) ?_
                exact ih90 _ _ _ _ z60 (ib_wk b63 (by decide) (by decide)) (by omega) hI (up_o hf90 eS58 (by decide)) hQ (lv_sub hl [0, 1, 2, 3, 4] rfl)
        obtain ⟨n90, hn90⟩ := fu_n ((-1) * z38.toInt + 36)
        exact loop90 n90 _ _ _ _ z38 (ib_wk b41 (by decide) (by decide)) (by omega) hI o_refl hQ (lv_sub hl [0, 1, 2, 3, 4] rfl)
      · have h64 := ib_nle k36
        have b65 : Bd x49_4 (0) (11) := ⟨(Bx49_4).1, ((rf_lt Bx49_4 ba1 h64).1).2⟩
        have b66 : Bd a1 (1) (12) := ⟨((rf_lt Bx49_4 ba1 h64).2).1, (ba1).2⟩
        refine lv_iload hx hb dX10_tell_58 (lv_at hl 0 rfl) ?_
        refine lv_bipush (v := 36) hx hb dX10_tell_60 (by decide) ?_
        refine lv_icmp_ge (tgt := 79) hx hb dX10_tell_62 (by decide) (fun k67 => ?_) (fun k67 => ?_)
        · have h68 := ib_le k67
          exact absurd (Int.le_trans ((by decide : Bd 36 (36) (36))).1 ((rf_le (by decide : Bd 36 (36) (36)) b65 h68).1).2) (by decide)
        · have h69 := ib_nle k67
          refine lv_aload_n hx hb dX10_tell_65 rfl (lv_at hl 1 rfl) ?_
          refine xget E hQ 40 (by decide) c35 rfl 4 (by decide) q166 rfl dX10_tell_66 ?_
          refine lv_iload hx hb dX10_tell_69 (lv_at hl 0 rfl) ?_
          refine lv_iconst (v := 0) hx hb dX10_tell_71 (by decide) ?_
          obtain ⟨f70, c71⟩ := invX_41 hI
          refine xiast E hs hQ 41 (by decide) c71 (ib_in b65 (by decide) (by decide)) dX10_tell_72 (fun H locs S73 eS73 hQ => ?_)
          have hI := invX_up_41 hI eS73 ⟨_, rfl⟩
          have c74 : S73 41 = .inl (g.2 0, 36, .inl (upd f70 (x49_4 : Int32).toNatClampNeg 0)) := up_at eS73 rfl
          obtain ⟨z75, e76⟩ : ∃ z : Int32, z = x49_4 + 1 := ⟨_, rfl⟩
          have t77 := ib_add e76 b65 (by decide : Bd 1 (1) (1)) (by decide) (by decide)
          have b78 : Bd z75 (1) (12) := ib_addb t77 b65 (by decide : Bd 1 (1) (1))
          have t77 : z75.toInt = x49_4.toInt + 1 := fold_add t77 rfl (by decide)
          refine lv_iinc (v := z75) (lv' := [(4, .int z75), (0, .ref (ad 40)), (1, .int a1), (2, .int a2), (3, .int a3)]) hx hb dX10_tell_73 hl (k := 0) rfl (by rw [e76]; rfl) (by decide) rfl (fun ls hl => ?_)
          refine lv_goto (tgt := 49) hx hb dX10_tell_76 (by decide) ?_
          exact ih49 _ _ _ _ z75 (ib_wk b78 (by decide) (by decide)) (by omega) hI (up_o hf49 eS73 (by decide)) hQ (lv_sub hl [0, 1, 2, 3, 4] rfl)
  obtain ⟨n49, hn49⟩ := fu_n (12)
  exact loop49 n49 _ _ _ _ 0 (ib_wk (by decide : Bd 0 (0) (0)) (by decide) (by decide)) (by have : (0 : Int32).toInt = 0 := (by decide); omega) hI o_refl hQ (lv_sub hl [0, 1, 2, 3, 4] rfl)
set_option maxHeartbeats 4000000 in
set_option maxRecDepth 100000 in
theorem gX10_tell_58 (l : Launch) (g : GG) (ad : Nat → Nat) (hD : Dj ad 122) (S : SS) (hI : InvX g ad S) (a1 : Int32) (a2 : Int32) (a3 : Int32) (ba1 : Bd a1 (0) (12)) (ba2 : Bd a2 (0) (6)) (ba3 : Bd a3 (0) (12)) : Met l yX10_tell (wG (.code yX10_tell cX10_tell 5 none)) (Rm 1) (XPre g ad 122 S [.ref (ad 58), .int a1, .int a2, .int a3]) (va_Qv (fun S' => InvX g ad S' ∧ (∀ j, j ∉ ([58, 59] : List Nat) → S' j = S j)) (QB g ad 122) (FA ad 122)) 0 0 (FA ad 122) := by
  refine xmet cX10_tell "EbbWreck$Tide" (by decide) rfl (Nat.le_of_ble_eq_true rfl) (fun p e s m below meth c E hr hlk hml hQ ls hl => ?_)
  have hx := E.1
  have hb := E.2.1
  have hs : Sp ad 122 (FA ad 122) := Sp.fa hD
  have hl : lv_has ls 5 [(0, .ref (ad 58)), (1, .int a1), (2, .int a2), (3, .int a3)] := hl
  refine lv_aload_n hx hb dX10_tell_0 rfl (lv_at hl 0 rfl) ?_
  refine lv_iload_n hx hb dX10_tell_1 rfl (lv_at hl 1 rfl) ?_
  obtain ⟨v1, v3, v5, v7, c9, b2, b4, b6, b8⟩ := invX_58 hI
  have c9 : S 58 = .inr (10, [.int v1, .int v3, .int v5, .int v7, .ref (ad 59)]) := c9
  refine xputi E hs hQ 58 (by decide) c9 rfl 0 (by decide) q155 rfl rfl (Nat.le_of_ble_eq_true rfl) dX10_tell_2 (fun H locs S10 eS10 hQ => ?_)
  have hI := invX_up_58 hI eS10 ⟨a1, v3, v5, v7, rfl, ba1, b4, b6, b8⟩
  have c11 : S10 58 = .inr (10, [.int a1, .int v3, .int v5, .int v7, .ref (ad 59)]) := up_at eS10 rfl
  refine lv_aload_n hx hb dX10_tell_5 rfl (lv_at hl 0 rfl) ?_
  refine lv_iload_n hx hb dX10_tell_6 rfl (lv_at hl 2 rfl) ?_
  refine xputi E hs hQ 58 (by decide) c11 rfl 1 (by decide) q158 rfl rfl (Nat.le_of_ble_eq_true rfl) dX10_tell_7 (fun H locs S12 eS12 hQ => ?_)
  have hI := invX_up_58 hI eS12 ⟨a1, a2, v5, v7, rfl, ba1, ba2, b6, b8⟩
  have c13 : S12 58 = .inr (10, [.int a1, .int a2, .int v5, .int v7, .ref (ad 59)]) := up_at eS12 rfl
  refine lv_aload_n hx hb dX10_tell_10 rfl (lv_at hl 0 rfl) ?_
  refine lv_iload_n hx hb dX10_tell_11 rfl (lv_at hl 3 rfl) ?_
  refine xputi E hs hQ 58 (by decide) c13 rfl 2 (by decide) q161 rfl rfl (Nat.le_of_ble_eq_true rfl) dX10_tell_12 (fun H locs S14 eS14 hQ => ?_)
  have hI := invX_up_58 hI eS14 ⟨a1, a2, a3, v7, rfl, ba1, ba2, ba3, b8⟩
  have c15 : S14 58 = .inr (10, [.int a1, .int a2, .int a3, .int v7, .ref (ad 59)]) := up_at eS14 rfl
  refine lv_aload_n hx hb dX10_tell_15 rfl (lv_at hl 0 rfl) ?_
  refine lv_aload_n hx hb dX10_tell_16 rfl (lv_at hl 0 rfl) ?_
  refine xget E hQ 58 (by decide) c15 rfl 0 (by decide) q155 rfl dX10_tell_17 ?_
  refine lv_aload_n hx hb dX10_tell_20 rfl (lv_at hl 0 rfl) ?_
  refine xget E hQ 58 (by decide) c15 rfl 1 (by decide) q158 rfl dX10_tell_21 ?_
  refine lv_iadd hx hb dX10_tell_24 ?_
  refine lv_topi (fun z16 e17 => ?_)
  have t18 := ib_add e17 ba1 ba2 (by decide) (by decide)
  have b19 : Bd z16 (0) (18) := ib_addb t18 ba1 ba2
  refine lv_aload_n hx hb dX10_tell_25 rfl (lv_at hl 0 rfl) ?_
  refine xget E hQ 58 (by decide) c15 rfl 2 (by decide) q161 rfl dX10_tell_26 ?_
  refine lv_iadd hx hb dX10_tell_29 ?_
  refine lv_topi (fun z20 e21 => ?_)
  have t22 := ib_add e21 b19 ba3 (by decide) (by decide)
  have b23 : Bd z20 (0) (30) := ib_addb t22 b19 ba3
  refine lv_aload_n hx hb dX10_tell_30 rfl (lv_at hl 0 rfl) ?_
  refine xget E hQ 58 (by decide) c15 rfl 1 (by decide) q158 rfl dX10_tell_31 ?_
  refine lv_iadd hx hb dX10_tell_34 ?_
  refine lv_topi (fun z24 e25 => ?_)
  have t26 := ib_add e25 b23 ba2 (by decide) (by decide)
  have b27 : Bd z24 (0) (36) := ib_addb t26 b23 ba2
  refine xputi E hs hQ 58 (by decide) c15 rfl 3 (by decide) q165 rfl rfl (Nat.le_of_ble_eq_true rfl) dX10_tell_35 (fun H locs S28 eS28 hQ => ?_)
  have hI := invX_up_58 hI eS28 ⟨a1, a2, a3, z24, rfl, ba1, ba2, ba3, b27⟩
  have c29 : S28 58 = .inr (10, [.int a1, .int a2, .int a3, .int z24, .ref (ad 59)]) := up_at eS28 rfl
  refine lv_aload_n hx hb dX10_tell_38 rfl (lv_at hl 0 rfl) ?_
  refine xget E hQ 58 (by decide) c29 rfl 4 (by decide) q166 rfl dX10_tell_39 ?_
  refine lv_iconst (v := 1) hx hb dX10_tell_42 (by decide) ?_
  obtain ⟨f30, c31⟩ := invX_59 hI
  refine xcSv E hs hQ hml hl.1 (uFillI l g ad 122 hD S28 59 (by decide) 36 (by decide) f30 1 c31) mJ7_fill_53178 q596 rfl ⟨(Nat.le_of_ble_eq_true rfl), (Nat.le_of_ble_eq_true rfl)⟩ ⟨(Nat.le_of_ble_eq_true rfl), (Nat.le_of_ble_eq_true rfl)⟩ (Nat.le_of_ble_eq_true rfl) rfl dX10_tell_43 (fun S33 H locs eS33 hQ => ?_)
  have hI := invX_up_59 hI eS33 ⟨_, rfl⟩
  have c34 : S33 59 = .inl (g.2 0, 36, .inl (fillF 1 36 f30)) := up_at eS33 rfl
  refine lv_iconst (v := 0) hx hb dX10_tell_46 (by decide) ?_
  refine lv_istore (lv' := [(4, .int 0), (0, .ref (ad 58)), (1, .int a1), (2, .int a2), (3, .int a3)]) hx hb dX10_tell_47 hl (by decide) rfl (fun ls hl => ?_)
  have loop49 : ∀ (n : Nat) (S_49 : SS) (H : Heap) (locs : List Loc) (ls : Array Slot) (x49_4 : Int32), Bd x49_4 (0) (12) → (-1) * x49_4.toInt + 12 < ((n : Nat) : Int) → InvX g ad S_49 → (∀ j, j ∉ ([59] : List Nat) → S_49 j = S33 j) → Hp g ad 122 S_49 (FA ad 122) s.heap H locs → lv_has ls 5 [(4, .int x49_4), (0, .ref (ad 58)), (1, .int a1), (2, .int a2), (3, .int a3)] → W p l e (Rm 1) s m [.ref (ad 58), .int a1, .int a2, .int a3].toArray below meth c H locs 0 0 (MQ below (va_Qv (fun S' => InvX g ad S' ∧ (∀ j, j ∉ ([58, 59] : List Nat) → S' j = S j)) (QB g ad 122) (FA ad 122)) [.ref (ad 58), .int a1, .int a2, .int a3].toArray s 0 0 (FA ad 122)) (F0 m 49 ls []) := by
    intro n
    induction n with
    | zero => intro S_49 H locs ls x49_4 Bx49_4 hn49_ hI hf49 hQ hl; exfalso; have := (Bx49_4).2; omega
    | succ n49_ ih49 =>
      intro S_49 H locs ls x49_4 Bx49_4 hn49_ hI hf49 hQ hl
      refine lv_iload hx hb dX10_tell_49 (lv_at hl 0 rfl) ?_
      refine lv_aload_n hx hb dX10_tell_51 rfl (lv_at hl 1 rfl) ?_
      have c35 : S_49 58 = .inr (10, [.int a1, .int a2, .int a3, .int z24, .ref (ad 59)]) := ((hf49 58 (by decide)).trans (up_ne eS33 (by decide) c29))
      refine xget E hQ 58 (by decide) c35 rfl 0 (by decide) q155 rfl dX10_tell_52 ?_
      refine lv_icmp_ge (tgt := 79) hx hb dX10_tell_55 (by decide) (fun k36 => ?_) (fun k36 => ?_)
      · have h37 := ib_le k36
        refine lv_aload_n hx hb dX10_tell_79 rfl (lv_at hl 1 rfl) ?_
        refine xget E hQ 58 (by decide) c35 rfl 0 (by decide) q155 rfl dX10_tell_80 ?_
        refine lv_aload_n hx hb dX10_tell_83 rfl (lv_at hl 1 rfl) ?_
        refine xget E hQ 58 (by decide) c35 rfl 1 (by decide) q158 rfl dX10_tell_84 ?_
        refine lv_iadd hx hb dX10_tell_87 ?_
        refine lv_topi (fun z38 e39 => ?_)
        have t40 := ib_add e39 ba1 ba2 (by decide) (by decide)
        have b41 : Bd z38 (0) (18) := ib_addb t40 ba1 ba2
        refine lv_istore (lv' := [(4, .int z38), (0, .ref (ad 58)), (1, .int a1), (2, .int a2), (3, .int a3)]) hx hb dX10_tell_88 hl (by decide) rfl (fun ls hl => ?_)
        have loop90 : ∀ (n : Nat) (S_90 : SS) (H : Heap) (locs : List Loc) (ls : Array Slot) (x90_4 : Int32), Bd x90_4 (0) (36) → (-1) * x90_4.toInt + 36 < ((n : Nat) : Int) → InvX g ad S_90 → (∀ j, j ∉ ([59] : List Nat) → S_90 j = S_49 j) → Hp g ad 122 S_90 (FA ad 122) s.heap H locs → lv_has ls 5 [(4, .int x90_4), (0, .ref (ad 58)), (1, .int a1), (2, .int a2), (3, .int a3)] → W p l e (Rm 1) s m [.ref (ad 58), .int a1, .int a2, .int a3].toArray below meth c H locs 0 0 (MQ below (va_Qv (fun S' => InvX g ad S' ∧ (∀ j, j ∉ ([58, 59] : List Nat) → S' j = S j)) (QB g ad 122) (FA ad 122)) [.ref (ad 58), .int a1, .int a2, .int a3].toArray s 0 0 (FA ad 122)) (F0 m 90 ls []) := by
          intro n
          induction n with
          | zero => intro S_90 H locs ls x90_4 Bx90_4 hn90_ hI hf90 hQ hl; exfalso; have := (Bx90_4).2; omega
          | succ n90_ ih90 =>
            intro S_90 H locs ls x90_4 Bx90_4 hn90_ hI hf90 hQ hl
            refine lv_iload hx hb dX10_tell_90 (lv_at hl 0 rfl) ?_
            refine lv_aload_n hx hb dX10_tell_92 rfl (lv_at hl 1 rfl) ?_
            have c42 : S_90 58 = .inr (10, [.int a1, .int a2, .int a3, .int z24, .ref (ad 59)]) := ((hf90 58 (by decide)).trans c35)
            refine xget E hQ 58 (by decide) c42 rfl 3 (by decide) q165 rfl dX10_tell_93 ?_
            refine lv_aload_n hx hb dX10_tell_96 rfl (lv_at hl 1 rfl) ?_
            refine xget E hQ 58 (by decide) c42 rfl 1 (by decide) q158 rfl dX10_tell_97 ?_
            refine lv_isub hx hb dX10_tell_100 ?_
            refine lv_topi (fun z43 e44 => ?_)
            have t45 := ib_sub e44 b27 ba2 (by decide) (by decide)
            have b46 : Bd z43 (-6) (36) := ib_subb t45 b27 ba2
            refine lv_icmp_ge (tgt := 125) hx hb dX10_tell_101 (by decide) (fun k47 => ?_) (fun k47 => ?_)
            · have h48 := ib_le k47
              exact xrv E hr hlk hQ (⟨hI, (o_trans (o_trans (up_o (up_o (up_o (up_o (up_o o_refl eS10 (by decide)) eS12 (by decide)) eS14 (by decide)) eS28 (by decide)) eS33 (by decide)) hf49 (by decide)) hf90 (by decide))⟩) dX10_tell_125
            · have h49 := ib_nle k47
              have b50 : Bd x90_4 (0) (35) := ⟨(Bx90_4).1, ((rf_lt Bx90_4 b46 h49).1).2⟩
              have b51 : Bd z43 (1) (36) := ⟨((rf_lt Bx90_4 b46 h49).2).1, (b46).2⟩
              refine lv_iload hx hb dX10_tell_104 (lv_at hl 0 rfl) ?_
              refine lv_bipush (v := 36) hx hb dX10_tell_106 (by decide) ?_
              refine lv_icmp_ge (tgt := 125) hx hb dX10_tell_108 (by decide) (fun k52 => ?_) (fun k52 => ?_)
              · have h53 := ib_le k52
                exact absurd (Int.le_trans ((by decide : Bd 36 (36) (36))).1 ((rf_le (by decide : Bd 36 (36) (36)) b50 h53).1).2) (by decide)
              · have h54 := ib_nle k52
                refine lv_aload_n hx hb dX10_tell_111 rfl (lv_at hl 1 rfl) ?_
                refine xget E hQ 58 (by decide) c42 rfl 4 (by decide) q166 rfl dX10_tell_112 ?_
                refine lv_iload hx hb dX10_tell_115 (lv_at hl 0 rfl) ?_
                refine lv_iconst (v := 2) hx hb dX10_tell_117 (by decide) ?_
                obtain ⟨f55, c56⟩ := invX_59 hI
                refine xiast E hs hQ 59 (by decide) c56 (ib_in b50 (by decide) (by decide)) dX10_tell_118 (fun H locs S58 eS58 hQ => ?_)
                have hI := invX_up_59 hI eS58 ⟨_, rfl⟩
                have c59 : S58 59 = .inl (g.2 0, 36, .inl (upd f55 (x90_4 : Int32).toNatClampNeg 2)) := up_at eS58 rfl
                obtain ⟨z60, e61⟩ : ∃ z : Int32, z = x90_4 + 1 := ⟨_, rfl⟩
                have t62 := ib_add e61 b50 (by decide : Bd 1 (1) (1)) (by decide) (by decide)
                have b63 : Bd z60 (1) (36) := ib_addb t62 b50 (by decide : Bd 1 (1) (1))
                have t62 : z60.toInt = x90_4.toInt + 1 := fold_add t62 rfl (by decide)
                refine lv_iinc (v := z60) (lv' := [(4, .int z60), (0, .ref (ad 58)), (1, .int a1), (2, .int a2), (3, .int a3)]) hx hb dX10_tell_119 hl (k := 0) rfl (by rw [e61]; rfl) (by decide) rfl (fun ls hl => ?_)
                refine lv_goto (tgt := 90) hx hb dX10_tell_122 (by decide) ?_
                exact ih90 _ _ _ _ z60 (ib_wk b63 (by decide) (by decide)) (by omega) hI (up_o hf90 eS58 (by decide)) hQ (lv_sub hl [0, 1, 2, 3, 4] rfl)
        obtain ⟨n90, hn90⟩ := fu_n ((-1) * z38.toInt + 36)
        exact loop90 n90 _ _ _ _ z38 (ib_wk b41 (by decide) (by decide)) (by omega) hI o_refl hQ (lv_sub hl [0, 1, 2, 3, 4] rfl)
      · have h64 := ib_nle k36
        have b65 : Bd x49_4 (0) (11) := ⟨(Bx49_4).1, ((rf_lt Bx49_4 ba1 h64).1).2⟩
        have b66 : Bd a1 (1) (12) := ⟨((rf_lt Bx49_4 ba1 h64).2).1, (ba1).2⟩
        refine lv_iload hx hb dX10_tell_58 (lv_at hl 0 rfl) ?_
        refine lv_bipush (v := 36) hx hb dX10_tell_60 (by decide) ?_
        refine lv_icmp_ge (tgt := 79) hx hb dX10_tell_62 (by decide) (fun k67 => ?_) (fun k67 => ?_)
        · have h68 := ib_le k67
          exact absurd (Int.le_trans ((by decide : Bd 36 (36) (36))).1 ((rf_le (by decide : Bd 36 (36) (36)) b65 h68).1).2) (by decide)
        · have h69 := ib_nle k67
          refine lv_aload_n hx hb dX10_tell_65 rfl (lv_at hl 1 rfl) ?_
          refine xget E hQ 58 (by decide) c35 rfl 4 (by decide) q166 rfl dX10_tell_66 ?_
          refine lv_iload hx hb dX10_tell_69 (lv_at hl 0 rfl) ?_
          refine lv_iconst (v := 0) hx hb dX10_tell_71 (by decide) ?_
          obtain ⟨f70, c71⟩ := invX_59 hI
          refine xiast E hs hQ 59 (by decide) c71 (ib_in b65 (by decide) (by decide)) dX10_tell_72 (fun H locs S73 eS73 hQ => ?_)
          have hI := invX_up_59 hI eS73 ⟨_, rfl⟩
          have c74 : S73 59 = .inl (g.2 0, 36, .inl (upd f70 (x49_4 : Int32).toNatClampNeg 0)) := up_at eS73 rfl
          obtain ⟨z75, e76⟩ : ∃ z : Int32, z = x49_4 + 1 := ⟨_, rfl⟩
          have t77 := ib_add e76 b65 (by decide : Bd 1 (1) (1)) (by decide) (by decide)
          have b78 : Bd z75 (1) (12) := ib_addb t77 b65 (by decide : Bd 1 (1) (1))
          have t77 : z75.toInt = x49_4.toInt + 1 := fold_add t77 rfl (by decide)
          refine lv_iinc (v := z75) (lv' := [(4, .int z75), (0, .ref (ad 58)), (1, .int a1), (2, .int a2), (3, .int a3)]) hx hb dX10_tell_73 hl (k := 0) rfl (by rw [e76]; rfl) (by decide) rfl (fun ls hl => ?_)
          refine lv_goto (tgt := 49) hx hb dX10_tell_76 (by decide) ?_
          exact ih49 _ _ _ _ z75 (ib_wk b78 (by decide) (by decide)) (by omega) hI (up_o hf49 eS73 (by decide)) hQ (lv_sub hl [0, 1, 2, 3, 4] rfl)
  obtain ⟨n49, hn49⟩ := fu_n (12)
  exact loop49 n49 _ _ _ _ 0 (ib_wk (by decide : Bd 0 (0) (0)) (by decide) (by decide)) (by have : (0 : Int32).toInt = 0 := (by decide); omega) hI o_refl hQ (lv_sub hl [0, 1, 2, 3, 4] rfl)
set_option maxHeartbeats 4000000 in
set_option maxRecDepth 100000 in
theorem gX10_tell_76 (l : Launch) (g : GG) (ad : Nat → Nat) (hD : Dj ad 122) (S : SS) (hI : InvX g ad S) (a1 : Int32) (a2 : Int32) (a3 : Int32) (ba1 : Bd a1 (0) (12)) (ba2 : Bd a2 (0) (6)) (ba3 : Bd a3 (0) (12)) : Met l yX10_tell (wG (.code yX10_tell cX10_tell 5 none)) (Rm 1) (XPre g ad 122 S [.ref (ad 76), .int a1, .int a2, .int a3]) (va_Qv (fun S' => InvX g ad S' ∧ (∀ j, j ∉ ([76, 77] : List Nat) → S' j = S j)) (QB g ad 122) (FA ad 122)) 0 0 (FA ad 122) := by
  refine xmet cX10_tell "EbbWreck$Tide" (by decide) rfl (Nat.le_of_ble_eq_true rfl) (fun p e s m below meth c E hr hlk hml hQ ls hl => ?_)
  have hx := E.1
  have hb := E.2.1
  have hs : Sp ad 122 (FA ad 122) := Sp.fa hD
  have hl : lv_has ls 5 [(0, .ref (ad 76)), (1, .int a1), (2, .int a2), (3, .int a3)] := hl
  refine lv_aload_n hx hb dX10_tell_0 rfl (lv_at hl 0 rfl) ?_
  refine lv_iload_n hx hb dX10_tell_1 rfl (lv_at hl 1 rfl) ?_
  obtain ⟨v1, v3, v5, v7, c9, b2, b4, b6, b8⟩ := invX_76 hI
  have c9 : S 76 = .inr (10, [.int v1, .int v3, .int v5, .int v7, .ref (ad 77)]) := c9
  refine xputi E hs hQ 76 (by decide) c9 rfl 0 (by decide) q155 rfl rfl (Nat.le_of_ble_eq_true rfl) dX10_tell_2 (fun H locs S10 eS10 hQ => ?_)
  have hI := invX_up_76 hI eS10 ⟨a1, v3, v5, v7, rfl, ba1, b4, b6, b8⟩
  have c11 : S10 76 = .inr (10, [.int a1, .int v3, .int v5, .int v7, .ref (ad 77)]) := up_at eS10 rfl
  refine lv_aload_n hx hb dX10_tell_5 rfl (lv_at hl 0 rfl) ?_
  refine lv_iload_n hx hb dX10_tell_6 rfl (lv_at hl 2 rfl) ?_
  refine xputi E hs hQ 76 (by decide) c11 rfl 1 (by decide) q158 rfl rfl (Nat.le_of_ble_eq_true rfl) dX10_tell_7 (fun H locs S12 eS12 hQ => ?_)
  have hI := invX_up_76 hI eS12 ⟨a1, a2, v5, v7, rfl, ba1, ba2, b6, b8⟩
  have c13 : S12 76 = .inr (10, [.int a1, .int a2, .int v5, .int v7, .ref (ad 77)]) := up_at eS12 rfl
  refine lv_aload_n hx hb dX10_tell_10 rfl (lv_at hl 0 rfl) ?_
  refine lv_iload_n hx hb dX10_tell_11 rfl (lv_at hl 3 rfl) ?_
  refine xputi E hs hQ 76 (by decide) c13 rfl 2 (by decide) q161 rfl rfl (Nat.le_of_ble_eq_true rfl) dX10_tell_12 (fun H locs S14 eS14 hQ => ?_)
  have hI := invX_up_76 hI eS14 ⟨a1, a2, a3, v7, rfl, ba1, ba2, ba3, b8⟩
  have c15 : S14 76 = .inr (10, [.int a1, .int a2, .int a3, .int v7, .ref (ad 77)]) := up_at eS14 rfl
  refine lv_aload_n hx hb dX10_tell_15 rfl (lv_at hl 0 rfl) ?_
  refine lv_aload_n hx hb dX10_tell_16 rfl (lv_at hl 0 rfl) ?_
  refine xget E hQ 76 (by decide) c15 rfl 0 (by decide) q155 rfl dX10_tell_17 ?_
  refine lv_aload_n hx hb dX10_tell_20 rfl (lv_at hl 0 rfl) ?_
  refine xget E hQ 76 (by decide) c15 rfl 1 (by decide) q158 rfl dX10_tell_21 ?_
  refine lv_iadd hx hb dX10_tell_24 ?_
  refine lv_topi (fun z16 e17 => ?_)
  have t18 := ib_add e17 ba1 ba2 (by decide) (by decide)
  have b19 : Bd z16 (0) (18) := ib_addb t18 ba1 ba2
  refine lv_aload_n hx hb dX10_tell_25 rfl (lv_at hl 0 rfl) ?_
  refine xget E hQ 76 (by decide) c15 rfl 2 (by decide) q161 rfl dX10_tell_26 ?_
  refine lv_iadd hx hb dX10_tell_29 ?_
  refine lv_topi (fun z20 e21 => ?_)
  have t22 := ib_add e21 b19 ba3 (by decide) (by decide)
  have b23 : Bd z20 (0) (30) := ib_addb t22 b19 ba3
  refine lv_aload_n hx hb dX10_tell_30 rfl (lv_at hl 0 rfl) ?_
  refine xget E hQ 76 (by decide) c15 rfl 1 (by decide) q158 rfl dX10_tell_31 ?_
  refine lv_iadd hx hb dX10_tell_34 ?_
  refine lv_topi (fun z24 e25 => ?_)
  have t26 := ib_add e25 b23 ba2 (by decide) (by decide)
  have b27 : Bd z24 (0) (36) := ib_addb t26 b23 ba2
  refine xputi E hs hQ 76 (by decide) c15 rfl 3 (by decide) q165 rfl rfl (Nat.le_of_ble_eq_true rfl) dX10_tell_35 (fun H locs S28 eS28 hQ => ?_)
  have hI := invX_up_76 hI eS28 ⟨a1, a2, a3, z24, rfl, ba1, ba2, ba3, b27⟩
  have c29 : S28 76 = .inr (10, [.int a1, .int a2, .int a3, .int z24, .ref (ad 77)]) := up_at eS28 rfl
  refine lv_aload_n hx hb dX10_tell_38 rfl (lv_at hl 0 rfl) ?_
  refine xget E hQ 76 (by decide) c29 rfl 4 (by decide) q166 rfl dX10_tell_39 ?_
  refine lv_iconst (v := 1) hx hb dX10_tell_42 (by decide) ?_
  obtain ⟨f30, c31⟩ := invX_77 hI
  refine xcSv E hs hQ hml hl.1 (uFillI l g ad 122 hD S28 77 (by decide) 36 (by decide) f30 1 c31) mJ7_fill_53178 q596 rfl ⟨(Nat.le_of_ble_eq_true rfl), (Nat.le_of_ble_eq_true rfl)⟩ ⟨(Nat.le_of_ble_eq_true rfl), (Nat.le_of_ble_eq_true rfl)⟩ (Nat.le_of_ble_eq_true rfl) rfl dX10_tell_43 (fun S33 H locs eS33 hQ => ?_)
  have hI := invX_up_77 hI eS33 ⟨_, rfl⟩
  have c34 : S33 77 = .inl (g.2 0, 36, .inl (fillF 1 36 f30)) := up_at eS33 rfl
  refine lv_iconst (v := 0) hx hb dX10_tell_46 (by decide) ?_
  refine lv_istore (lv' := [(4, .int 0), (0, .ref (ad 76)), (1, .int a1), (2, .int a2), (3, .int a3)]) hx hb dX10_tell_47 hl (by decide) rfl (fun ls hl => ?_)
  have loop49 : ∀ (n : Nat) (S_49 : SS) (H : Heap) (locs : List Loc) (ls : Array Slot) (x49_4 : Int32), Bd x49_4 (0) (12) → (-1) * x49_4.toInt + 12 < ((n : Nat) : Int) → InvX g ad S_49 → (∀ j, j ∉ ([77] : List Nat) → S_49 j = S33 j) → Hp g ad 122 S_49 (FA ad 122) s.heap H locs → lv_has ls 5 [(4, .int x49_4), (0, .ref (ad 76)), (1, .int a1), (2, .int a2), (3, .int a3)] → W p l e (Rm 1) s m [.ref (ad 76), .int a1, .int a2, .int a3].toArray below meth c H locs 0 0 (MQ below (va_Qv (fun S' => InvX g ad S' ∧ (∀ j, j ∉ ([76, 77] : List Nat) → S' j = S j)) (QB g ad 122) (FA ad 122)) [.ref (ad 76), .int a1, .int a2, .int a3].toArray s 0 0 (FA ad 122)) (F0 m 49 ls []) := by
    intro n
    induction n with
    | zero => intro S_49 H locs ls x49_4 Bx49_4 hn49_ hI hf49 hQ hl; exfalso; have := (Bx49_4).2; omega
    | succ n49_ ih49 =>
      intro S_49 H locs ls x49_4 Bx49_4 hn49_ hI hf49 hQ hl
      refine lv_iload hx hb dX10_tell_49 (lv_at hl 0 rfl) ?_
      refine lv_aload_n hx hb dX10_tell_51 rfl (lv_at hl 1 rfl) ?_
      have c35 : S_49 76 = .inr (10, [.int a1, .int a2, .int a3, .int z24, .ref (ad 77)]) := ((hf49 76 (by decide)).trans (up_ne eS33 (by decide) c29))
      refine xget E hQ 76 (by decide) c35 rfl 0 (by decide) q155 rfl dX10_tell_52 ?_
      refine lv_icmp_ge (tgt := 79) hx hb dX10_tell_55 (by decide) (fun k36 => ?_) (fun k36 => ?_)
      · have h37 := ib_le k36
        refine lv_aload_n hx hb dX10_tell_79 rfl (lv_at hl 1 rfl) ?_
        refine xget E hQ 76 (by decide) c35 rfl 0 (by decide) q155 rfl dX10_tell_80 ?_
        refine lv_aload_n hx hb dX10_tell_83 rfl (lv_at hl 1 rfl) ?_
        refine xget E hQ 76 (by decide) c35 rfl 1 (by decide) q158 rfl dX10_tell_84 ?_
        refine lv_iadd hx hb dX10_tell_87 ?_
        refine lv_topi (fun z38 e39 => ?_)
        have t40 := ib_add e39 ba1 ba2 (by decide) (by decide)
        have b41 : Bd z38 (0) (18) := ib_addb t40 ba1 ba2
        refine lv_istore (lv' := [(4, .int z38), (0, .ref (ad 76)), (1, .int a1), (2, .int a2), (3, .int a3)]) hx hb dX10_tell_88 hl (by decide) rfl (fun ls hl => ?_)
        have loop90 : ∀ (n : Nat) (S_90 : SS) (H : Heap) (locs : List Loc) (ls : Array Slot) (x90_4 : Int32), Bd x90_4 (0) (36) → (-1) * x90_4.toInt + 36 < ((n : Nat) : Int) → InvX g ad S_90 → (∀ j, j ∉ ([77] : List Nat) → S_90 j = S_49 j) → Hp g ad 122 S_90 (FA ad 122) s.heap H locs → lv_has ls 5 [(4, .int x90_4), (0, .ref (ad 76)), (1, .int a1), (2, .int a2), (3, .int a3)] → W p l e (Rm 1) s m [.ref (ad 76), .int a1, .int a2, .int a3].toArray below meth c H locs 0 0 (MQ below (va_Qv (fun S' => InvX g ad S' ∧ (∀ j, j ∉ ([76, 77] : List Nat) → S' j = S j)) (QB g ad 122) (FA ad 122)) [.ref (ad 76), .int a1, .int a2, .int a3].toArray s 0 0 (FA ad 122)) (F0 m 90 ls []) := by
          intro n
          induction n with
          | zero => intro S_90 H locs ls x90_4 Bx90_4 hn90_ hI hf90 hQ hl; exfalso; have := (Bx90_4).2; omega
          | succ n90_ ih90 =>
            intro S_90 H locs ls x90_4 Bx90_4 hn90_ hI hf90 hQ hl
            refine lv_iload hx hb dX10_tell_90 (lv_at hl 0 rfl) ?_
            refine lv_aload_n hx hb dX10_tell_92 rfl (lv_at hl 1 rfl) ?_
            have c42 : S_90 76 = .inr (10, [.int a1, .int a2, .int a3, .int z24, .ref (ad 77)]) := ((hf90 76 (by decide)).trans c35)
            refine xget E hQ 76 (by decide) c42 rfl 3 (by decide) q165 rfl dX10_tell_93 ?_
            refine lv_aload_n hx hb dX10_tell_96 rfl (lv_at hl 1 rfl) ?_
            refine xget E hQ 76 (by decide) c42 rfl 1 (by decide) q158 rfl dX10_tell_97 ?_
            refine lv_isub hx hb dX10_tell_100 ?_
            refine lv_topi (fun z43 e44 => ?_)
            have t45 := ib_sub e44 b27 ba2 (by decide) (by decide)
            have b46 : Bd z43 (-6) (36) := ib_subb t45 b27 ba2
            refine lv_icmp_ge (tgt := 125) hx hb dX10_tell_101 (by decide) (fun k47 => ?_) (fun k47 => ?_)
            · have h48 := ib_le k47
              exact xrv E hr hlk hQ (⟨hI, (o_trans (o_trans (up_o (up_o (up_o (up_o (up_o o_refl eS10 (by decide)) eS12 (by decide)) eS14 (by decide)) eS28 (by decide)) eS33 (by decide)) hf49 (by decide)) hf90 (by decide))⟩) dX10_tell_125
            · have h49 := ib_nle k47
              have b50 : Bd x90_4 (0) (35) := ⟨(Bx90_4).1, ((rf_lt Bx90_4 b46 h49).1).2⟩
              have b51 : Bd z43 (1) (36) := ⟨((rf_lt Bx90_4 b46 h49).2).1, (b46).2⟩
              refine lv_iload hx hb dX10_tell_104 (lv_at hl 0 rfl) ?_
              refine lv_bipush (v := 36) hx hb dX10_tell_106 (by decide) ?_
              refine lv_icmp_ge (tgt := 125) hx hb dX10_tell_108 (by decide) (fun k52 => ?_) (fun k52 => ?_)
              · have h53 := ib_le k52
                exact absurd (Int.le_trans ((by decide : Bd 36 (36) (36))).1 ((rf_le (by decide : Bd 36 (36) (36)) b50 h53).1).2) (by decide)
              · have h54 := ib_nle k52
                refine lv_aload_n hx hb dX10_tell_111 rfl (lv_at hl 1 rfl) ?_
                refine xget E hQ 76 (by decide) c42 rfl 4 (by decide) q166 rfl dX10_tell_112 ?_
                refine lv_iload hx hb dX10_tell_115 (lv_at hl 0 rfl) ?_
                refine lv_iconst (v := 2) hx hb dX10_tell_117 (by decide) ?_
                obtain ⟨f55, c56⟩ := invX_77 hI
                refine xiast E hs hQ 77 (by decide) c56 (ib_in b50 (by decide) (by decide)) dX10_tell_118 (fun H locs S58 eS58 hQ => ?_)
                have hI := invX_up_77 hI eS58 ⟨_, rfl⟩
                have c59 : S58 77 = .inl (g.2 0, 36, .inl (upd f55 (x90_4 : Int32).toNatClampNeg 2)) := up_at eS58 rfl
                obtain ⟨z60, e61⟩ : ∃ z : Int32, z = x90_4 + 1 := ⟨_, rfl⟩
                have t62 := ib_add e61 b50 (by decide : Bd 1 (1) (1)) (by decide) (by decide)
                have b63 : Bd z60 (1) (36) := ib_addb t62 b50 (by decide : Bd 1 (1) (1))
                have t62 : z60.toInt = x90_4.toInt + 1 := fold_add t62 rfl (by decide)
                refine lv_iinc (v := z60) (lv' := [(4, .int z60), (0, .ref (ad 76)), (1, .int a1), (2, .int a2), (3, .int a3)]) hx hb dX10_tell_119 hl (k := 0) rfl (by rw [e61]; rfl) (by decide) rfl (fun ls hl => ?_)
                refine lv_goto (tgt := 90) hx hb dX10_tell_122 (by decide) ?_
                exact ih90 _ _ _ _ z60 (ib_wk b63 (by decide) (by decide)) (by omega) hI (up_o hf90 eS58 (by decide)) hQ (lv_sub hl [0, 1, 2, 3, 4] rfl)
        obtain ⟨n90, hn90⟩ := fu_n ((-1) * z38.toInt + 36)
        exact loop90 n90 _ _ _ _ z38 (ib_wk b41 (by decide) (by decide)) (by omega) hI o_refl hQ (lv_sub hl [0, 1, 2, 3, 4] rfl)
      · have h64 := ib_nle k36
        have b65 : Bd x49_4 (0) (11) := ⟨(Bx49_4).1, ((rf_lt Bx49_4 ba1 h64).1).2⟩
        have b66 : Bd a1 (1) (12) := ⟨((rf_lt Bx49_4 ba1 h64).2).1, (ba1).2⟩
        refine lv_iload hx hb dX10_tell_58 (lv_at hl 0 rfl) ?_
        refine lv_bipush (v := 36) hx hb dX10_tell_60 (by decide) ?_
        refine lv_icmp_ge (tgt := 79) hx hb dX10_tell_62 (by decide) (fun k67 => ?_) (fun k67 => ?_)
        · have h68 := ib_le k67
          exact absurd (Int.le_trans ((by decide : Bd 36 (36) (36))).1 ((rf_le (by decide : Bd 36 (36) (36)) b65 h68).1).2) (by decide)
        · have h69 := ib_nle k67
          refine lv_aload_n hx hb dX10_tell_65 rfl (lv_at hl 1 rfl) ?_
          refine xget E hQ 76 (by decide) c35 rfl 4 (by decide) q166 rfl dX10_tell_66 ?_
          refine lv_iload hx hb dX10_tell_69 (lv_at hl 0 rfl) ?_
          refine lv_iconst (v := 0) hx hb dX10_tell_71 (by decide) ?_
          obtain ⟨f70, c71⟩ := invX_77 hI
          refine xiast E hs hQ 77 (by decide) c71 (ib_in b65 (by decide) (by decide)) dX10_tell_72 (fun H locs S73 eS73 hQ => ?_)
          have hI := invX_up_77 hI eS73 ⟨_, rfl⟩
          have c74 : S73 77 = .inl (g.2 0, 36, .inl (upd f70 (x49_4 : Int32).toNatClampNeg 0)) := up_at eS73 rfl
          obtain ⟨z75, e76⟩ : ∃ z : Int32, z = x49_4 + 1 := ⟨_, rfl⟩
          have t77 := ib_add e76 b65 (by decide : Bd 1 (1) (1)) (by decide) (by decide)
          have b78 : Bd z75 (1) (12) := ib_addb t77 b65 (by decide : Bd 1 (1) (1))
          have t77 : z75.toInt = x49_4.toInt + 1 := fold_add t77 rfl (by decide)
          refine lv_iinc (v := z75) (lv' := [(4, .int z75), (0, .ref (ad 76)), (1, .int a1), (2, .int a2), (3, .int a3)]) hx hb dX10_tell_73 hl (k := 0) rfl (by rw [e76]; rfl) (by decide) rfl (fun ls hl => ?_)
          refine lv_goto (tgt := 49) hx hb dX10_tell_76 (by decide) ?_
          exact ih49 _ _ _ _ z75 (ib_wk b78 (by decide) (by decide)) (by omega) hI (up_o hf49 eS73 (by decide)) hQ (lv_sub hl [0, 1, 2, 3, 4] rfl)
  obtain ⟨n49, hn49⟩ := fu_n (12)
  exact loop49 n49 _ _ _ _ 0 (ib_wk (by decide : Bd 0 (0) (0)) (by decide) (by decide)) (by have : (0 : Int32).toInt = 0 := (by decide); omega) hI o_refl hQ (lv_sub hl [0, 1, 2, 3, 4] rfl)
set_option maxHeartbeats 4000000 in
set_option maxRecDepth 100000 in
theorem gX5_readShore_94 (l : Launch) (g : GG) (tt : TT) (ad : Nat → Nat) (hD : Dj ad 122) (S : SS) (hI : InvX g ad S) : Met l yX5_readShore (wG (.code yX5_readShore cX5_readShore 4 none)) (Rm 6) (XPreT g tt ad 122 S [.ref (ad 94)]) (va_Qv (fun S' => InvX g ad S' ∧ (∀ j, j ∉ ([20, 21, 22, 94] : List Nat) → S' j = S j) ∧ (0 ≤ fld (S' 20) 1 + (-3)) ∧ (0 ≤ fld (S 20) 0 + (-1) * fld (S' 20) 0 ∧ 0 ≤ fld (S' 20) 0 + (-1) * fld (S 20) 0) ∧ (0 ≤ fld (S 20) 7 + (-1) * fld (S' 20) 7 ∧ 0 ≤ fld (S' 20) 7 + (-1) * fld (S 20) 7) ∧ (0 ≤ fld (S 20) 12 + (-1) * fld (S' 20) 12 ∧ 0 ≤ fld (S' 20) 12 + (-1) * fld (S 20) 12)) (QB g ad 122) (FA ad 122)) 0 0 (FA ad 122) := by
  refine xmetT cX5_readShore "EbbWreck$Reader" (by decide) rfl (Nat.le_of_ble_eq_true rfl) (fun p e s m below meth c E hT hr hlk hml hQ ls hl => ?_)
  have hx := E.1
  have hb := E.2.1
  have hs : Sp ad 122 (FA ad 122) := Sp.fa hD
  have hl : lv_has ls 4 [(0, .ref (ad 94))] := hl
  obtain ⟨v1, v3, v5, v6, v7, v9, c11, b2, b4, b8, b10⟩ := invX_20 hI
  have c11 : S 20 = .inr (1, [.int v1, .int v3, .int v5, .ref (ad 21), .ref (ad 23), .ref (ad 24), .int v6, .int v7, .ref (ad 25), .ref (ad 26), .ref (ad 27), .ref (ad 28), .int v9, .ref (ad 33), .ref (ad 34)]) := c11
  refine lv_aload_n hx hb dX5_readShore_0 rfl (lv_at hl 0 rfl) ?_
  refine va_ldcS hx hb E.2.2.1 (hT.2.2.2 5 (by decide) : vk_R "EbbWreck$Reader" 124 "shore" (tt.1 5) s) dX5_readShore_1 ?_
  obtain ⟨v13, v15, v16, v18, v20, v21, v22, c23, b14, b17, b19⟩ := invX_94 hI
  have c23 : S 94 = .inr (5, [.ref (ad 1), .ref (ad 20), .int v13, .int v15, .int v16, .int v18, .int v20, .int v21, .int v22]) := c23
  refine xcVvT E hs hQ hml hl.1 hT 94 (gX5_expectWord_94 l g tt ad hD S hI 5 (by decide)) mX5_expectWord q623 (by decide) c23 rfl rfl ⟨(Nat.le_of_ble_eq_true rfl), (Nat.le_of_ble_eq_true rfl)⟩ ⟨(Nat.le_of_ble_eq_true rfl), (Nat.le_of_ble_eq_true rfl)⟩ (Nat.le_of_ble_eq_true rfl) rfl dX5_readShore_3 (fun S12 H locs hp12 hQ _ => ?_)
  obtain ⟨hI, o12⟩ := hp12
  refine lv_aload_n hx hb dX5_readShore_6 rfl (lv_at hl 0 rfl) ?_
  refine va_ldcS hx hb E.2.2.1 (hT.2.2.2 6 (by decide) : vk_R "EbbWreck$Reader" 130 "cells" (tt.1 6) s) dX5_readShore_7 ?_
  obtain ⟨v25, v27, v28, v30, v32, v33, v34, c35, b26, b29, b31⟩ := invX_94 hI
  have c35 : S12 94 = .inr (5, [.ref (ad 1), .ref (ad 20), .int v25, .int v27, .int v28, .int v30, .int v32, .int v33, .int v34]) := c35
  refine xcVvT E hs hQ hml hl.1 hT 94 (gX5_expectWord_94 l g tt ad hD S12 hI 6 (by decide)) mX5_expectWord q623 (by decide) c35 rfl rfl ⟨(Nat.le_of_ble_eq_true rfl), (Nat.le_of_ble_eq_true rfl)⟩ ⟨(Nat.le_of_ble_eq_true rfl), (Nat.le_of_ble_eq_true rfl)⟩ (Nat.le_of_ble_eq_true rfl) rfl dX5_readShore_9 (fun S24 H locs hp24 hQ _ => ?_)
  obtain ⟨hI, o24⟩ := hp24
  refine lv_aload_n hx hb dX5_readShore_12 rfl (lv_at hl 0 rfl) ?_
  obtain ⟨v36, v38, v39, v41, v43, v44, v45, c46, b37, b40, b42⟩ := invX_94 hI
  have c46 : S24 94 = .inr (5, [.ref (ad 1), .ref (ad 20), .int v36, .int v38, .int v39, .int v41, .int v43, .int v44, .int v45]) := c46
  refine xget E hQ 94 (by decide) c46 rfl 1 (by decide) q343 rfl dX5_readShore_13 ?_
  refine lv_aload_n hx hb dX5_readShore_16 rfl (lv_at hl 0 rfl) ?_
  refine lv_iconst (v := 3) hx hb dX5_readShore_17 (by decide) ?_
  refine lv_bipush (v := 12) hx hb dX5_readShore_18 (by decide) ?_
  refine xcVi E hs hQ hml hl.1 94 (gX5_expectNumber_0 l g ad hD S24 hI 3 12 (by decide : Bd 3 (3) (3)) (by decide : Bd 12 (12) (12))) mX5_expectNumber q684 (by decide) c46 rfl rfl ⟨(Nat.le_of_ble_eq_true rfl), (Nat.le_of_ble_eq_true rfl)⟩ ⟨(Nat.le_of_ble_eq_true rfl), (Nat.le_of_ble_eq_true rfl)⟩ (Nat.le_of_ble_eq_true rfl) rfl dX5_readShore_20 (fun r47 S47 H locs hp47 hQ _ => ?_)
  obtain ⟨hI, o47, b47⟩ := hp47
  have c48 : S47 20 = .inr (1, [.int v1, .int v3, .int v5, .ref (ad 21), .ref (ad 23), .ref (ad 24), .int v6, .int v7, .ref (ad 25), .ref (ad 26), .ref (ad 27), .ref (ad 28), .int v9, .ref (ad 33), .ref (ad 34)]) := ((o47 20 (by decide)).trans ((o24 20 (by decide)).trans ((o12 20 (by decide)).trans c11)))
  refine xputi E hs hQ 20 (by decide) c48 rfl 1 (by decide) q245 rfl rfl (Nat.le_of_ble_eq_true rfl) dX5_readShore_23 (fun H locs S49 eS49 hQ => ?_)
  have hI := invX_up_20 hI eS49 ⟨v1, r47, v5, v6, v7, v9, rfl, b2, (ib_wk b47 (by decide) (by decide)), b8, b10⟩
  have c50 : S49 20 = .inr (1, [.int v1, .int r47, .int v5, .ref (ad 21), .ref (ad 23), .ref (ad 24), .int v6, .int v7, .ref (ad 25), .ref (ad 26), .ref (ad 27), .ref (ad 28), .int v9, .ref (ad 33), .ref (ad 34)]) := up_at eS49 rfl
  refine lv_aload_n hx hb dX5_readShore_26 rfl (lv_at hl 0 rfl) ?_
  refine va_ldcS hx hb E.2.2.1 (hT.2.2.2 7 (by decide) : vk_R "EbbWreck$Reader" 137 "flood" (tt.1 7) s) dX5_readShore_27 ?_
  obtain ⟨v52, v54, v55, v57, v59, v60, v61, c62, b53, b56, b58⟩ := invX_94 hI
  have c62 : S49 94 = .inr (5, [.ref (ad 1), .ref (ad 20), .int v52, .int v54, .int v55, .int v57, .int v59, .int v60, .int v61]) := c62
  refine xcVvT E hs hQ hml hl.1 hT 94 (gX5_expectWord_94 l g tt ad hD S49 hI 7 (by decide)) mX5_expectWord q623 (by decide) c62 rfl rfl ⟨(Nat.le_of_ble_eq_true rfl), (Nat.le_of_ble_eq_true rfl)⟩ ⟨(Nat.le_of_ble_eq_true rfl), (Nat.le_of_ble_eq_true rfl)⟩ (Nat.le_of_ble_eq_true rfl) rfl dX5_readShore_29 (fun S51 H locs hp51 hQ _ => ?_)
  obtain ⟨hI, o51⟩ := hp51
  refine lv_aload_n hx hb dX5_readShore_32 rfl (lv_at hl 0 rfl) ?_
  refine lv_iconst (v := 1) hx hb dX5_readShore_33 (by decide) ?_
  refine lv_bipush (v := 12) hx hb dX5_readShore_34 (by decide) ?_
  obtain ⟨v64, v66, v67, v69, v71, v72, v73, c74, b65, b68, b70⟩ := invX_94 hI
  have c74 : S51 94 = .inr (5, [.ref (ad 1), .ref (ad 20), .int v64, .int v66, .int v67, .int v69, .int v71, .int v72, .int v73]) := c74
  refine xcVi E hs hQ hml hl.1 94 (gX5_expectNumber_1 l g ad hD S51 hI 1 12 (by decide : Bd 1 (1) (1)) (by decide : Bd 12 (12) (12))) mX5_expectNumber q684 (by decide) c74 rfl rfl ⟨(Nat.le_of_ble_eq_true rfl), (Nat.le_of_ble_eq_true rfl)⟩ ⟨(Nat.le_of_ble_eq_true rfl), (Nat.le_of_ble_eq_true rfl)⟩ (Nat.le_of_ble_eq_true rfl) rfl dX5_readShore_36 (fun r63 S63 H locs hp63 hQ _ => ?_)
  obtain ⟨hI, o63, b63⟩ := hp63
  refine lv_istore_n (lv' := [(1, .int r63), (0, .ref (ad 94))]) hx hb dX5_readShore_39 rfl hl (by decide) rfl (fun ls hl => ?_)
  refine lv_aload_n hx hb dX5_readShore_40 rfl (lv_at hl 1 rfl) ?_
  refine va_ldcS hx hb E.2.2.1 (hT.2.2.2 8 (by decide) : vk_R "EbbWreck$Reader" 139 "slack" (tt.1 8) s) dX5_readShore_41 ?_
  obtain ⟨v76, v78, v79, v81, v83, v84, v85, c86, b77, b80, b82⟩ := invX_94 hI
  have c86 : S63 94 = .inr (5, [.ref (ad 1), .ref (ad 20), .int v76, .int v78, .int v79, .int v81, .int v83, .int v84, .int v85]) := c86
  refine xcVvT E hs hQ hml hl.1 hT 94 (gX5_expectWord_94 l g tt ad hD S63 hI 8 (by decide)) mX5_expectWord q623 (by decide) c86 rfl rfl ⟨(Nat.le_of_ble_eq_true rfl), (Nat.le_of_ble_eq_true rfl)⟩ ⟨(Nat.le_of_ble_eq_true rfl), (Nat.le_of_ble_eq_true rfl)⟩ (Nat.le_of_ble_eq_true rfl) rfl dX5_readShore_43 (fun S75 H locs hp75 hQ _ => ?_)
  obtain ⟨hI, o75⟩ := hp75
  refine lv_aload_n hx hb dX5_readShore_46 rfl (lv_at hl 1 rfl) ?_
  refine lv_iconst (v := 0) hx hb dX5_readShore_47 (by decide) ?_
  refine lv_bipush (v := 6) hx hb dX5_readShore_48 (by decide) ?_
  obtain ⟨v88, v90, v91, v93, v95, v96, v97, c98, b89, b92, b94⟩ := invX_94 hI
  have c98 : S75 94 = .inr (5, [.ref (ad 1), .ref (ad 20), .int v88, .int v90, .int v91, .int v93, .int v95, .int v96, .int v97]) := c98
  refine xcVi E hs hQ hml hl.1 94 (gX5_expectNumber_2 l g ad hD S75 hI 0 6 (by decide : Bd 0 (0) (0)) (by decide : Bd 6 (6) (6))) mX5_expectNumber q684 (by decide) c98 rfl rfl ⟨(Nat.le_of_ble_eq_true rfl), (Nat.le_of_ble_eq_true rfl)⟩ ⟨(Nat.le_of_ble_eq_true rfl), (Nat.le_of_ble_eq_true rfl)⟩ (Nat.le_of_ble_eq_true rfl) rfl dX5_readShore_50 (fun r87 S87 H locs hp87 hQ _ => ?_)
  obtain ⟨hI, o87, b87⟩ := hp87
  refine lv_istore_n (lv' := [(2, .int r87), (1, .int r63), (0, .ref (ad 94))]) hx hb dX5_readShore_53 rfl hl (by decide) rfl (fun ls hl => ?_)
  refine lv_aload_n hx hb dX5_readShore_54 rfl (lv_at hl 2 rfl) ?_
  refine va_ldcS hx hb E.2.2.1 (hT.2.2.2 9 (by decide) : vk_R "EbbWreck$Reader" 141 "ebb" (tt.1 9) s) dX5_readShore_55 ?_
  obtain ⟨v100, v102, v103, v105, v107, v108, v109, c110, b101, b104, b106⟩ := invX_94 hI
  have c110 : S87 94 = .inr (5, [.ref (ad 1), .ref (ad 20), .int v100, .int v102, .int v103, .int v105, .int v107, .int v108, .int v109]) := c110
  refine xcVvT E hs hQ hml hl.1 hT 94 (gX5_expectWord_94 l g tt ad hD S87 hI 9 (by decide)) mX5_expectWord q623 (by decide) c110 rfl rfl ⟨(Nat.le_of_ble_eq_true rfl), (Nat.le_of_ble_eq_true rfl)⟩ ⟨(Nat.le_of_ble_eq_true rfl), (Nat.le_of_ble_eq_true rfl)⟩ (Nat.le_of_ble_eq_true rfl) rfl dX5_readShore_57 (fun S99 H locs hp99 hQ _ => ?_)
  obtain ⟨hI, o99⟩ := hp99
  refine lv_aload_n hx hb dX5_readShore_60 rfl (lv_at hl 2 rfl) ?_
  refine lv_iconst (v := 1) hx hb dX5_readShore_61 (by decide) ?_
  refine lv_bipush (v := 12) hx hb dX5_readShore_62 (by decide) ?_
  obtain ⟨v112, v114, v115, v117, v119, v120, v121, c122, b113, b116, b118⟩ := invX_94 hI
  have c122 : S99 94 = .inr (5, [.ref (ad 1), .ref (ad 20), .int v112, .int v114, .int v115, .int v117, .int v119, .int v120, .int v121]) := c122
  refine xcVi E hs hQ hml hl.1 94 (gX5_expectNumber_1 l g ad hD S99 hI 1 12 (by decide : Bd 1 (1) (1)) (by decide : Bd 12 (12) (12))) mX5_expectNumber q684 (by decide) c122 rfl rfl ⟨(Nat.le_of_ble_eq_true rfl), (Nat.le_of_ble_eq_true rfl)⟩ ⟨(Nat.le_of_ble_eq_true rfl), (Nat.le_of_ble_eq_true rfl)⟩ (Nat.le_of_ble_eq_true rfl) rfl dX5_readShore_64 (fun r111 S111 H locs hp111 hQ _ => ?_)
  obtain ⟨hI, o111, b111⟩ := hp111
  refine lv_istore_n (lv' := [(3, .int r111), (2, .int r87), (1, .int r63), (0, .ref (ad 94))]) hx hb dX5_readShore_67 rfl hl (by decide) rfl (fun ls hl => ?_)
  refine lv_aload_n hx hb dX5_readShore_68 rfl (lv_at hl 3 rfl) ?_
  refine va_ldcS hx hb E.2.2.1 (hT.2.2.2 10 (by decide) : vk_R "EbbWreck$Reader" 143 "odds" (tt.1 10) s) dX5_readShore_69 ?_
  obtain ⟨v124, v126, v127, v129, v131, v132, v133, c134, b125, b128, b130⟩ := invX_94 hI
  have c134 : S111 94 = .inr (5, [.ref (ad 1), .ref (ad 20), .int v124, .int v126, .int v127, .int v129, .int v131, .int v132, .int v133]) := c134
  refine xcVvT E hs hQ hml hl.1 hT 94 (gX5_expectWord_94 l g tt ad hD S111 hI 10 (by decide)) mX5_expectWord q623 (by decide) c134 rfl rfl ⟨(Nat.le_of_ble_eq_true rfl), (Nat.le_of_ble_eq_true rfl)⟩ ⟨(Nat.le_of_ble_eq_true rfl), (Nat.le_of_ble_eq_true rfl)⟩ (Nat.le_of_ble_eq_true rfl) rfl dX5_readShore_71 (fun S123 H locs hp123 hQ _ => ?_)
  obtain ⟨hI, o123⟩ := hp123
  refine lv_aload_n hx hb dX5_readShore_74 rfl (lv_at hl 3 rfl) ?_
  obtain ⟨v135, v137, v138, v140, v142, v143, v144, c145, b136, b139, b141⟩ := invX_94 hI
  have c145 : S123 94 = .inr (5, [.ref (ad 1), .ref (ad 20), .int v135, .int v137, .int v138, .int v140, .int v142, .int v143, .int v144]) := c145
  refine xget E hQ 94 (by decide) c145 rfl 1 (by decide) q343 rfl dX5_readShore_75 ?_
  refine lv_aload_n hx hb dX5_readShore_78 rfl (lv_at hl 3 rfl) ?_
  refine lv_iconst (v := 0) hx hb dX5_readShore_79 (by decide) ?_
  refine lv_bipush (v := 100) hx hb dX5_readShore_80 (by decide) ?_
  refine xcVi E hs hQ hml hl.1 94 (gX5_expectNumber_3 l g ad hD S123 hI 0 100 (by decide : Bd 0 (0) (0)) (by decide : Bd 100 (100) (100))) mX5_expectNumber q684 (by decide) c145 rfl rfl ⟨(Nat.le_of_ble_eq_true rfl), (Nat.le_of_ble_eq_true rfl)⟩ ⟨(Nat.le_of_ble_eq_true rfl), (Nat.le_of_ble_eq_true rfl)⟩ (Nat.le_of_ble_eq_true rfl) rfl dX5_readShore_82 (fun r146 S146 H locs hp146 hQ _ => ?_)
  obtain ⟨hI, o146, b146⟩ := hp146
  have c147 : S146 20 = .inr (1, [.int v1, .int r47, .int v5, .ref (ad 21), .ref (ad 23), .ref (ad 24), .int v6, .int v7, .ref (ad 25), .ref (ad 26), .ref (ad 27), .ref (ad 28), .int v9, .ref (ad 33), .ref (ad 34)]) := ((o146 20 (by decide)).trans ((o123 20 (by decide)).trans ((o111 20 (by decide)).trans ((o99 20 (by decide)).trans ((o87 20 (by decide)).trans ((o75 20 (by decide)).trans ((o63 20 (by decide)).trans ((o51 20 (by decide)).trans c50))))))))
  refine xputi E hs hQ 20 (by decide) c147 rfl 2 (by decide) q250 rfl rfl (Nat.le_of_ble_eq_true rfl) dX5_readShore_85 (fun H locs S148 eS148 hQ => ?_)
  have hI := invX_up_20 hI eS148 ⟨v1, r47, r146, v6, v7, v9, rfl, b2, (ib_wk b47 (by decide) (by decide)), b8, b10⟩
  have c149 : S148 20 = .inr (1, [.int v1, .int r47, .int r146, .ref (ad 21), .ref (ad 23), .ref (ad 24), .int v6, .int v7, .ref (ad 25), .ref (ad 26), .ref (ad 27), .ref (ad 28), .int v9, .ref (ad 33), .ref (ad 34)]) := up_at eS148 rfl
  refine lv_aload_n hx hb dX5_readShore_88 rfl (lv_at hl 3 rfl) ?_
  obtain ⟨v150, v152, v153, v155, v157, v158, v159, c160, b151, b154, b156⟩ := invX_94 hI
  have c160 : S148 94 = .inr (5, [.ref (ad 1), .ref (ad 20), .int v150, .int v152, .int v153, .int v155, .int v157, .int v158, .int v159]) := c160
  refine xget E hQ 94 (by decide) c160 rfl 1 (by decide) q343 rfl dX5_readShore_89 ?_
  refine xget E hQ 20 (by decide) c149 rfl 3 (by decide) q256 rfl dX5_readShore_92 ?_
  refine lv_iload_n hx hb dX5_readShore_95 rfl (lv_at hl 2 rfl) ?_
  refine lv_iload_n hx hb dX5_readShore_96 rfl (lv_at hl 1 rfl) ?_
  refine lv_iload_n hx hb dX5_readShore_97 rfl (lv_at hl 0 rfl) ?_
  obtain ⟨v162, v164, v166, v168, c170, b163, b165, b167, b169⟩ := invX_21 hI
  have c170 : S148 21 = .inr (10, [.int v162, .int v164, .int v166, .int v168, .ref (ad 22)]) := c170
  refine xcVv E hs hQ hml hl.1 21 (gX10_tell_21 l g ad hD S148 hI r63 r87 r111 (ib_wk b63 (by decide) (by decide)) b87 (ib_wk b111 (by decide) (by decide))) mX10_tell q692 (by decide) c170 rfl rfl ⟨(Nat.le_of_ble_eq_true rfl), (Nat.le_of_ble_eq_true rfl)⟩ ⟨(Nat.le_of_ble_eq_true rfl), (Nat.le_of_ble_eq_true rfl)⟩ (Nat.le_of_ble_eq_true rfl) rfl dX5_readShore_98 (fun S161 H locs hp161 hQ _ => ?_)
  obtain ⟨hI, o161⟩ := hp161
  have c171 : S161 20 = .inr (1, [.int v1, .int r47, .int r146, .ref (ad 21), .ref (ad 23), .ref (ad 24), .int v6, .int v7, .ref (ad 25), .ref (ad 26), .ref (ad 27), .ref (ad 28), .int v9, .ref (ad 33), .ref (ad 34)]) := ((o161 20 (by decide)).trans c149)
  have q172 : fld (S161 20) 1 = r47.toInt := fld_of c171 rfl
  have q173 : fld (S 20) 0 = v1.toInt := fld_of c11 rfl
  have q174 : fld (S161 20) 0 = v1.toInt := fld_of c171 rfl
  have q175 : fld (S 20) 7 = v7.toInt := fld_of c11 rfl
  have q176 : fld (S161 20) 7 = v7.toInt := fld_of c171 rfl
  have q177 : fld (S 20) 12 = v9.toInt := fld_of c11 rfl
  have q178 : fld (S161 20) 12 = v9.toInt := fld_of c171 rfl
  exact xrv E hr hlk hQ (⟨hI, (o_trans (up_o (o_trans (o_trans (o_trans (o_trans (o_trans (o_trans (o_trans (o_trans (up_o (o_trans (o_trans (o_trans o_refl o12 (by decide)) o24 (by decide)) o47 (by decide)) eS49 (by decide)) o51 (by decide)) o63 (by decide)) o75 (by decide)) o87 (by decide)) o99 (by decide)) o111 (by decide)) o123 (by decide)) o146 (by decide)) eS148 (by decide)) o161 (by decide)), (by omega), ⟨by omega, by omega⟩, ⟨by omega, by omega⟩, ⟨by omega, by omega⟩⟩) dX5_readShore_101
set_option maxHeartbeats 4000000 in
set_option maxRecDepth 100000 in
theorem gX5_readWay_94 (l : Launch) (g : GG) (tt : TT) (ad : Nat → Nat) (hD : Dj ad 122) (S : SS) (hI : InvX g ad S) : Met l yX5_readWay (wG (.code yX5_readWay cX5_readWay 1 (some .int))) (Rm 5) (XPreT g tt ad 122 S [.ref (ad 94)]) (va_Qi (fun r S' => InvX g ad S' ∧ (∀ j, j ∉ ([94] : List Nat) → S' j = S j) ∧ Bd r (-1) (1)) (QB g ad 122) (FA ad 122)) 0 0 (FA ad 122) := by
  refine xmetT cX5_readWay "EbbWreck$Reader" (by decide) rfl (Nat.le_of_ble_eq_true rfl) (fun p e s m below meth c E hT hr hlk hml hQ ls hl => ?_)
  have hx := E.1
  have hb := E.2.1
  have hs : Sp ad 122 (FA ad 122) := Sp.fa hD
  have hl : lv_has ls 1 [(0, .ref (ad 94))] := hl
  refine lv_aload_n hx hb dX5_readWay_0 rfl (lv_at hl 0 rfl) ?_
  obtain ⟨v2, v4, v5, v7, v9, v10, v11, c12, b3, b6, b8⟩ := invX_94 hI
  have c12 : S 94 = .inr (5, [.ref (ad 1), .ref (ad 20), .int v2, .int v4, .int v5, .int v7, .int v9, .int v10, .int v11]) := c12
  refine xcVi E hs hQ hml hl.1 94 (gX5_failed_94 l g ad hD S hI ) mX5_failed q610 (by decide) c12 rfl rfl ⟨(Nat.le_of_ble_eq_true rfl), (Nat.le_of_ble_eq_true rfl)⟩ ⟨(Nat.le_of_ble_eq_true rfl), (Nat.le_of_ble_eq_true rfl)⟩ (Nat.le_of_ble_eq_true rfl) rfl dX5_readWay_1 (fun r1 S1 H locs hp1 hQ _ => ?_)
  obtain ⟨rfl, b1⟩ := hp1
  refine lv_if_ne (tgt := 16) hx hb dX5_readWay_4 (by decide) (fun k13 => ?_) (fun k13 => ?_)
  · have h14 := ib_ne k13
    have b15 : Bd r1 (1) (1) := rf_nlo b1 (by decide : Bd 0 (0) (0)) h14
    refine lv_iconst (v := 1) hx hb dX5_readWay_16 (by decide) ?_
    exact xri E hr hlk hQ (⟨hI, o_refl, (ib_wk (by decide : Bd 1 (1) (1)) (by decide) (by decide))⟩) dX5_readWay_17
  · have h16 := ib_eq k13
    have b17 : Bd r1 (0) (0) := ⟨(b1).1, ((rf_eq b1 (by decide : Bd 0 (0) (0)) h16).1).2⟩
    refine lv_aload_n hx hb dX5_readWay_7 rfl (lv_at hl 0 rfl) ?_
    refine va_ldcS hx hb E.2.2.1 (hT.2.2.2 11 (by decide) : vk_R "EbbWreck$Reader" 167 "back" (tt.1 11) s) dX5_readWay_8 ?_
    refine xcViT E hs hQ hml hl.1 hT 94 (gX5_isWord_94 l g tt ad hD S hI 11 (by decide)) mX5_isWord q627 (by decide) c12 rfl rfl ⟨(Nat.le_of_ble_eq_true rfl), (Nat.le_of_ble_eq_true rfl)⟩ ⟨(Nat.le_of_ble_eq_true rfl), (Nat.le_of_ble_eq_true rfl)⟩ (Nat.le_of_ble_eq_true rfl) rfl dX5_readWay_10 (fun r18 S18 H locs hp18 hQ _ => ?_)
    obtain ⟨rfl, b18⟩ := hp18
    refine lv_if_ne (tgt := 18) hx hb dX5_readWay_13 (by decide) (fun k19 => ?_) (fun k19 => ?_)
    · have h20 := ib_ne k19
      have b21 : Bd r18 (1) (1) := rf_nlo b18 (by decide : Bd 0 (0) (0)) h20
      refine lv_aload_n hx hb dX5_readWay_18 rfl (lv_at hl 0 rfl) ?_
      refine xcVv E hs hQ hml hl.1 94 (gX5_advance_94 l g ad hD S hI ) mX5_advance q598 (by decide) c12 rfl rfl ⟨(Nat.le_of_ble_eq_true rfl), (Nat.le_of_ble_eq_true rfl)⟩ ⟨(Nat.le_of_ble_eq_true rfl), (Nat.le_of_ble_eq_true rfl)⟩ (Nat.le_of_ble_eq_true rfl) rfl dX5_readWay_19 (fun S22 H locs hp22 hQ _ => ?_)
      obtain ⟨hI, o22⟩ := hp22
      refine lv_iconst (v := (-1)) hx hb dX5_readWay_22 (by decide) ?_
      exact xri E hr hlk hQ (⟨hI, (o_trans o_refl o22 (by decide)), (ib_wk (by decide : Bd (-1) (-1) (-1)) (by decide) (by decide))⟩) dX5_readWay_23
    · have h23 := ib_eq k19
      have b24 : Bd r18 (0) (0) := ⟨(b18).1, ((rf_eq b18 (by decide : Bd 0 (0) (0)) h23).1).2⟩
      refine lv_iconst (v := 1) hx hb dX5_readWay_16 (by decide) ?_
      exact xri E hr hlk hQ (⟨hI, o_refl, (ib_wk (by decide : Bd 1 (1) (1)) (by decide) (by decide))⟩) dX5_readWay_17
set_option maxHeartbeats 4000000 in
set_option maxRecDepth 100000 in
theorem gX5_readCurrent_94 (l : Launch) (g : GG) (tt : TT) (ad : Nat → Nat) (hD : Dj ad 122) (S : SS) (hI : InvX g ad S) : Met l yX5_readCurrent (wG (.code yX5_readCurrent cX5_readCurrent 4 none)) (Rm 6) (XPreT g tt ad 122 S [.ref (ad 94)]) (va_Qv (fun S' => InvX g ad S' ∧ (∀ j, j ∉ ([23, 24, 94] : List Nat) → S' j = S j) ∧ (0 ≤ fld (S 20) 0 + (-1) * fld (S' 20) 0 ∧ 0 ≤ fld (S' 20) 0 + (-1) * fld (S 20) 0) ∧ (0 ≤ fld (S 20) 1 + (-1) * fld (S' 20) 1 ∧ 0 ≤ fld (S' 20) 1 + (-1) * fld (S 20) 1) ∧ (0 ≤ fld (S 20) 7 + (-1) * fld (S' 20) 7 ∧ 0 ≤ fld (S' 20) 7 + (-1) * fld (S 20) 7) ∧ (0 ≤ fld (S 20) 12 + (-1) * fld (S' 20) 12 ∧ 0 ≤ fld (S' 20) 12 + (-1) * fld (S 20) 12)) (QB g ad 122) (FA ad 122)) 0 0 (FA ad 122) := by
  refine xmetT cX5_readCurrent "EbbWreck$Reader" (by decide) rfl (Nat.le_of_ble_eq_true rfl) (fun p e s m below meth c E hT hr hlk hml hQ ls hl => ?_)
  have hx := E.1
  have hb := E.2.1
  have hs : Sp ad 122 (FA ad 122) := Sp.fa hD
  have hl : lv_has ls 4 [(0, .ref (ad 94))] := hl
  obtain ⟨v1, v3, v5, v6, v7, v9, c11, b2, b4, b8, b10⟩ := invX_20 hI
  have c11 : S 20 = .inr (1, [.int v1, .int v3, .int v5, .ref (ad 21), .ref (ad 23), .ref (ad 24), .int v6, .int v7, .ref (ad 25), .ref (ad 26), .ref (ad 27), .ref (ad 28), .int v9, .ref (ad 33), .ref (ad 34)]) := c11
  refine lv_aload_n hx hb dX5_readCurrent_0 rfl (lv_at hl 0 rfl) ?_
  obtain ⟨v13, v15, v16, v18, v20, v21, v22, c23, b14, b17, b19⟩ := invX_94 hI
  have c23 : S 94 = .inr (5, [.ref (ad 1), .ref (ad 20), .int v13, .int v15, .int v16, .int v18, .int v20, .int v21, .int v22]) := c23
  refine xcVv E hs hQ hml hl.1 94 (gX5_advance_94 l g ad hD S hI ) mX5_advance q598 (by decide) c23 rfl rfl ⟨(Nat.le_of_ble_eq_true rfl), (Nat.le_of_ble_eq_true rfl)⟩ ⟨(Nat.le_of_ble_eq_true rfl), (Nat.le_of_ble_eq_true rfl)⟩ (Nat.le_of_ble_eq_true rfl) rfl dX5_readCurrent_1 (fun S12 H locs hp12 hQ _ => ?_)
  obtain ⟨hI, o12⟩ := hp12
  refine lv_aload_n hx hb dX5_readCurrent_4 rfl (lv_at hl 0 rfl) ?_
  refine lv_iconst (v := 0) hx hb dX5_readCurrent_5 (by decide) ?_
  refine lv_aload_n hx hb dX5_readCurrent_6 rfl (lv_at hl 0 rfl) ?_
  obtain ⟨v24, v26, v27, v29, v31, v32, v33, c34, b25, b28, b30⟩ := invX_94 hI
  have c34 : S12 94 = .inr (5, [.ref (ad 1), .ref (ad 20), .int v24, .int v26, .int v27, .int v29, .int v31, .int v32, .int v33]) := c34
  refine xget E hQ 94 (by decide) c34 rfl 1 (by decide) q343 rfl dX5_readCurrent_7 ?_
  have c35 : S12 20 = .inr (1, [.int v1, .int v3, .int v5, .ref (ad 21), .ref (ad 23), .ref (ad 24), .int v6, .int v7, .ref (ad 25), .ref (ad 26), .ref (ad 27), .ref (ad 28), .int v9, .ref (ad 33), .ref (ad 34)]) := ((o12 20 (by decide)).trans c11)
  refine xget E hQ 20 (by decide) c35 rfl 1 (by decide) q245 rfl dX5_readCurrent_10 ?_
  refine lv_iconst (v := 1) hx hb dX5_readCurrent_13 (by decide) ?_
  refine lv_isub hx hb dX5_readCurrent_14 ?_
  refine lv_topi (fun z36 e37 => ?_)
  have t38 := ib_sub e37 b4 (by decide : Bd 1 (1) (1)) (by decide) (by decide)
  have b39 : Bd z36 (-1) (11) := ib_subb t38 b4 (by decide : Bd 1 (1) (1))
  have t38 : z36.toInt = v3.toInt - 1 := fold_sub t38 rfl (by decide)
  refine xcVi E hs hQ hml hl.1 94 (gX5_expectNumber_8 l g ad hD S12 hI 0 z36 (by decide : Bd 0 (0) (0)) b39) mX5_expectNumber q684 (by decide) c34 rfl rfl ⟨(Nat.le_of_ble_eq_true rfl), (Nat.le_of_ble_eq_true rfl)⟩ ⟨(Nat.le_of_ble_eq_true rfl), (Nat.le_of_ble_eq_true rfl)⟩ (Nat.le_of_ble_eq_true rfl) rfl dX5_readCurrent_15 (fun r40 S40 H locs hp40 hQ _ => ?_)
  obtain ⟨hI, o40, b40⟩ := hp40
  refine lv_istore_n (lv' := [(1, .int r40), (0, .ref (ad 94))]) hx hb dX5_readCurrent_18 rfl hl (by decide) rfl (fun ls hl => ?_)
  refine lv_aload_n hx hb dX5_readCurrent_19 rfl (lv_at hl 1 rfl) ?_
  refine va_ldcS hx hb E.2.2.1 (hT.2.2.2 7 (by decide) : vk_R "EbbWreck$Reader" 137 "flood" (tt.1 7) s) dX5_readCurrent_20 ?_
  obtain ⟨v42, v44, v45, v47, v49, v50, v51, c52, b43, b46, b48⟩ := invX_94 hI
  have c52 : S40 94 = .inr (5, [.ref (ad 1), .ref (ad 20), .int v42, .int v44, .int v45, .int v47, .int v49, .int v50, .int v51]) := c52
  refine xcVvT E hs hQ hml hl.1 hT 94 (gX5_expectWord_94 l g tt ad hD S40 hI 7 (by decide)) mX5_expectWord q623 (by decide) c52 rfl rfl ⟨(Nat.le_of_ble_eq_true rfl), (Nat.le_of_ble_eq_true rfl)⟩ ⟨(Nat.le_of_ble_eq_true rfl), (Nat.le_of_ble_eq_true rfl)⟩ (Nat.le_of_ble_eq_true rfl) rfl dX5_readCurrent_22 (fun S41 H locs hp41 hQ _ => ?_)
  obtain ⟨hI, o41⟩ := hp41
  refine lv_aload_n hx hb dX5_readCurrent_25 rfl (lv_at hl 1 rfl) ?_
  obtain ⟨v54, v56, v57, v59, v61, v62, v63, c64, b55, b58, b60⟩ := invX_94 hI
  have c64 : S41 94 = .inr (5, [.ref (ad 1), .ref (ad 20), .int v54, .int v56, .int v57, .int v59, .int v61, .int v62, .int v63]) := c64
  refine xcViT E hs hQ hml hl.1 hT 94 (gX5_readWay_94 l g tt ad hD S41 hI ) mX5_readWay q698 (by decide) c64 rfl rfl ⟨(Nat.le_of_ble_eq_true rfl), (Nat.le_of_ble_eq_true rfl)⟩ ⟨(Nat.le_of_ble_eq_true rfl), (Nat.le_of_ble_eq_true rfl)⟩ (Nat.le_of_ble_eq_true rfl) rfl dX5_readCurrent_26 (fun r53 S53 H locs hp53 hQ _ => ?_)
  obtain ⟨hI, o53, b53⟩ := hp53
  refine lv_aload_n hx hb dX5_readCurrent_29 rfl (lv_at hl 1 rfl) ?_
  refine lv_iconst (v := 0) hx hb dX5_readCurrent_30 (by decide) ?_
  refine lv_iconst (v := 3) hx hb dX5_readCurrent_31 (by decide) ?_
  obtain ⟨v66, v68, v69, v71, v73, v74, v75, c76, b67, b70, b72⟩ := invX_94 hI
  have c76 : S53 94 = .inr (5, [.ref (ad 1), .ref (ad 20), .int v66, .int v68, .int v69, .int v71, .int v73, .int v74, .int v75]) := c76
  refine xcVi E hs hQ hml hl.1 94 (gX5_expectNumber_4 l g ad hD S53 hI 0 3 (by decide : Bd 0 (0) (0)) (by decide : Bd 3 (3) (3))) mX5_expectNumber q684 (by decide) c76 rfl rfl ⟨(Nat.le_of_ble_eq_true rfl), (Nat.le_of_ble_eq_true rfl)⟩ ⟨(Nat.le_of_ble_eq_true rfl), (Nat.le_of_ble_eq_true rfl)⟩ (Nat.le_of_ble_eq_true rfl) rfl dX5_readCurrent_32 (fun r65 S65 H locs hp65 hQ _ => ?_)
  obtain ⟨hI, o65, b65⟩ := hp65
  refine lv_imul hx hb dX5_readCurrent_35 ?_
  refine lv_topi (fun z77 e78 => ?_)
  refine lv_istore_n (lv' := [(2, .int z77), (1, .int r40), (0, .ref (ad 94))]) hx hb dX5_readCurrent_36 rfl hl (by decide) rfl (fun ls hl => ?_)
  refine lv_aload_n hx hb dX5_readCurrent_37 rfl (lv_at hl 2 rfl) ?_
  refine va_ldcS hx hb E.2.2.1 (hT.2.2.2 9 (by decide) : vk_R "EbbWreck$Reader" 141 "ebb" (tt.1 9) s) dX5_readCurrent_38 ?_
  obtain ⟨v80, v82, v83, v85, v87, v88, v89, c90, b81, b84, b86⟩ := invX_94 hI
  have c90 : S65 94 = .inr (5, [.ref (ad 1), .ref (ad 20), .int v80, .int v82, .int v83, .int v85, .int v87, .int v88, .int v89]) := c90
  refine xcVvT E hs hQ hml hl.1 hT 94 (gX5_expectWord_94 l g tt ad hD S65 hI 9 (by decide)) mX5_expectWord q623 (by decide) c90 rfl rfl ⟨(Nat.le_of_ble_eq_true rfl), (Nat.le_of_ble_eq_true rfl)⟩ ⟨(Nat.le_of_ble_eq_true rfl), (Nat.le_of_ble_eq_true rfl)⟩ (Nat.le_of_ble_eq_true rfl) rfl dX5_readCurrent_40 (fun S79 H locs hp79 hQ _ => ?_)
  obtain ⟨hI, o79⟩ := hp79
  refine lv_aload_n hx hb dX5_readCurrent_43 rfl (lv_at hl 2 rfl) ?_
  obtain ⟨v92, v94, v95, v97, v99, v100, v101, c102, b93, b96, b98⟩ := invX_94 hI
  have c102 : S79 94 = .inr (5, [.ref (ad 1), .ref (ad 20), .int v92, .int v94, .int v95, .int v97, .int v99, .int v100, .int v101]) := c102
  refine xcViT E hs hQ hml hl.1 hT 94 (gX5_readWay_94 l g tt ad hD S79 hI ) mX5_readWay q698 (by decide) c102 rfl rfl ⟨(Nat.le_of_ble_eq_true rfl), (Nat.le_of_ble_eq_true rfl)⟩ ⟨(Nat.le_of_ble_eq_true rfl), (Nat.le_of_ble_eq_true rfl)⟩ (Nat.le_of_ble_eq_true rfl) rfl dX5_readCurrent_44 (fun r91 S91 H locs hp91 hQ _ => ?_)
  obtain ⟨hI, o91, b91⟩ := hp91
  refine lv_aload_n hx hb dX5_readCurrent_47 rfl (lv_at hl 2 rfl) ?_
  refine lv_iconst (v := 0) hx hb dX5_readCurrent_48 (by decide) ?_
  refine lv_iconst (v := 3) hx hb dX5_readCurrent_49 (by decide) ?_
  obtain ⟨v104, v106, v107, v109, v111, v112, v113, c114, b105, b108, b110⟩ := invX_94 hI
  have c114 : S91 94 = .inr (5, [.ref (ad 1), .ref (ad 20), .int v104, .int v106, .int v107, .int v109, .int v111, .int v112, .int v113]) := c114
  refine xcVi E hs hQ hml hl.1 94 (gX5_expectNumber_4 l g ad hD S91 hI 0 3 (by decide : Bd 0 (0) (0)) (by decide : Bd 3 (3) (3))) mX5_expectNumber q684 (by decide) c114 rfl rfl ⟨(Nat.le_of_ble_eq_true rfl), (Nat.le_of_ble_eq_true rfl)⟩ ⟨(Nat.le_of_ble_eq_true rfl), (Nat.le_of_ble_eq_true rfl)⟩ (Nat.le_of_ble_eq_true rfl) rfl dX5_readCurrent_50 (fun r103 S103 H locs hp103 hQ _ => ?_)
  obtain ⟨hI, o103, b103⟩ := hp103
  refine lv_imul hx hb dX5_readCurrent_53 ?_
  refine lv_topi (fun z115 e116 => ?_)
  refine lv_istore_n (lv' := [(3, .int z115), (2, .int z77), (1, .int r40), (0, .ref (ad 94))]) hx hb dX5_readCurrent_54 rfl hl (by decide) rfl (fun ls hl => ?_)
  refine lv_aload_n hx hb dX5_readCurrent_55 rfl (lv_at hl 3 rfl) ?_
  obtain ⟨v117, v119, v120, v122, v124, v125, v126, c127, b118, b121, b123⟩ := invX_94 hI
  have c127 : S103 94 = .inr (5, [.ref (ad 1), .ref (ad 20), .int v117, .int v119, .int v120, .int v122, .int v124, .int v125, .int v126]) := c127
  refine xget E hQ 94 (by decide) c127 rfl 1 (by decide) q343 rfl dX5_readCurrent_56 ?_
  have c128 : S103 20 = .inr (1, [.int v1, .int v3, .int v5, .ref (ad 21), .ref (ad 23), .ref (ad 24), .int v6, .int v7, .ref (ad 25), .ref (ad 26), .ref (ad 27), .ref (ad 28), .int v9, .ref (ad 33), .ref (ad 34)]) := ((o103 20 (by decide)).trans ((o91 20 (by decide)).trans ((o79 20 (by decide)).trans ((o65 20 (by decide)).trans ((o53 20 (by decide)).trans ((o41 20 (by decide)).trans ((o40 20 (by decide)).trans c35)))))))
  refine xget E hQ 20 (by decide) c128 rfl 4 (by decide) q259 rfl dX5_readCurrent_59 ?_
  refine lv_iload_n hx hb dX5_readCurrent_62 rfl (lv_at hl 2 rfl) ?_
  refine lv_iload_n hx hb dX5_readCurrent_63 rfl (lv_at hl 1 rfl) ?_
  obtain ⟨f129, c130⟩ := invX_23 hI
  refine xiast E hs hQ 23 (by decide) c130 (ib_in b40 (by decide) (by decide)) dX5_readCurrent_64 (fun H locs S132 eS132 hQ => ?_)
  have hI := invX_up_23 hI eS132 ⟨_, rfl⟩
  have c133 : S132 23 = .inl (g.2 0, 12, .inl (upd f129 (r40 : Int32).toNatClampNeg z77)) := up_at eS132 rfl
  refine lv_aload_n hx hb dX5_readCurrent_65 rfl (lv_at hl 3 rfl) ?_
  have c134 : S132 94 = .inr (5, [.ref (ad 1), .ref (ad 20), .int v117, .int v119, .int v120, .int v122, .int v124, .int v125, .int v126]) := (up_ne eS132 (by decide) c127)
  refine xget E hQ 94 (by decide) c134 rfl 1 (by decide) q343 rfl dX5_readCurrent_66 ?_
  have c135 : S132 20 = .inr (1, [.int v1, .int v3, .int v5, .ref (ad 21), .ref (ad 23), .ref (ad 24), .int v6, .int v7, .ref (ad 25), .ref (ad 26), .ref (ad 27), .ref (ad 28), .int v9, .ref (ad 33), .ref (ad 34)]) := (up_ne eS132 (by decide) c128)
  refine xget E hQ 20 (by decide) c135 rfl 5 (by decide) q262 rfl dX5_readCurrent_69 ?_
  refine lv_iload_n hx hb dX5_readCurrent_72 rfl (lv_at hl 2 rfl) ?_
  refine lv_iload_n hx hb dX5_readCurrent_73 rfl (lv_at hl 0 rfl) ?_
  obtain ⟨f136, c137⟩ := invX_24 hI
  refine xiast E hs hQ 24 (by decide) c137 (ib_in b40 (by decide) (by decide)) dX5_readCurrent_74 (fun H locs S139 eS139 hQ => ?_)
  have hI := invX_up_24 hI eS139 ⟨_, rfl⟩
  have c140 : S139 24 = .inl (g.2 0, 12, .inl (upd f136 (r40 : Int32).toNatClampNeg z115)) := up_at eS139 rfl
  have q141 : fld (S 20) 0 = v1.toInt := fld_of c11 rfl
  have c142 : S139 20 = .inr (1, [.int v1, .int v3, .int v5, .ref (ad 21), .ref (ad 23), .ref (ad 24), .int v6, .int v7, .ref (ad 25), .ref (ad 26), .ref (ad 27), .ref (ad 28), .int v9, .ref (ad 33), .ref (ad 34)]) := (up_ne eS139 (by decide) c135)
  have q143 : fld (S139 20) 0 = v1.toInt := fld_of c142 rfl
  have q144 : fld (S 20) 1 = v3.toInt := fld_of c11 rfl
  have q145 : fld (S139 20) 1 = v3.toInt := fld_of c142 rfl
  have q146 : fld (S 20) 7 = v7.toInt := fld_of c11 rfl
  have q147 : fld (S139 20) 7 = v7.toInt := fld_of c142 rfl
  have q148 : fld (S 20) 12 = v9.toInt := fld_of c11 rfl
  have q149 : fld (S139 20) 12 = v9.toInt := fld_of c142 rfl
  exact xrv E hr hlk hQ (⟨hI, (up_o (up_o (o_trans (o_trans (o_trans (o_trans (o_trans (o_trans (o_trans (o_trans o_refl o12 (by decide)) o40 (by decide)) o41 (by decide)) o53 (by decide)) o65 (by decide)) o79 (by decide)) o91 (by decide)) o103 (by decide)) eS132 (by decide)) eS139 (by decide)), ⟨by omega, by omega⟩, ⟨by omega, by omega⟩, ⟨by omega, by omega⟩, ⟨by omega, by omega⟩⟩) dX5_readCurrent_75
set_option maxHeartbeats 4000000 in
set_option maxRecDepth 100000 in
theorem gX5_readBeach_94 (l : Launch) (g : GG) (ad : Nat → Nat) (hD : Dj ad 122) (S : SS) (hI : InvX g ad S) : Met l yX5_readBeach (wG (.code yX5_readBeach cX5_readBeach 1 none)) (Rm 3) (XPre g ad 122 S [.ref (ad 94)]) (va_Qv (fun S' => InvX g ad S' ∧ (∀ j, j ∉ ([20, 94] : List Nat) → S' j = S j) ∧ (0 ≤ fld (S 20) 0 + (-1) * fld (S' 20) 0 ∧ 0 ≤ fld (S' 20) 0 + (-1) * fld (S 20) 0) ∧ (0 ≤ fld (S 20) 1 + (-1) * fld (S' 20) 1 ∧ 0 ≤ fld (S' 20) 1 + (-1) * fld (S 20) 1) ∧ (0 ≤ fld (S 20) 7 + (-1) * fld (S' 20) 7 ∧ 0 ≤ fld (S' 20) 7 + (-1) * fld (S 20) 7) ∧ (0 ≤ fld (S 20) 12 + (-1) * fld (S' 20) 12 ∧ 0 ≤ fld (S' 20) 12 + (-1) * fld (S 20) 12)) (QB g ad 122) (FA ad 122)) 0 0 (FA ad 122) := by
  refine xmet cX5_readBeach "EbbWreck$Reader" (by decide) rfl (Nat.le_of_ble_eq_true rfl) (fun p e s m below meth c E hr hlk hml hQ ls hl => ?_)
  have hx := E.1
  have hb := E.2.1
  have hs : Sp ad 122 (FA ad 122) := Sp.fa hD
  have hl : lv_has ls 1 [(0, .ref (ad 94))] := hl
  obtain ⟨v1, v3, v5, v6, v7, v9, c11, b2, b4, b8, b10⟩ := invX_20 hI
  have c11 : S 20 = .inr (1, [.int v1, .int v3, .int v5, .ref (ad 21), .ref (ad 23), .ref (ad 24), .int v6, .int v7, .ref (ad 25), .ref (ad 26), .ref (ad 27), .ref (ad 28), .int v9, .ref (ad 33), .ref (ad 34)]) := c11
  refine lv_aload_n hx hb dX5_readBeach_0 rfl (lv_at hl 0 rfl) ?_
  obtain ⟨v13, v15, v16, v18, v20, v21, v22, c23, b14, b17, b19⟩ := invX_94 hI
  have c23 : S 94 = .inr (5, [.ref (ad 1), .ref (ad 20), .int v13, .int v15, .int v16, .int v18, .int v20, .int v21, .int v22]) := c23
  refine xcVv E hs hQ hml hl.1 94 (gX5_advance_94 l g ad hD S hI ) mX5_advance q598 (by decide) c23 rfl rfl ⟨(Nat.le_of_ble_eq_true rfl), (Nat.le_of_ble_eq_true rfl)⟩ ⟨(Nat.le_of_ble_eq_true rfl), (Nat.le_of_ble_eq_true rfl)⟩ (Nat.le_of_ble_eq_true rfl) rfl dX5_readBeach_1 (fun S12 H locs hp12 hQ _ => ?_)
  obtain ⟨hI, o12⟩ := hp12
  refine lv_aload_n hx hb dX5_readBeach_4 rfl (lv_at hl 0 rfl) ?_
  obtain ⟨v24, v26, v27, v29, v31, v32, v33, c34, b25, b28, b30⟩ := invX_94 hI
  have c34 : S12 94 = .inr (5, [.ref (ad 1), .ref (ad 20), .int v24, .int v26, .int v27, .int v29, .int v31, .int v32, .int v33]) := c34
  refine xget E hQ 94 (by decide) c34 rfl 1 (by decide) q343 rfl dX5_readBeach_5 ?_
  refine lv_dup hx hb dX5_readBeach_8 rfl ?_
  have c35 : S12 20 = .inr (1, [.int v1, .int v3, .int v5, .ref (ad 21), .ref (ad 23), .ref (ad 24), .int v6, .int v7, .ref (ad 25), .ref (ad 26), .ref (ad 27), .ref (ad 28), .int v9, .ref (ad 33), .ref (ad 34)]) := ((o12 20 (by decide)).trans c11)
  refine xget E hQ 20 (by decide) c35 rfl 6 (by decide) q267 rfl dX5_readBeach_9 ?_
  refine lv_iconst (v := 1) hx hb dX5_readBeach_12 (by decide) ?_
  refine lv_aload_n hx hb dX5_readBeach_13 rfl (lv_at hl 0 rfl) ?_
  refine lv_iconst (v := 0) hx hb dX5_readBeach_14 (by decide) ?_
  refine lv_aload_n hx hb dX5_readBeach_15 rfl (lv_at hl 0 rfl) ?_
  refine xget E hQ 94 (by decide) c34 rfl 1 (by decide) q343 rfl dX5_readBeach_16 ?_
  refine xget E hQ 20 (by decide) c35 rfl 1 (by decide) q245 rfl dX5_readBeach_19 ?_
  refine lv_iconst (v := 1) hx hb dX5_readBeach_22 (by decide) ?_
  refine lv_isub hx hb dX5_readBeach_23 ?_
  refine lv_topi (fun z36 e37 => ?_)
  have t38 := ib_sub e37 b4 (by decide : Bd 1 (1) (1)) (by decide) (by decide)
  have b39 : Bd z36 (-1) (11) := ib_subb t38 b4 (by decide : Bd 1 (1) (1))
  have t38 : z36.toInt = v3.toInt - 1 := fold_sub t38 rfl (by decide)
  refine xcVi E hs hQ hml hl.1 94 (gX5_expectNumber_8 l g ad hD S12 hI 0 z36 (by decide : Bd 0 (0) (0)) b39) mX5_expectNumber q684 (by decide) c34 rfl rfl ⟨(Nat.le_of_ble_eq_true rfl), (Nat.le_of_ble_eq_true rfl)⟩ ⟨(Nat.le_of_ble_eq_true rfl), (Nat.le_of_ble_eq_true rfl)⟩ (Nat.le_of_ble_eq_true rfl) rfl dX5_readBeach_24 (fun r40 S40 H locs hp40 hQ _ => ?_)
  obtain ⟨hI, o40, b40⟩ := hp40
  refine lv_ishl hx hb dX5_readBeach_27 ?_
  refine lv_topi (fun z41 e42 => ?_)
  refine lv_ior hx hb dX5_readBeach_28 ?_
  refine lv_topi (fun z43 e44 => ?_)
  have c45 : S40 20 = .inr (1, [.int v1, .int v3, .int v5, .ref (ad 21), .ref (ad 23), .ref (ad 24), .int v6, .int v7, .ref (ad 25), .ref (ad 26), .ref (ad 27), .ref (ad 28), .int v9, .ref (ad 33), .ref (ad 34)]) := ((o40 20 (by decide)).trans c35)
  refine xputi E hs hQ 20 (by decide) c45 rfl 6 (by decide) q267 rfl rfl (Nat.le_of_ble_eq_true rfl) dX5_readBeach_29 (fun H locs S46 eS46 hQ => ?_)
  have hI := invX_up_20 hI eS46 ⟨v1, v3, v5, z43, v7, v9, rfl, b2, b4, b8, b10⟩
  have c47 : S46 20 = .inr (1, [.int v1, .int v3, .int v5, .ref (ad 21), .ref (ad 23), .ref (ad 24), .int z43, .int v7, .ref (ad 25), .ref (ad 26), .ref (ad 27), .ref (ad 28), .int v9, .ref (ad 33), .ref (ad 34)]) := up_at eS46 rfl
  have q48 : fld (S 20) 0 = v1.toInt := fld_of c11 rfl
  have q49 : fld (S46 20) 0 = v1.toInt := fld_of c47 rfl
  have q50 : fld (S 20) 1 = v3.toInt := fld_of c11 rfl
  have q51 : fld (S46 20) 1 = v3.toInt := fld_of c47 rfl
  have q52 : fld (S 20) 7 = v7.toInt := fld_of c11 rfl
  have q53 : fld (S46 20) 7 = v7.toInt := fld_of c47 rfl
  have q54 : fld (S 20) 12 = v9.toInt := fld_of c11 rfl
  have q55 : fld (S46 20) 12 = v9.toInt := fld_of c47 rfl
  exact xrv E hr hlk hQ (⟨hI, (up_o (o_trans (o_trans o_refl o12 (by decide)) o40 (by decide)) eS46 (by decide)), ⟨by omega, by omega⟩, ⟨by omega, by omega⟩, ⟨by omega, by omega⟩, ⟨by omega, by omega⟩⟩) dX5_readBeach_32
set_option maxHeartbeats 4000000 in
set_option maxRecDepth 100000 in
theorem gX5_readThing_94 (l : Launch) (g : GG) (tt : TT) (ad : Nat → Nat) (hD : Dj ad 122) (S : SS) (hI : InvX g ad S) (hq1 : 0 ≤ fld (S 20) 1 + (-1)) : Met l yX5_readThing (wG (.code yX5_readThing cX5_readThing 1 none)) (Rm 6) (XPreT g tt ad 122 S [.ref (ad 94)]) (va_Qv (fun S' => InvX g ad S' ∧ (∀ j, j ∉ ([20, 25, 26, 27, 94] : List Nat) → S' j = S j) ∧ (0 ≤ fld (S 20) 0 + (-1) * fld (S' 20) 0 ∧ 0 ≤ fld (S' 20) 0 + (-1) * fld (S 20) 0) ∧ (0 ≤ fld (S 20) 1 + (-1) * fld (S' 20) 1 ∧ 0 ≤ fld (S' 20) 1 + (-1) * fld (S 20) 1) ∧ (0 ≤ fld (S 20) 12 + (-1) * fld (S' 20) 12 ∧ 0 ≤ fld (S' 20) 12 + (-1) * fld (S 20) 12)) (QB g ad 122) (FA ad 122)) 0 0 (FA ad 122) := by
  refine xmetT cX5_readThing "EbbWreck$Reader" (by decide) rfl (Nat.le_of_ble_eq_true rfl) (fun p e s m below meth c E hT hr hlk hml hQ ls hl => ?_)
  have hx := E.1
  have hb := E.2.1
  have hs : Sp ad 122 (FA ad 122) := Sp.fa hD
  have hl : lv_has ls 1 [(0, .ref (ad 94))] := hl
  obtain ⟨v1, v3, v5, v6, v7, v9, c11, b2, b4, b8, b10⟩ := invX_20 hI
  have c11 : S 20 = .inr (1, [.int v1, .int v3, .int v5, .ref (ad 21), .ref (ad 23), .ref (ad 24), .int v6, .int v7, .ref (ad 25), .ref (ad 26), .ref (ad 27), .ref (ad 28), .int v9, .ref (ad 33), .ref (ad 34)]) := c11
  have q12 : fld (S 20) 1 = v3.toInt := fld_of c11 rfl
  have b13 : Bd v3 (1) (12) := ⟨by omega, by omega⟩
  refine lv_aload_n hx hb dX5_readThing_0 rfl (lv_at hl 0 rfl) ?_
  obtain ⟨v14, v16, v17, v19, v21, v22, v23, c24, b15, b18, b20⟩ := invX_94 hI
  have c24 : S 94 = .inr (5, [.ref (ad 1), .ref (ad 20), .int v14, .int v16, .int v17, .int v19, .int v21, .int v22, .int v23]) := c24
  refine xget E hQ 94 (by decide) c24 rfl 1 (by decide) q343 rfl dX5_readThing_1 ?_
  refine xget E hQ 20 (by decide) c11 rfl 7 (by decide) q273 rfl dX5_readThing_4 ?_
  refine lv_bipush (v := 8) hx hb dX5_readThing_7 (by decide) ?_
  refine lv_icmp_lt (tgt := 18) hx hb dX5_readThing_9 (by decide) (fun k25 => ?_) (fun k25 => ?_)
  · have h26 := ib_lt k25
    have b27 : Bd v7 (0) (7) := ⟨(b8).1, ((rf_lt b8 (by decide : Bd 8 (8) (8)) h26).1).2⟩
    refine lv_aload_n hx hb dX5_readThing_18 rfl (lv_at hl 0 rfl) ?_
    refine xcVv E hs hQ hml hl.1 94 (gX5_advance_94 l g ad hD S hI ) mX5_advance q598 (by decide) c24 rfl rfl ⟨(Nat.le_of_ble_eq_true rfl), (Nat.le_of_ble_eq_true rfl)⟩ ⟨(Nat.le_of_ble_eq_true rfl), (Nat.le_of_ble_eq_true rfl)⟩ (Nat.le_of_ble_eq_true rfl) rfl dX5_readThing_19 (fun S28 H locs hp28 hQ _ => ?_)
    obtain ⟨hI, o28⟩ := hp28
    refine lv_aload_n hx hb dX5_readThing_22 rfl (lv_at hl 0 rfl) ?_
    refine va_ldcS hx hb E.2.2.1 (hT.2.2.2 12 (by decide) : vk_R "EbbWreck$Reader" 175 "worth" (tt.1 12) s) dX5_readThing_23 ?_
    obtain ⟨v30, v32, v33, v35, v37, v38, v39, c40, b31, b34, b36⟩ := invX_94 hI
    have c40 : S28 94 = .inr (5, [.ref (ad 1), .ref (ad 20), .int v30, .int v32, .int v33, .int v35, .int v37, .int v38, .int v39]) := c40
    refine xcVvT E hs hQ hml hl.1 hT 94 (gX5_expectWord_94 l g tt ad hD S28 hI 12 (by decide)) mX5_expectWord q623 (by decide) c40 rfl rfl ⟨(Nat.le_of_ble_eq_true rfl), (Nat.le_of_ble_eq_true rfl)⟩ ⟨(Nat.le_of_ble_eq_true rfl), (Nat.le_of_ble_eq_true rfl)⟩ (Nat.le_of_ble_eq_true rfl) rfl dX5_readThing_25 (fun S29 H locs hp29 hQ _ => ?_)
    obtain ⟨hI, o29⟩ := hp29
    refine lv_aload_n hx hb dX5_readThing_28 rfl (lv_at hl 0 rfl) ?_
    obtain ⟨v41, v43, v44, v46, v48, v49, v50, c51, b42, b45, b47⟩ := invX_94 hI
    have c51 : S29 94 = .inr (5, [.ref (ad 1), .ref (ad 20), .int v41, .int v43, .int v44, .int v46, .int v48, .int v49, .int v50]) := c51
    refine xget E hQ 94 (by decide) c51 rfl 1 (by decide) q343 rfl dX5_readThing_29 ?_
    have c52 : S29 20 = .inr (1, [.int v1, .int v3, .int v5, .ref (ad 21), .ref (ad 23), .ref (ad 24), .int v6, .int v7, .ref (ad 25), .ref (ad 26), .ref (ad 27), .ref (ad 28), .int v9, .ref (ad 33), .ref (ad 34)]) := ((o29 20 (by decide)).trans ((o28 20 (by decide)).trans c11))
    refine xget E hQ 20 (by decide) c52 rfl 8 (by decide) q278 rfl dX5_readThing_32 ?_
    refine lv_aload_n hx hb dX5_readThing_35 rfl (lv_at hl 0 rfl) ?_
    refine xget E hQ 94 (by decide) c51 rfl 1 (by decide) q343 rfl dX5_readThing_36 ?_
    refine xget E hQ 20 (by decide) c52 rfl 7 (by decide) q273 rfl dX5_readThing_39 ?_
    refine lv_aload_n hx hb dX5_readThing_42 rfl (lv_at hl 0 rfl) ?_
    refine lv_iconst (v := 0) hx hb dX5_readThing_43 (by decide) ?_
    refine lv_sipush (v := 999) hx hb dX5_readThing_44 (by decide) ?_
    refine xcVi E hs hQ hml hl.1 94 (gX5_expectNumber_5 l g ad hD S29 hI 0 999 (by decide : Bd 0 (0) (0)) (by decide : Bd 999 (999) (999))) mX5_expectNumber q684 (by decide) c51 rfl rfl ⟨(Nat.le_of_ble_eq_true rfl), (Nat.le_of_ble_eq_true rfl)⟩ ⟨(Nat.le_of_ble_eq_true rfl), (Nat.le_of_ble_eq_true rfl)⟩ (Nat.le_of_ble_eq_true rfl) rfl dX5_readThing_47 (fun r53 S53 H locs hp53 hQ _ => ?_)
    obtain ⟨hI, o53, b53⟩ := hp53
    obtain ⟨f54, c55⟩ := invX_25 hI
    refine xiast E hs hQ 25 (by decide) c55 (ib_in b27 (by decide) (by decide)) dX5_readThing_50 (fun H locs S57 eS57 hQ => ?_)
    have hI := invX_up_25 hI eS57 ⟨_, rfl⟩
    have c58 : S57 25 = .inl (g.2 0, 8, .inl (upd f54 (v7 : Int32).toNatClampNeg r53)) := up_at eS57 rfl
    refine lv_aload_n hx hb dX5_readThing_51 rfl (lv_at hl 0 rfl) ?_
    refine va_ldcS hx hb E.2.2.1 (hT.2.2.2 13 (by decide) : vk_R "EbbWreck$Reader" 180 "at" (tt.1 13) s) dX5_readThing_52 ?_
    obtain ⟨v60, v62, v63, v65, v67, v68, v69, c70, b61, b64, b66⟩ := invX_94 hI
    have c70 : S57 94 = .inr (5, [.ref (ad 1), .ref (ad 20), .int v60, .int v62, .int v63, .int v65, .int v67, .int v68, .int v69]) := c70
    refine xcVvT E hs hQ hml hl.1 hT 94 (gX5_expectWord_94 l g tt ad hD S57 hI 13 (by decide)) mX5_expectWord q623 (by decide) c70 rfl rfl ⟨(Nat.le_of_ble_eq_true rfl), (Nat.le_of_ble_eq_true rfl)⟩ ⟨(Nat.le_of_ble_eq_true rfl), (Nat.le_of_ble_eq_true rfl)⟩ (Nat.le_of_ble_eq_true rfl) rfl dX5_readThing_54 (fun S59 H locs hp59 hQ _ => ?_)
    obtain ⟨hI, o59⟩ := hp59
    refine lv_aload_n hx hb dX5_readThing_57 rfl (lv_at hl 0 rfl) ?_
    obtain ⟨v71, v73, v74, v76, v78, v79, v80, c81, b72, b75, b77⟩ := invX_94 hI
    have c81 : S59 94 = .inr (5, [.ref (ad 1), .ref (ad 20), .int v71, .int v73, .int v74, .int v76, .int v78, .int v79, .int v80]) := c81
    refine xget E hQ 94 (by decide) c81 rfl 1 (by decide) q343 rfl dX5_readThing_58 ?_
    have c82 : S59 20 = .inr (1, [.int v1, .int v3, .int v5, .ref (ad 21), .ref (ad 23), .ref (ad 24), .int v6, .int v7, .ref (ad 25), .ref (ad 26), .ref (ad 27), .ref (ad 28), .int v9, .ref (ad 33), .ref (ad 34)]) := ((o59 20 (by decide)).trans (up_ne eS57 (by decide) ((o53 20 (by decide)).trans c52)))
    refine xget E hQ 20 (by decide) c82 rfl 9 (by decide) q283 rfl dX5_readThing_61 ?_
    refine lv_aload_n hx hb dX5_readThing_64 rfl (lv_at hl 0 rfl) ?_
    refine xget E hQ 94 (by decide) c81 rfl 1 (by decide) q343 rfl dX5_readThing_65 ?_
    refine xget E hQ 20 (by decide) c82 rfl 7 (by decide) q273 rfl dX5_readThing_68 ?_
    refine lv_aload_n hx hb dX5_readThing_71 rfl (lv_at hl 0 rfl) ?_
    refine lv_iconst (v := 0) hx hb dX5_readThing_72 (by decide) ?_
    refine lv_aload_n hx hb dX5_readThing_73 rfl (lv_at hl 0 rfl) ?_
    refine xget E hQ 94 (by decide) c81 rfl 1 (by decide) q343 rfl dX5_readThing_74 ?_
    refine xget E hQ 20 (by decide) c82 rfl 1 (by decide) q245 rfl dX5_readThing_77 ?_
    refine lv_iconst (v := 1) hx hb dX5_readThing_80 (by decide) ?_
    refine lv_isub hx hb dX5_readThing_81 ?_
    refine lv_topi (fun z83 e84 => ?_)
    have t85 := ib_sub e84 b13 (by decide : Bd 1 (1) (1)) (by decide) (by decide)
    have b86 : Bd z83 (0) (11) := ib_subb t85 b13 (by decide : Bd 1 (1) (1))
    have t85 : z83.toInt = v3.toInt - 1 := fold_sub t85 rfl (by decide)
    refine xcVi E hs hQ hml hl.1 94 (gX5_expectNumber_8 l g ad hD S59 hI 0 z83 (by decide : Bd 0 (0) (0)) (ib_wk b86 (by decide) (by decide))) mX5_expectNumber q684 (by decide) c81 rfl rfl ⟨(Nat.le_of_ble_eq_true rfl), (Nat.le_of_ble_eq_true rfl)⟩ ⟨(Nat.le_of_ble_eq_true rfl), (Nat.le_of_ble_eq_true rfl)⟩ (Nat.le_of_ble_eq_true rfl) rfl dX5_readThing_82 (fun r87 S87 H locs hp87 hQ _ => ?_)
    obtain ⟨hI, o87, b87⟩ := hp87
    obtain ⟨f88, c89, b90⟩ := invX_26 hI
    refine xiast E hs hQ 26 (by decide) c89 (ib_in b27 (by decide) (by decide)) dX5_readThing_85 (fun H locs S91 eS91 hQ => ?_)
    have hI := invX_up_26 hI eS91 ⟨_, rfl, upd_b b90 b87⟩
    have b93 : ∀ j, Bd ((upd f88 (v7 : Int32).toNatClampNeg r87) j) (0) (11) := upd_b b90 b87
    have c92 : S91 26 = .inl (g.2 0, 8, .inl (upd f88 (v7 : Int32).toNatClampNeg r87)) := up_at eS91 rfl
    refine lv_aload_n hx hb dX5_readThing_86 rfl (lv_at hl 0 rfl) ?_
    refine va_ldcS hx hb E.2.2.1 (hT.2.2.2 14 (by decide) : vk_R "EbbWreck$Reader" 185 "from" (tt.1 14) s) dX5_readThing_87 ?_
    obtain ⟨v95, v97, v98, v100, v102, v103, v104, c105, b96, b99, b101⟩ := invX_94 hI
    have c105 : S91 94 = .inr (5, [.ref (ad 1), .ref (ad 20), .int v95, .int v97, .int v98, .int v100, .int v102, .int v103, .int v104]) := c105
    refine xcVvT E hs hQ hml hl.1 hT 94 (gX5_expectWord_94 l g tt ad hD S91 hI 14 (by decide)) mX5_expectWord q623 (by decide) c105 rfl rfl ⟨(Nat.le_of_ble_eq_true rfl), (Nat.le_of_ble_eq_true rfl)⟩ ⟨(Nat.le_of_ble_eq_true rfl), (Nat.le_of_ble_eq_true rfl)⟩ (Nat.le_of_ble_eq_true rfl) rfl dX5_readThing_89 (fun S94 H locs hp94 hQ _ => ?_)
    obtain ⟨hI, o94⟩ := hp94
    refine lv_aload_n hx hb dX5_readThing_92 rfl (lv_at hl 0 rfl) ?_
    obtain ⟨v106, v108, v109, v111, v113, v114, v115, c116, b107, b110, b112⟩ := invX_94 hI
    have c116 : S94 94 = .inr (5, [.ref (ad 1), .ref (ad 20), .int v106, .int v108, .int v109, .int v111, .int v113, .int v114, .int v115]) := c116
    refine xget E hQ 94 (by decide) c116 rfl 1 (by decide) q343 rfl dX5_readThing_93 ?_
    have c117 : S94 20 = .inr (1, [.int v1, .int v3, .int v5, .ref (ad 21), .ref (ad 23), .ref (ad 24), .int v6, .int v7, .ref (ad 25), .ref (ad 26), .ref (ad 27), .ref (ad 28), .int v9, .ref (ad 33), .ref (ad 34)]) := ((o94 20 (by decide)).trans (up_ne eS91 (by decide) ((o87 20 (by decide)).trans c82)))
    refine xget E hQ 20 (by decide) c117 rfl 10 (by decide) q288 rfl dX5_readThing_96 ?_
    refine lv_aload_n hx hb dX5_readThing_99 rfl (lv_at hl 0 rfl) ?_
    refine xget E hQ 94 (by decide) c116 rfl 1 (by decide) q343 rfl dX5_readThing_100 ?_
    refine xget E hQ 20 (by decide) c117 rfl 7 (by decide) q273 rfl dX5_readThing_103 ?_
    refine lv_aload_n hx hb dX5_readThing_106 rfl (lv_at hl 0 rfl) ?_
    refine lv_iconst (v := 0) hx hb dX5_readThing_107 (by decide) ?_
    refine lv_bipush (v := 99) hx hb dX5_readThing_108 (by decide) ?_
    refine xcVi E hs hQ hml hl.1 94 (gX5_expectNumber_6 l g ad hD S94 hI 0 99 (by decide : Bd 0 (0) (0)) (by decide : Bd 99 (99) (99))) mX5_expectNumber q684 (by decide) c116 rfl rfl ⟨(Nat.le_of_ble_eq_true rfl), (Nat.le_of_ble_eq_true rfl)⟩ ⟨(Nat.le_of_ble_eq_true rfl), (Nat.le_of_ble_eq_true rfl)⟩ (Nat.le_of_ble_eq_true rfl) rfl dX5_readThing_110 (fun r118 S118 H locs hp118 hQ _ => ?_)
    obtain ⟨hI, o118, b118⟩ := hp118
    obtain ⟨f119, c120, b121⟩ := invX_27 hI
    refine xiast E hs hQ 27 (by decide) c120 (ib_in b27 (by decide) (by decide)) dX5_readThing_113 (fun H locs S122 eS122 hQ => ?_)
    have hI := invX_up_27 hI eS122 ⟨_, rfl, upd_b b121 b118⟩
    have b124 : ∀ j, Bd ((upd f119 (v7 : Int32).toNatClampNeg r118) j) (0) (99) := upd_b b121 b118
    have c123 : S122 27 = .inl (g.2 0, 8, .inl (upd f119 (v7 : Int32).toNatClampNeg r118)) := up_at eS122 rfl
    refine lv_aload_n hx hb dX5_readThing_114 rfl (lv_at hl 0 rfl) ?_
    obtain ⟨v125, v127, v128, v130, v132, v133, v134, c135, b126, b129, b131⟩ := invX_94 hI
    have c135 : S122 94 = .inr (5, [.ref (ad 1), .ref (ad 20), .int v125, .int v127, .int v128, .int v130, .int v132, .int v133, .int v134]) := c135
    refine xget E hQ 94 (by decide) c135 rfl 1 (by decide) q343 rfl dX5_readThing_115 ?_
    refine lv_dup hx hb dX5_readThing_118 rfl ?_
    have c136 : S122 20 = .inr (1, [.int v1, .int v3, .int v5, .ref (ad 21), .ref (ad 23), .ref (ad 24), .int v6, .int v7, .ref (ad 25), .ref (ad 26), .ref (ad 27), .ref (ad 28), .int v9, .ref (ad 33), .ref (ad 34)]) := (up_ne eS122 (by decide) ((o118 20 (by decide)).trans c117))
    refine xget E hQ 20 (by decide) c136 rfl 7 (by decide) q273 rfl dX5_readThing_119 ?_
    refine lv_iconst (v := 1) hx hb dX5_readThing_122 (by decide) ?_
    refine lv_iadd hx hb dX5_readThing_123 ?_
    refine lv_topi (fun z137 e138 => ?_)
    have t139 := ib_add e138 b27 (by decide : Bd 1 (1) (1)) (by decide) (by decide)
    have b140 : Bd z137 (1) (8) := ib_addb t139 b27 (by decide : Bd 1 (1) (1))
    have t139 : z137.toInt = v7.toInt + 1 := fold_add t139 rfl (by decide)
    refine xputi E hs hQ 20 (by decide) c136 rfl 7 (by decide) q273 rfl rfl (Nat.le_of_ble_eq_true rfl) dX5_readThing_124 (fun H locs S141 eS141 hQ => ?_)
    have hI := invX_up_20 hI eS141 ⟨v1, v3, v5, v6, z137, v9, rfl, b2, (ib_wk b13 (by decide) (by decide)), (ib_wk b140 (by decide) (by decide)), b10⟩
    have c142 : S141 20 = .inr (1, [.int v1, .int v3, .int v5, .ref (ad 21), .ref (ad 23), .ref (ad 24), .int v6, .int z137, .ref (ad 25), .ref (ad 26), .ref (ad 27), .ref (ad 28), .int v9, .ref (ad 33), .ref (ad 34)]) := up_at eS141 rfl
    have q143 : fld (S 20) 0 = v1.toInt := fld_of c11 rfl
    have q144 : fld (S141 20) 0 = v1.toInt := fld_of c142 rfl
    have q145 : fld (S141 20) 1 = v3.toInt := fld_of c142 rfl
    have q146 : fld (S 20) 12 = v9.toInt := fld_of c11 rfl
    have q147 : fld (S141 20) 12 = v9.toInt := fld_of c142 rfl
    exact xrv E hr hlk hQ (⟨hI, (up_o (up_o (o_trans (o_trans (up_o (o_trans (o_trans (up_o (o_trans (o_trans (o_trans o_refl o28 (by decide)) o29 (by decide)) o53 (by decide)) eS57 (by decide)) o59 (by decide)) o87 (by decide)) eS91 (by decide)) o94 (by decide)) o118 (by decide)) eS122 (by decide)) eS141 (by decide)), ⟨by omega, by omega⟩, ⟨by omega, by omega⟩, ⟨by omega, by omega⟩⟩) dX5_readThing_127
  · have h148 := ib_nlt k25
    have b149 : Bd v7 (8) (8) := ⟨((rf_le (by decide : Bd 8 (8) (8)) b8 h148).2).1, (b8).2⟩
    refine lv_aload_n hx hb dX5_readThing_12 rfl (lv_at hl 0 rfl) ?_
    refine lv_iconst (v := 3) hx hb dX5_readThing_13 (by decide) ?_
    refine xcVv E hs hQ hml hl.1 94 (gX5_fail_94 l g ad hD S hI 3) mX5_fail q679 (by decide) c24 rfl rfl ⟨(Nat.le_of_ble_eq_true rfl), (Nat.le_of_ble_eq_true rfl)⟩ ⟨(Nat.le_of_ble_eq_true rfl), (Nat.le_of_ble_eq_true rfl)⟩ (Nat.le_of_ble_eq_true rfl) rfl dX5_readThing_14 (fun S150 H locs hp150 hQ _ => ?_)
    obtain ⟨hI, o150⟩ := hp150
    have q151 : fld (S 20) 0 = v1.toInt := fld_of c11 rfl
    have c152 : S150 20 = .inr (1, [.int v1, .int v3, .int v5, .ref (ad 21), .ref (ad 23), .ref (ad 24), .int v6, .int v7, .ref (ad 25), .ref (ad 26), .ref (ad 27), .ref (ad 28), .int v9, .ref (ad 33), .ref (ad 34)]) := ((o150 20 (by decide)).trans c11)
    have q153 : fld (S150 20) 0 = v1.toInt := fld_of c152 rfl
    have q154 : fld (S150 20) 1 = v3.toInt := fld_of c152 rfl
    have q155 : fld (S 20) 12 = v9.toInt := fld_of c11 rfl
    have q156 : fld (S150 20) 12 = v9.toInt := fld_of c152 rfl
    exact xrv E hr hlk hQ (⟨hI, (o_trans o_refl o150 (by decide)), ⟨by omega, by omega⟩, ⟨by omega, by omega⟩, ⟨by omega, by omega⟩⟩) dX5_readThing_17
set_option maxHeartbeats 4000000 in
set_option maxRecDepth 100000 in
theorem gX5_readSitter_94 (l : Launch) (g : GG) (tt : TT) (ad : Nat → Nat) (hD : Dj ad 122) (S : SS) (hI : InvX g ad S) (hq1 : 0 ≤ fld (S 20) 1 + (-1)) : Met l yX5_readSitter (wG (.code yX5_readSitter cX5_readSitter 1 none)) (Rm 6) (XPreT g tt ad 122 S [.ref (ad 94)]) (va_Qv (fun S' => InvX g ad S' ∧ (∀ j, j ∉ ([20, 33, 94] : List Nat) → S' j = S j) ∧ (0 ≤ fld (S 20) 0 + (-1) * fld (S' 20) 0 ∧ 0 ≤ fld (S' 20) 0 + (-1) * fld (S 20) 0) ∧ (0 ≤ fld (S 20) 1 + (-1) * fld (S' 20) 1 ∧ 0 ≤ fld (S' 20) 1 + (-1) * fld (S 20) 1) ∧ (0 ≤ fld (S 20) 7 + (-1) * fld (S' 20) 7 ∧ 0 ≤ fld (S' 20) 7 + (-1) * fld (S 20) 7)) (QB g ad 122) (FA ad 122)) 0 0 (FA ad 122) := by
  refine xmetT cX5_readSitter "EbbWreck$Reader" (by decide) rfl (Nat.le_of_ble_eq_true rfl) (fun p e s m below meth c E hT hr hlk hml hQ ls hl => ?_)
  have hx := E.1
  have hb := E.2.1
  have hs : Sp ad 122 (FA ad 122) := Sp.fa hD
  have hl : lv_has ls 1 [(0, .ref (ad 94))] := hl
  obtain ⟨v1, v3, v5, v6, v7, v9, c11, b2, b4, b8, b10⟩ := invX_20 hI
  have c11 : S 20 = .inr (1, [.int v1, .int v3, .int v5, .ref (ad 21), .ref (ad 23), .ref (ad 24), .int v6, .int v7, .ref (ad 25), .ref (ad 26), .ref (ad 27), .ref (ad 28), .int v9, .ref (ad 33), .ref (ad 34)]) := c11
  have q12 : fld (S 20) 1 = v3.toInt := fld_of c11 rfl
  have b13 : Bd v3 (1) (12) := ⟨by omega, by omega⟩
  refine lv_aload_n hx hb dX5_readSitter_0 rfl (lv_at hl 0 rfl) ?_
  obtain ⟨v14, v16, v17, v19, v21, v22, v23, c24, b15, b18, b20⟩ := invX_94 hI
  have c24 : S 94 = .inr (5, [.ref (ad 1), .ref (ad 20), .int v14, .int v16, .int v17, .int v19, .int v21, .int v22, .int v23]) := c24
  refine xget E hQ 94 (by decide) c24 rfl 1 (by decide) q343 rfl dX5_readSitter_1 ?_
  refine xget E hQ 20 (by decide) c11 rfl 12 (by decide) q296 rfl dX5_readSitter_4 ?_
  refine lv_iconst (v := 3) hx hb dX5_readSitter_7 (by decide) ?_
  refine lv_icmp_lt (tgt := 17) hx hb dX5_readSitter_8 (by decide) (fun k25 => ?_) (fun k25 => ?_)
  · have h26 := ib_lt k25
    have b27 : Bd v9 (0) (2) := ⟨(b10).1, ((rf_lt b10 (by decide : Bd 3 (3) (3)) h26).1).2⟩
    refine lv_aload_n hx hb dX5_readSitter_17 rfl (lv_at hl 0 rfl) ?_
    refine xcVv E hs hQ hml hl.1 94 (gX5_advance_94 l g ad hD S hI ) mX5_advance q598 (by decide) c24 rfl rfl ⟨(Nat.le_of_ble_eq_true rfl), (Nat.le_of_ble_eq_true rfl)⟩ ⟨(Nat.le_of_ble_eq_true rfl), (Nat.le_of_ble_eq_true rfl)⟩ (Nat.le_of_ble_eq_true rfl) rfl dX5_readSitter_18 (fun S28 H locs hp28 hQ _ => ?_)
    obtain ⟨hI, o28⟩ := hp28
    refine lv_aload_n hx hb dX5_readSitter_21 rfl (lv_at hl 0 rfl) ?_
    refine va_ldcS hx hb E.2.2.1 (hT.2.2.2 13 (by decide) : vk_R "EbbWreck$Reader" 180 "at" (tt.1 13) s) dX5_readSitter_22 ?_
    obtain ⟨v30, v32, v33, v35, v37, v38, v39, c40, b31, b34, b36⟩ := invX_94 hI
    have c40 : S28 94 = .inr (5, [.ref (ad 1), .ref (ad 20), .int v30, .int v32, .int v33, .int v35, .int v37, .int v38, .int v39]) := c40
    refine xcVvT E hs hQ hml hl.1 hT 94 (gX5_expectWord_94 l g tt ad hD S28 hI 13 (by decide)) mX5_expectWord q623 (by decide) c40 rfl rfl ⟨(Nat.le_of_ble_eq_true rfl), (Nat.le_of_ble_eq_true rfl)⟩ ⟨(Nat.le_of_ble_eq_true rfl), (Nat.le_of_ble_eq_true rfl)⟩ (Nat.le_of_ble_eq_true rfl) rfl dX5_readSitter_24 (fun S29 H locs hp29 hQ _ => ?_)
    obtain ⟨hI, o29⟩ := hp29
    refine lv_aload_n hx hb dX5_readSitter_27 rfl (lv_at hl 0 rfl) ?_
    obtain ⟨v41, v43, v44, v46, v48, v49, v50, c51, b42, b45, b47⟩ := invX_94 hI
    have c51 : S29 94 = .inr (5, [.ref (ad 1), .ref (ad 20), .int v41, .int v43, .int v44, .int v46, .int v48, .int v49, .int v50]) := c51
    refine xget E hQ 94 (by decide) c51 rfl 1 (by decide) q343 rfl dX5_readSitter_28 ?_
    have c52 : S29 20 = .inr (1, [.int v1, .int v3, .int v5, .ref (ad 21), .ref (ad 23), .ref (ad 24), .int v6, .int v7, .ref (ad 25), .ref (ad 26), .ref (ad 27), .ref (ad 28), .int v9, .ref (ad 33), .ref (ad 34)]) := ((o29 20 (by decide)).trans ((o28 20 (by decide)).trans c11))
    refine xget E hQ 20 (by decide) c52 rfl 13 (by decide) q300 rfl dX5_readSitter_31 ?_
    refine lv_aload_n hx hb dX5_readSitter_34 rfl (lv_at hl 0 rfl) ?_
    refine xget E hQ 94 (by decide) c51 rfl 1 (by decide) q343 rfl dX5_readSitter_35 ?_
    refine xget E hQ 20 (by decide) c52 rfl 12 (by decide) q296 rfl dX5_readSitter_38 ?_
    refine lv_aload_n hx hb dX5_readSitter_41 rfl (lv_at hl 0 rfl) ?_
    refine lv_iconst (v := 0) hx hb dX5_readSitter_42 (by decide) ?_
    refine lv_aload_n hx hb dX5_readSitter_43 rfl (lv_at hl 0 rfl) ?_
    refine xget E hQ 94 (by decide) c51 rfl 1 (by decide) q343 rfl dX5_readSitter_44 ?_
    refine xget E hQ 20 (by decide) c52 rfl 1 (by decide) q245 rfl dX5_readSitter_47 ?_
    refine lv_iconst (v := 1) hx hb dX5_readSitter_50 (by decide) ?_
    refine lv_isub hx hb dX5_readSitter_51 ?_
    refine lv_topi (fun z53 e54 => ?_)
    have t55 := ib_sub e54 b13 (by decide : Bd 1 (1) (1)) (by decide) (by decide)
    have b56 : Bd z53 (0) (11) := ib_subb t55 b13 (by decide : Bd 1 (1) (1))
    have t55 : z53.toInt = v3.toInt - 1 := fold_sub t55 rfl (by decide)
    refine xcVi E hs hQ hml hl.1 94 (gX5_expectNumber_8 l g ad hD S29 hI 0 z53 (by decide : Bd 0 (0) (0)) (ib_wk b56 (by decide) (by decide))) mX5_expectNumber q684 (by decide) c51 rfl rfl ⟨(Nat.le_of_ble_eq_true rfl), (Nat.le_of_ble_eq_true rfl)⟩ ⟨(Nat.le_of_ble_eq_true rfl), (Nat.le_of_ble_eq_true rfl)⟩ (Nat.le_of_ble_eq_true rfl) rfl dX5_readSitter_52 (fun r57 S57 H locs hp57 hQ _ => ?_)
    obtain ⟨hI, o57, b57⟩ := hp57
    obtain ⟨f58, c59, b60⟩ := invX_33 hI
    refine xiast E hs hQ 33 (by decide) c59 (ib_in b27 (by decide) (by decide)) dX5_readSitter_55 (fun H locs S61 eS61 hQ => ?_)
    have hI := invX_up_33 hI eS61 ⟨_, rfl, upd_b b60 b57⟩
    have b63 : ∀ j, Bd ((upd f58 (v9 : Int32).toNatClampNeg r57) j) (0) (11) := upd_b b60 b57
    have c62 : S61 33 = .inl (g.2 0, 3, .inl (upd f58 (v9 : Int32).toNatClampNeg r57)) := up_at eS61 rfl
    refine lv_aload_n hx hb dX5_readSitter_56 rfl (lv_at hl 0 rfl) ?_
    obtain ⟨v64, v66, v67, v69, v71, v72, v73, c74, b65, b68, b70⟩ := invX_94 hI
    have c74 : S61 94 = .inr (5, [.ref (ad 1), .ref (ad 20), .int v64, .int v66, .int v67, .int v69, .int v71, .int v72, .int v73]) := c74
    refine xget E hQ 94 (by decide) c74 rfl 1 (by decide) q343 rfl dX5_readSitter_57 ?_
    refine lv_dup hx hb dX5_readSitter_60 rfl ?_
    have c75 : S61 20 = .inr (1, [.int v1, .int v3, .int v5, .ref (ad 21), .ref (ad 23), .ref (ad 24), .int v6, .int v7, .ref (ad 25), .ref (ad 26), .ref (ad 27), .ref (ad 28), .int v9, .ref (ad 33), .ref (ad 34)]) := (up_ne eS61 (by decide) ((o57 20 (by decide)).trans c52))
    refine xget E hQ 20 (by decide) c75 rfl 12 (by decide) q296 rfl dX5_readSitter_61 ?_
    refine lv_iconst (v := 1) hx hb dX5_readSitter_64 (by decide) ?_
    refine lv_iadd hx hb dX5_readSitter_65 ?_
    refine lv_topi (fun z76 e77 => ?_)
    have t78 := ib_add e77 b27 (by decide : Bd 1 (1) (1)) (by decide) (by decide)
    have b79 : Bd z76 (1) (3) := ib_addb t78 b27 (by decide : Bd 1 (1) (1))
    have t78 : z76.toInt = v9.toInt + 1 := fold_add t78 rfl (by decide)
    refine xputi E hs hQ 20 (by decide) c75 rfl 12 (by decide) q296 rfl rfl (Nat.le_of_ble_eq_true rfl) dX5_readSitter_66 (fun H locs S80 eS80 hQ => ?_)
    have hI := invX_up_20 hI eS80 ⟨v1, v3, v5, v6, v7, z76, rfl, b2, (ib_wk b13 (by decide) (by decide)), b8, (ib_wk b79 (by decide) (by decide))⟩
    have c81 : S80 20 = .inr (1, [.int v1, .int v3, .int v5, .ref (ad 21), .ref (ad 23), .ref (ad 24), .int v6, .int v7, .ref (ad 25), .ref (ad 26), .ref (ad 27), .ref (ad 28), .int z76, .ref (ad 33), .ref (ad 34)]) := up_at eS80 rfl
    have q82 : fld (S 20) 0 = v1.toInt := fld_of c11 rfl
    have q83 : fld (S80 20) 0 = v1.toInt := fld_of c81 rfl
    have q84 : fld (S80 20) 1 = v3.toInt := fld_of c81 rfl
    have q85 : fld (S 20) 7 = v7.toInt := fld_of c11 rfl
    have q86 : fld (S80 20) 7 = v7.toInt := fld_of c81 rfl
    exact xrv E hr hlk hQ (⟨hI, (up_o (up_o (o_trans (o_trans (o_trans o_refl o28 (by decide)) o29 (by decide)) o57 (by decide)) eS61 (by decide)) eS80 (by decide)), ⟨by omega, by omega⟩, ⟨by omega, by omega⟩, ⟨by omega, by omega⟩⟩) dX5_readSitter_69
  · have h87 := ib_nlt k25
    have b88 : Bd v9 (3) (3) := ⟨((rf_le (by decide : Bd 3 (3) (3)) b10 h87).2).1, (b10).2⟩
    refine lv_aload_n hx hb dX5_readSitter_11 rfl (lv_at hl 0 rfl) ?_
    refine lv_iconst (v := 3) hx hb dX5_readSitter_12 (by decide) ?_
    refine xcVv E hs hQ hml hl.1 94 (gX5_fail_94 l g ad hD S hI 3) mX5_fail q679 (by decide) c24 rfl rfl ⟨(Nat.le_of_ble_eq_true rfl), (Nat.le_of_ble_eq_true rfl)⟩ ⟨(Nat.le_of_ble_eq_true rfl), (Nat.le_of_ble_eq_true rfl)⟩ (Nat.le_of_ble_eq_true rfl) rfl dX5_readSitter_13 (fun S89 H locs hp89 hQ _ => ?_)
    obtain ⟨hI, o89⟩ := hp89
    have q90 : fld (S 20) 0 = v1.toInt := fld_of c11 rfl
    have c91 : S89 20 = .inr (1, [.int v1, .int v3, .int v5, .ref (ad 21), .ref (ad 23), .ref (ad 24), .int v6, .int v7, .ref (ad 25), .ref (ad 26), .ref (ad 27), .ref (ad 28), .int v9, .ref (ad 33), .ref (ad 34)]) := ((o89 20 (by decide)).trans c11)
    have q92 : fld (S89 20) 0 = v1.toInt := fld_of c91 rfl
    have q93 : fld (S89 20) 1 = v3.toInt := fld_of c91 rfl
    have q94 : fld (S 20) 7 = v7.toInt := fld_of c11 rfl
    have q95 : fld (S89 20) 7 = v7.toInt := fld_of c91 rfl
    exact xrv E hr hlk hQ (⟨hI, (o_trans o_refl o89 (by decide)), ⟨by omega, by omega⟩, ⟨by omega, by omega⟩, ⟨by omega, by omega⟩⟩) dX5_readSitter_16
set_option maxHeartbeats 4000000 in
set_option maxRecDepth 100000 in
theorem gX6_isFull_28 (l : Launch) (g : GG) (ad : Nat → Nat) (hD : Dj ad 122) (S : SS) (hI : InvX g ad S) : Met l yX6_isFull (wG (.code yX6_isFull cX6_isFull 1 (some .boolean))) (Rm 0) (XPre g ad 122 S [.ref (ad 28)]) (va_Qi (fun r S' => S = S' ∧ Bd r (0) (1) ∧ (((-1) * r.toInt < 0 ∨ (0 ≤ (-1) * fld (S 28) 0 + 5)))) (QB g ad 122) (FA ad 122)) 0 0 (FA ad 122) := by
  refine xmet cX6_isFull "EbbWreck$RuleBook" (by decide) rfl (Nat.le_of_ble_eq_true rfl) (fun p e s m below meth c E hr hlk hml hQ ls hl => ?_)
  have hx := E.1
  have hb := E.2.1
  have hs : Sp ad 122 (FA ad 122) := Sp.fa hD
  have hl : lv_has ls 1 [(0, .ref (ad 28))] := hl
  obtain ⟨v1, c3, b2⟩ := invX_28 hI
  have c3 : S 28 = .inr (6, [.int v1, .ref (ad 29), .ref (ad 30), .ref (ad 31), .ref (ad 32)]) := c3
  refine lv_aload_n hx hb dX6_isFull_0 rfl (lv_at hl 0 rfl) ?_
  refine xget E hQ 28 (by decide) c3 rfl 0 (by decide) q186 rfl dX6_isFull_1 ?_
  refine lv_bipush (v := 6) hx hb dX6_isFull_4 (by decide) ?_
  refine lv_icmp_lt (tgt := 13) hx hb dX6_isFull_6 (by decide) (fun k4 => ?_) (fun k4 => ?_)
  · have h5 := ib_lt k4
    have b6 : Bd v1 (0) (5) := ⟨(b2).1, ((rf_lt b2 (by decide : Bd 6 (6) (6)) h5).1).2⟩
    refine lv_iconst (v := 0) hx hb dX6_isFull_13 (by decide) ?_
    have q7 : fld (S 28) 0 = v1.toInt := fld_of c3 rfl
    have q8 : (0 : Int32).toInt = 0 := by decide
    exact xrz E hr hlk hQ rfl (⟨rfl, (ib_wk (by decide : Bd 0 (0) (0)) (by decide) (by decide)), Or.inr (by omega)⟩) dX6_isFull_14
  · have h9 := ib_nlt k4
    have b10 : Bd v1 (6) (6) := ⟨((rf_le (by decide : Bd 6 (6) (6)) b2 h9).2).1, (b2).2⟩
    refine lv_iconst (v := 1) hx hb dX6_isFull_9 (by decide) ?_
    refine lv_goto (tgt := 14) hx hb dX6_isFull_10 (by decide) ?_
    have q11 : fld (S 28) 0 = v1.toInt := fld_of c3 rfl
    have q12 : (1 : Int32).toInt = 1 := by decide
    exact xrz E hr hlk hQ rfl (⟨rfl, (ib_wk (by decide : Bd 1 (1) (1)) (by decide) (by decide)), Or.inl (by omega)⟩) dX6_isFull_14
set_option maxHeartbeats 4000000 in
set_option maxRecDepth 100000 in
theorem gX6_addRule_28 (l : Launch) (g : GG) (ad : Nat → Nat) (hD : Dj ad 122) (S : SS) (hI : InvX g ad S) (a1 : Int32) (a2 : Int32) (a3 : Int32) (a4 : Int32) : Met l yX6_addRule (wG (.code yX6_addRule cX6_addRule 5 none)) (Rm 1) (XPre g ad 122 S [.ref (ad 28), .int a1, .int a2, .int a3, .int a4]) (va_Qv (fun S' => InvX g ad S' ∧ (∀ j, j ∉ ([28, 29, 30, 31, 32] : List Nat) → S' j = S j)) (QB g ad 122) (FA ad 122)) 0 0 (FA ad 122) := by
  refine xmet cX6_addRule "EbbWreck$RuleBook" (by decide) rfl (Nat.le_of_ble_eq_true rfl) (fun p e s m below meth c E hr hlk hml hQ ls hl => ?_)
  have hx := E.1
  have hb := E.2.1
  have hs : Sp ad 122 (FA ad 122) := Sp.fa hD
  have hl : lv_has ls 5 [(0, .ref (ad 28)), (1, .int a1), (2, .int a2), (3, .int a3), (4, .int a4)] := hl
  refine lv_aload_n hx hb dX6_addRule_0 rfl (lv_at hl 0 rfl) ?_
  obtain ⟨v1, c3, b2⟩ := invX_28 hI
  have c3 : S 28 = .inr (6, [.int v1, .ref (ad 29), .ref (ad 30), .ref (ad 31), .ref (ad 32)]) := c3
  refine xcVi E hs hQ hml hl.1 28 (gX6_isFull_28 l g ad hD S hI ) mX6_isFull q735 (by decide) c3 rfl rfl ⟨(Nat.le_of_ble_eq_true rfl), (Nat.le_of_ble_eq_true rfl)⟩ ⟨(Nat.le_of_ble_eq_true rfl), (Nat.le_of_ble_eq_true rfl)⟩ (Nat.le_of_ble_eq_true rfl) rfl dX6_addRule_1 (fun r4 S4 H locs hp4 hQ _ => ?_)
  obtain ⟨rfl, b4, g4_0⟩ := hp4
  have q5 : fld (S 28) 0 = v1.toInt := fld_of c3 rfl
  refine lv_if_ne (tgt := 58) hx hb dX6_addRule_4 (by decide) (fun k6 => ?_) (fun k6 => ?_)
  · have h7 := ib_ne k6
    have b8 : Bd r4 (1) (1) := rf_nlo b4 (by decide : Bd 0 (0) (0)) h7
    clear g4_0
    exact xrv E hr hlk hQ (⟨hI, o_refl⟩) dX6_addRule_58
  · have h9 := ib_eq k6
    have b10 : Bd r4 (0) (0) := ⟨(b4).1, ((rf_eq b4 (by decide : Bd 0 (0) (0)) h9).1).2⟩
    have g11 := g4_0.resolve_left (by omega)
    clear g4_0
    have b12 : Bd v1 (0) (5) := ⟨by omega, by omega⟩
    refine lv_aload_n hx hb dX6_addRule_7 rfl (lv_at hl 0 rfl) ?_
    refine xget E hQ 28 (by decide) c3 rfl 1 (by decide) q189 rfl dX6_addRule_8 ?_
    refine lv_aload_n hx hb dX6_addRule_11 rfl (lv_at hl 0 rfl) ?_
    refine xget E hQ 28 (by decide) c3 rfl 0 (by decide) q186 rfl dX6_addRule_12 ?_
    refine lv_iload_n hx hb dX6_addRule_15 rfl (lv_at hl 1 rfl) ?_
    obtain ⟨f13, c14⟩ := invX_29 hI
    refine xiast E hs hQ 29 (by decide) c14 (ib_in b12 (by decide) (by decide)) dX6_addRule_16 (fun H locs S16 eS16 hQ => ?_)
    have hI := invX_up_29 hI eS16 ⟨_, rfl⟩
    have c17 : S16 29 = .inl (g.2 0, 6, .inl (upd f13 (v1 : Int32).toNatClampNeg a1)) := up_at eS16 rfl
    refine lv_aload_n hx hb dX6_addRule_17 rfl (lv_at hl 0 rfl) ?_
    have c18 : S16 28 = .inr (6, [.int v1, .ref (ad 29), .ref (ad 30), .ref (ad 31), .ref (ad 32)]) := (up_ne eS16 (by decide) c3)
    refine xget E hQ 28 (by decide) c18 rfl 2 (by decide) q191 rfl dX6_addRule_18 ?_
    refine lv_aload_n hx hb dX6_addRule_21 rfl (lv_at hl 0 rfl) ?_
    refine xget E hQ 28 (by decide) c18 rfl 0 (by decide) q186 rfl dX6_addRule_22 ?_
    refine lv_iload_n hx hb dX6_addRule_25 rfl (lv_at hl 2 rfl) ?_
    obtain ⟨f19, c20⟩ := invX_30 hI
    refine xiast E hs hQ 30 (by decide) c20 (ib_in b12 (by decide) (by decide)) dX6_addRule_26 (fun H locs S22 eS22 hQ => ?_)
    have hI := invX_up_30 hI eS22 ⟨_, rfl⟩
    have c23 : S22 30 = .inl (g.2 0, 6, .inl (upd f19 (v1 : Int32).toNatClampNeg a2)) := up_at eS22 rfl
    refine lv_aload_n hx hb dX6_addRule_27 rfl (lv_at hl 0 rfl) ?_
    have c24 : S22 28 = .inr (6, [.int v1, .ref (ad 29), .ref (ad 30), .ref (ad 31), .ref (ad 32)]) := (up_ne eS22 (by decide) c18)
    refine xget E hQ 28 (by decide) c24 rfl 3 (by decide) q193 rfl dX6_addRule_28 ?_
    refine lv_aload_n hx hb dX6_addRule_31 rfl (lv_at hl 0 rfl) ?_
    refine xget E hQ 28 (by decide) c24 rfl 0 (by decide) q186 rfl dX6_addRule_32 ?_
    refine lv_iload_n hx hb dX6_addRule_35 rfl (lv_at hl 3 rfl) ?_
    obtain ⟨f25, c26⟩ := invX_31 hI
    refine xiast E hs hQ 31 (by decide) c26 (ib_in b12 (by decide) (by decide)) dX6_addRule_36 (fun H locs S28 eS28 hQ => ?_)
    have hI := invX_up_31 hI eS28 ⟨_, rfl⟩
    have c29 : S28 31 = .inl (g.2 0, 6, .inl (upd f25 (v1 : Int32).toNatClampNeg a3)) := up_at eS28 rfl
    refine lv_aload_n hx hb dX6_addRule_37 rfl (lv_at hl 0 rfl) ?_
    have c30 : S28 28 = .inr (6, [.int v1, .ref (ad 29), .ref (ad 30), .ref (ad 31), .ref (ad 32)]) := (up_ne eS28 (by decide) c24)
    refine xget E hQ 28 (by decide) c30 rfl 4 (by decide) q195 rfl dX6_addRule_38 ?_
    refine lv_aload_n hx hb dX6_addRule_41 rfl (lv_at hl 0 rfl) ?_
    refine xget E hQ 28 (by decide) c30 rfl 0 (by decide) q186 rfl dX6_addRule_42 ?_
    refine lv_iload hx hb dX6_addRule_45 (lv_at hl 4 rfl) ?_
    obtain ⟨f31, c32⟩ := invX_32 hI
    refine xiast E hs hQ 32 (by decide) c32 (ib_in b12 (by decide) (by decide)) dX6_addRule_47 (fun H locs S34 eS34 hQ => ?_)
    have hI := invX_up_32 hI eS34 ⟨_, rfl⟩
    have c35 : S34 32 = .inl (g.2 0, 6, .inl (upd f31 (v1 : Int32).toNatClampNeg a4)) := up_at eS34 rfl
    refine lv_aload_n hx hb dX6_addRule_48 rfl (lv_at hl 0 rfl) ?_
    refine lv_dup hx hb dX6_addRule_49 rfl ?_
    have c36 : S34 28 = .inr (6, [.int v1, .ref (ad 29), .ref (ad 30), .ref (ad 31), .ref (ad 32)]) := (up_ne eS34 (by decide) c30)
    refine xget E hQ 28 (by decide) c36 rfl 0 (by decide) q186 rfl dX6_addRule_50 ?_
    refine lv_iconst (v := 1) hx hb dX6_addRule_53 (by decide) ?_
    refine lv_iadd hx hb dX6_addRule_54 ?_
    refine lv_topi (fun z37 e38 => ?_)
    have t39 := ib_add e38 b12 (by decide : Bd 1 (1) (1)) (by decide) (by decide)
    have b40 : Bd z37 (1) (6) := ib_addb t39 b12 (by decide : Bd 1 (1) (1))
    have t39 : z37.toInt = v1.toInt + 1 := fold_add t39 rfl (by decide)
    refine xputi E hs hQ 28 (by decide) c36 rfl 0 (by decide) q186 rfl rfl (Nat.le_of_ble_eq_true rfl) dX6_addRule_55 (fun H locs S41 eS41 hQ => ?_)
    have hI := invX_up_28 hI eS41 ⟨z37, rfl, (ib_wk b40 (by decide) (by decide))⟩
    have c42 : S41 28 = .inr (6, [.int z37, .ref (ad 29), .ref (ad 30), .ref (ad 31), .ref (ad 32)]) := up_at eS41 rfl
    exact xrv E hr hlk hQ (⟨hI, (up_o (up_o (up_o (up_o (up_o o_refl eS16 (by decide)) eS22 (by decide)) eS28 (by decide)) eS34 (by decide)) eS41 (by decide))⟩) dX6_addRule_58
set_option maxHeartbeats 4000000 in
set_option maxRecDepth 100000 in
theorem gX5_readPhases_94 (l : Launch) (g : GG) (tt : TT) (ad : Nat → Nat) (hD : Dj ad 122) (S : SS) (hI : InvX g ad S) : Met l yX5_readPhases (wG (.code yX5_readPhases cX5_readPhases 4 (some .int))) (Rm 5) (XPreT g tt ad 122 S [.ref (ad 94)]) (va_Qi (fun _ S' => InvX g ad S' ∧ (∀ j, j ∉ ([94] : List Nat) → S' j = S j)) (QB g ad 122) (FA ad 122)) 0 0 (FA ad 122) := by
  refine xmetT cX5_readPhases "EbbWreck$Reader" (by decide) rfl (Nat.le_of_ble_eq_true rfl) (fun p e s m below meth c E hT hr hlk hml hQ ls hl => ?_)
  have hx := E.1
  have hb := E.2.1
  have hs : Sp ad 122 (FA ad 122) := Sp.fa hD
  have hl : lv_has ls 4 [(0, .ref (ad 94))] := hl
  refine lv_iconst (v := 0) hx hb dX5_readPhases_0 (by decide) ?_
  refine lv_istore_n (lv' := [(1, .int 0), (0, .ref (ad 94))]) hx hb dX5_readPhases_1 rfl hl (by decide) rfl (fun ls hl => ?_)
  refine lv_iconst (v := 0) hx hb dX5_readPhases_2 (by decide) ?_
  refine lv_istore_n (lv' := [(2, .int 0), (1, .int 0), (0, .ref (ad 94))]) hx hb dX5_readPhases_3 rfl hl (by decide) rfl (fun ls hl => ?_)
  obtain ⟨v1, v3, v4, v6, v8, v9, v10, c11, b2, b5, b7⟩ := invX_94 hI
  have c11 : S 94 = .inr (5, [.ref (ad 1), .ref (ad 20), .int v1, .int v3, .int v4, .int v6, .int v8, .int v9, .int v10]) := c11
  have loop4 : ∀ (n : Nat) (S_4 : SS) (H : Heap) (locs : List Loc) (ls : Array Slot) (x4_1 : Int32) (x4_2 : Int32) (y4_94_2 : Int32) (y4_94_3 : Int32) (y4_94_4 : Int32) (y4_94_5 : Int32) (y4_94_6 : Int32) (y4_94_7 : Int32) (y4_94_8 : Int32), Bd x4_2 (0) (1201) → Bd y4_94_2 (0) (1200) → Bd y4_94_4 (0) (1200) → Bd y4_94_5 (0) (1200) → (-1) * x4_2.toInt + 1201 < ((n : Nat) : Int) → InvX g ad S_4 → (∀ j, j ∉ ([94] : List Nat) → S_4 j = S j) → S_4 94 = .inr (5, [.ref (ad 1), .ref (ad 20), .int y4_94_2, .int y4_94_3, .int y4_94_4, .int y4_94_5, .int y4_94_6, .int y4_94_7, .int y4_94_8]) → Hp g ad 122 S_4 (FA ad 122) s.heap H locs → lv_has ls 4 [(2, .int x4_2), (1, .int x4_1), (0, .ref (ad 94))] → W p l e (Rm 5) s m [.ref (ad 94)].toArray below meth c H locs 0 0 (MQ below (va_Qi (fun _ S' => InvX g ad S' ∧ (∀ j, j ∉ ([94] : List Nat) → S' j = S j)) (QB g ad 122) (FA ad 122)) [.ref (ad 94)].toArray s 0 0 (FA ad 122)) (F0 m 4 ls []) := by
    intro n
    induction n with
    | zero => intro S_4 H locs ls x4_1 x4_2 y4_94_2 y4_94_3 y4_94_4 y4_94_5 y4_94_6 y4_94_7 y4_94_8 Bx4_2 By4_94_2 By4_94_4 By4_94_5 hn4_ hI hf4 cl4_94 hQ hl; exfalso; have := (Bx4_2).2; omega
    | succ n4_ ih4 =>
      intro S_4 H locs ls x4_1 x4_2 y4_94_2 y4_94_3 y4_94_4 y4_94_5 y4_94_6 y4_94_7 y4_94_8 Bx4_2 By4_94_2 By4_94_4 By4_94_5 hn4_ hI hf4 cl4_94 hQ hl
      refine lv_iload_n hx hb dX5_readPhases_4 rfl (lv_at hl 0 rfl) ?_
      refine lv_sipush (v := 1200) hx hb dX5_readPhases_5 (by decide) ?_
      refine lv_icmp_gt (tgt := 80) hx hb dX5_readPhases_8 (by decide) (fun k12 => ?_) (fun k12 => ?_)
      · have h13 := ib_lt k12
        have b14 : Bd x4_2 (1201) (1201) := ⟨((rf_lt (by decide : Bd 1200 (1200) (1200)) Bx4_2 h13).2).1, (Bx4_2).2⟩
        refine lv_iload_n hx hb dX5_readPhases_80 rfl (lv_at hl 1 rfl) ?_
        refine lv_if_ne (tgt := 89) hx hb dX5_readPhases_81 (by decide) (fun k15 => ?_) (fun k15 => ?_)
        · have h16 := ib_ne k15
          refine lv_iload_n hx hb dX5_readPhases_89 rfl (lv_at hl 1 rfl) ?_
          exact xri E hr hlk hQ (⟨hI, (o_trans o_refl hf4 (by decide))⟩) dX5_readPhases_90
        · have h17 := ib_eq k15
          have b18 : Bd x4_1 (0) (0) := ⟨((rf_eq (ib_full x4_1) (by decide : Bd 0 (0) (0)) h17).1).1, ((rf_eq (ib_full x4_1) (by decide : Bd 0 (0) (0)) h17).1).2⟩
          refine lv_aload_n hx hb dX5_readPhases_84 rfl (lv_at hl 2 rfl) ?_
          refine lv_iconst (v := 1) hx hb dX5_readPhases_85 (by decide) ?_
          refine xcVv E hs hQ hml hl.1 94 (gX5_fail_94 l g ad hD S_4 hI 1) mX5_fail q679 (by decide) cl4_94 rfl rfl ⟨(Nat.le_of_ble_eq_true rfl), (Nat.le_of_ble_eq_true rfl)⟩ ⟨(Nat.le_of_ble_eq_true rfl), (Nat.le_of_ble_eq_true rfl)⟩ (Nat.le_of_ble_eq_true rfl) rfl dX5_readPhases_86 (fun S19 H locs hp19 hQ _ => ?_)
          obtain ⟨hI, o19⟩ := hp19
          refine lv_iload_n hx hb dX5_readPhases_89 rfl (lv_at hl 1 rfl) ?_
          exact xri E hr hlk hQ (⟨hI, (o_trans (o_trans o_refl hf4 (by decide)) o19 (by decide))⟩) dX5_readPhases_90
      · have h20 := ib_nlt k12
        have b21 : Bd x4_2 (0) (1200) := ⟨(Bx4_2).1, ((rf_le Bx4_2 (by decide : Bd 1200 (1200) (1200)) h20).1).2⟩
        refine lv_aload_n hx hb dX5_readPhases_11 rfl (lv_at hl 2 rfl) ?_
        refine va_ldcS hx hb E.2.2.1 (hT.2.2.2 7 (by decide) : vk_R "EbbWreck$Reader" 137 "flood" (tt.1 7) s) dX5_readPhases_12 ?_
        refine xcViT E hs hQ hml hl.1 hT 94 (gX5_isWord_94 l g tt ad hD S_4 hI 7 (by decide)) mX5_isWord q627 (by decide) cl4_94 rfl rfl ⟨(Nat.le_of_ble_eq_true rfl), (Nat.le_of_ble_eq_true rfl)⟩ ⟨(Nat.le_of_ble_eq_true rfl), (Nat.le_of_ble_eq_true rfl)⟩ (Nat.le_of_ble_eq_true rfl) rfl dX5_readPhases_14 (fun r22 S22 H locs hp22 hQ _ => ?_)
        obtain ⟨rfl, b22⟩ := hp22
        refine lv_if_eq (tgt := 24) hx hb dX5_readPhases_17 (by decide) (fun k23 => ?_) (fun k23 => ?_)
        · have h24 := ib_eq k23
          have b25 : Bd r22 (0) (0) := ⟨(b22).1, ((rf_eq b22 (by decide : Bd 0 (0) (0)) h24).1).2⟩
          refine lv_aload_n hx hb dX5_readPhases_24 rfl (lv_at hl 2 rfl) ?_
          refine va_ldcS hx hb E.2.2.1 (hT.2.2.2 8 (by decide) : vk_R "EbbWreck$Reader" 139 "slack" (tt.1 8) s) dX5_readPhases_25 ?_
          refine xcViT E hs hQ hml hl.1 hT 94 (gX5_isWord_94 l g tt ad hD S_4 hI 8 (by decide)) mX5_isWord q627 (by decide) cl4_94 rfl rfl ⟨(Nat.le_of_ble_eq_true rfl), (Nat.le_of_ble_eq_true rfl)⟩ ⟨(Nat.le_of_ble_eq_true rfl), (Nat.le_of_ble_eq_true rfl)⟩ (Nat.le_of_ble_eq_true rfl) rfl dX5_readPhases_27 (fun r26 S26 H locs hp26 hQ _ => ?_)
          obtain ⟨rfl, b26⟩ := hp26
          refine lv_if_eq (tgt := 37) hx hb dX5_readPhases_30 (by decide) (fun k27 => ?_) (fun k27 => ?_)
          · have h28 := ib_eq k27
            have b29 : Bd r26 (0) (0) := ⟨(b26).1, ((rf_eq b26 (by decide : Bd 0 (0) (0)) h28).1).2⟩
            refine lv_aload_n hx hb dX5_readPhases_37 rfl (lv_at hl 2 rfl) ?_
            refine va_ldcS hx hb E.2.2.1 (hT.2.2.2 9 (by decide) : vk_R "EbbWreck$Reader" 141 "ebb" (tt.1 9) s) dX5_readPhases_38 ?_
            refine xcViT E hs hQ hml hl.1 hT 94 (gX5_isWord_94 l g tt ad hD S_4 hI 9 (by decide)) mX5_isWord q627 (by decide) cl4_94 rfl rfl ⟨(Nat.le_of_ble_eq_true rfl), (Nat.le_of_ble_eq_true rfl)⟩ ⟨(Nat.le_of_ble_eq_true rfl), (Nat.le_of_ble_eq_true rfl)⟩ (Nat.le_of_ble_eq_true rfl) rfl dX5_readPhases_40 (fun r30 S30 H locs hp30 hQ _ => ?_)
            obtain ⟨rfl, b30⟩ := hp30
            refine lv_if_eq (tgt := 50) hx hb dX5_readPhases_43 (by decide) (fun k31 => ?_) (fun k31 => ?_)
            · have h32 := ib_eq k31
              have b33 : Bd r30 (0) (0) := ⟨(b30).1, ((rf_eq b30 (by decide : Bd 0 (0) (0)) h32).1).2⟩
              refine lv_iconst (v := 0) hx hb dX5_readPhases_50 (by decide) ?_
              refine lv_istore_n (lv' := [(3, .int 0), (2, .int x4_2), (1, .int x4_1), (0, .ref (ad 94))]) hx hb dX5_readPhases_51 rfl hl (by decide) rfl (fun ls hl => ?_)
              refine lv_iload_n hx hb dX5_readPhases_52 rfl (lv_at hl 0 rfl) ?_
              refine lv_if_eq (tgt := 80) hx hb dX5_readPhases_53 (by decide) (fun k34 => ?_) (fun k34 => ?_)
              · have h35 := ib_eq k34
                refine lv_iload_n hx hb dX5_readPhases_80 rfl (lv_at hl 2 rfl) ?_
                refine lv_if_ne (tgt := 89) hx hb dX5_readPhases_81 (by decide) (fun k36 => ?_) (fun k36 => ?_)
                · have h37 := ib_ne k36
                  refine lv_iload_n hx hb dX5_readPhases_89 rfl (lv_at hl 2 rfl) ?_
                  exact xri E hr hlk hQ (⟨hI, (o_trans o_refl hf4 (by decide))⟩) dX5_readPhases_90
                · have h38 := ib_eq k36
                  have b39 : Bd x4_1 (0) (0) := ⟨((rf_eq (ib_full x4_1) (by decide : Bd 0 (0) (0)) h38).1).1, ((rf_eq (ib_full x4_1) (by decide : Bd 0 (0) (0)) h38).1).2⟩
                  refine lv_aload_n hx hb dX5_readPhases_84 rfl (lv_at hl 3 rfl) ?_
                  refine lv_iconst (v := 1) hx hb dX5_readPhases_85 (by decide) ?_
                  refine xcVv E hs hQ hml hl.1 94 (gX5_fail_94 l g ad hD S_4 hI 1) mX5_fail q679 (by decide) cl4_94 rfl rfl ⟨(Nat.le_of_ble_eq_true rfl), (Nat.le_of_ble_eq_true rfl)⟩ ⟨(Nat.le_of_ble_eq_true rfl), (Nat.le_of_ble_eq_true rfl)⟩ (Nat.le_of_ble_eq_true rfl) rfl dX5_readPhases_86 (fun S40 H locs hp40 hQ _ => ?_)
                  obtain ⟨hI, o40⟩ := hp40
                  refine lv_iload_n hx hb dX5_readPhases_89 rfl (lv_at hl 2 rfl) ?_
                  exact xri E hr hlk hQ (⟨hI, (o_trans (o_trans o_refl hf4 (by decide)) o40 (by decide))⟩) dX5_readPhases_90
              · have h41 := ib_ne k34
                exact absurd h41 (by decide)
            · have h42 := ib_ne k31
              have b43 : Bd r30 (1) (1) := rf_nlo b30 (by decide : Bd 0 (0) (0)) h42
              refine lv_iconst (v := 4) hx hb dX5_readPhases_46 (by decide) ?_
              refine lv_goto (tgt := 51) hx hb dX5_readPhases_47 (by decide) ?_
              refine lv_istore_n (lv' := [(3, .int 4), (2, .int x4_2), (1, .int x4_1), (0, .ref (ad 94))]) hx hb dX5_readPhases_51 rfl hl (by decide) rfl (fun ls hl => ?_)
              refine lv_iload_n hx hb dX5_readPhases_52 rfl (lv_at hl 0 rfl) ?_
              refine lv_if_eq (tgt := 80) hx hb dX5_readPhases_53 (by decide) (fun k44 => ?_) (fun k44 => ?_)
              · have h45 := ib_eq k44
                exact absurd h45 (by decide)
              · have h46 := ib_ne k44
                refine lv_aload_n hx hb dX5_readPhases_56 rfl (lv_at hl 3 rfl) ?_
                refine xcVi E hs hQ hml hl.1 94 (gX5_failed_94 l g ad hD S_4 hI ) mX5_failed q610 (by decide) cl4_94 rfl rfl ⟨(Nat.le_of_ble_eq_true rfl), (Nat.le_of_ble_eq_true rfl)⟩ ⟨(Nat.le_of_ble_eq_true rfl), (Nat.le_of_ble_eq_true rfl)⟩ (Nat.le_of_ble_eq_true rfl) rfl dX5_readPhases_57 (fun r47 S47 H locs hp47 hQ _ => ?_)
                obtain ⟨rfl, b47⟩ := hp47
                refine lv_if_eq (tgt := 66) hx hb dX5_readPhases_60 (by decide) (fun k48 => ?_) (fun k48 => ?_)
                · have h49 := ib_eq k48
                  have b50 : Bd r47 (0) (0) := ⟨(b47).1, ((rf_eq b47 (by decide : Bd 0 (0) (0)) h49).1).2⟩
                  refine lv_iload_n hx hb dX5_readPhases_66 rfl (lv_at hl 2 rfl) ?_
                  refine lv_iload_n hx hb dX5_readPhases_67 rfl (lv_at hl 0 rfl) ?_
                  refine lv_ior hx hb dX5_readPhases_68 ?_
                  refine lv_topi (fun z51 e52 => ?_)
                  refine lv_istore_n (lv' := [(1, .int z51), (3, .int 4), (2, .int x4_2), (0, .ref (ad 94))]) hx hb dX5_readPhases_69 rfl hl (by decide) rfl (fun ls hl => ?_)
                  refine lv_aload_n hx hb dX5_readPhases_70 rfl (lv_at hl 3 rfl) ?_
                  refine xcVv E hs hQ hml hl.1 94 (gX5_advance_94 l g ad hD S_4 hI ) mX5_advance q598 (by decide) cl4_94 rfl rfl ⟨(Nat.le_of_ble_eq_true rfl), (Nat.le_of_ble_eq_true rfl)⟩ ⟨(Nat.le_of_ble_eq_true rfl), (Nat.le_of_ble_eq_true rfl)⟩ (Nat.le_of_ble_eq_true rfl) rfl dX5_readPhases_71 (fun S53 H locs hp53 hQ _ => ?_)
                  obtain ⟨hI, o53⟩ := hp53
                  obtain ⟨z54, e55⟩ : ∃ z : Int32, z = x4_2 + 1 := ⟨_, rfl⟩
                  have t56 := ib_add e55 b21 (by decide : Bd 1 (1) (1)) (by decide) (by decide)
                  have b57 : Bd z54 (1) (1201) := ib_addb t56 b21 (by decide : Bd 1 (1) (1))
                  have t56 : z54.toInt = x4_2.toInt + 1 := fold_add t56 rfl (by decide)
                  refine lv_iinc (v := z54) (lv' := [(2, .int z54), (1, .int z51), (3, .int 4), (0, .ref (ad 94))]) hx hb dX5_readPhases_74 hl (k := 2) rfl (by rw [e55]; rfl) (by decide) rfl (fun ls hl => ?_)
                  refine lv_goto (tgt := 4) hx hb dX5_readPhases_77 (by decide) ?_
                  obtain ⟨v58, v60, v61, v63, v65, v66, v67, c68, b59, b62, b64⟩ := invX_94 hI
                  have c68 : S53 94 = .inr (5, [.ref (ad 1), .ref (ad 20), .int v58, .int v60, .int v61, .int v63, .int v65, .int v66, .int v67]) := c68
                  exact ih4 _ _ _ _ z51 z54 v58 v60 v61 v63 v65 v66 v67 (ib_wk b57 (by decide) (by decide)) b59 b62 b64 (by omega) hI (o_trans hf4 o53 (by decide)) c68 hQ (lv_sub hl [0, 1, 3] rfl)
                · have h69 := ib_ne k48
                  have b70 : Bd r47 (1) (1) := rf_nlo b47 (by decide : Bd 0 (0) (0)) h69
                  refine lv_goto (tgt := 80) hx hb dX5_readPhases_63 (by decide) ?_
                  refine lv_iload_n hx hb dX5_readPhases_80 rfl (lv_at hl 2 rfl) ?_
                  refine lv_if_ne (tgt := 89) hx hb dX5_readPhases_81 (by decide) (fun k71 => ?_) (fun k71 => ?_)
                  · have h72 := ib_ne k71
                    refine lv_iload_n hx hb dX5_readPhases_89 rfl (lv_at hl 2 rfl) ?_
                    exact xri E hr hlk hQ (⟨hI, (o_trans o_refl hf4 (by decide))⟩) dX5_readPhases_90
                  · have h73 := ib_eq k71
                    have b74 : Bd x4_1 (0) (0) := ⟨((rf_eq (ib_full x4_1) (by decide : Bd 0 (0) (0)) h73).1).1, ((rf_eq (ib_full x4_1) (by decide : Bd 0 (0) (0)) h73).1).2⟩
                    refine lv_aload_n hx hb dX5_readPhases_84 rfl (lv_at hl 3 rfl) ?_
                    refine lv_iconst (v := 1) hx hb dX5_readPhases_85 (by decide) ?_
                    refine xcVv E hs hQ hml hl.1 94 (gX5_fail_94 l g ad hD S_4 hI 1) mX5_fail q679 (by decide) cl4_94 rfl rfl ⟨(Nat.le_of_ble_eq_true rfl), (Nat.le_of_ble_eq_true rfl)⟩ ⟨(Nat.le_of_ble_eq_true rfl), (Nat.le_of_ble_eq_true rfl)⟩ (Nat.le_of_ble_eq_true rfl) rfl dX5_readPhases_86 (fun S75 H locs hp75 hQ _ => ?_)
                    obtain ⟨hI, o75⟩ := hp75
                    refine lv_iload_n hx hb dX5_readPhases_89 rfl (lv_at hl 2 rfl) ?_
                    exact xri E hr hlk hQ (⟨hI, (o_trans (o_trans o_refl hf4 (by decide)) o75 (by decide))⟩) dX5_readPhases_90
          · have h76 := ib_ne k27
            have b77 : Bd r26 (1) (1) := rf_nlo b26 (by decide : Bd 0 (0) (0)) h76
            refine lv_iconst (v := 2) hx hb dX5_readPhases_33 (by decide) ?_
            refine lv_goto (tgt := 51) hx hb dX5_readPhases_34 (by decide) ?_
            refine lv_istore_n (lv' := [(3, .int 2), (2, .int x4_2), (1, .int x4_1), (0, .ref (ad 94))]) hx hb dX5_readPhases_51 rfl hl (by decide) rfl (fun ls hl => ?_)
            refine lv_iload_n hx hb dX5_readPhases_52 rfl (lv_at hl 0 rfl) ?_
            refine lv_if_eq (tgt := 80) hx hb dX5_readPhases_53 (by decide) (fun k78 => ?_) (fun k78 => ?_)
            · have h79 := ib_eq k78
              exact absurd h79 (by decide)
            · have h80 := ib_ne k78
              refine lv_aload_n hx hb dX5_readPhases_56 rfl (lv_at hl 3 rfl) ?_
              refine xcVi E hs hQ hml hl.1 94 (gX5_failed_94 l g ad hD S_4 hI ) mX5_failed q610 (by decide) cl4_94 rfl rfl ⟨(Nat.le_of_ble_eq_true rfl), (Nat.le_of_ble_eq_true rfl)⟩ ⟨(Nat.le_of_ble_eq_true rfl), (Nat.le_of_ble_eq_true rfl)⟩ (Nat.le_of_ble_eq_true rfl) rfl dX5_readPhases_57 (fun r81 S81 H locs hp81 hQ _ => ?_)
              obtain ⟨rfl, b81⟩ := hp81
              refine lv_if_eq (tgt := 66) hx hb dX5_readPhases_60 (by decide) (fun k82 => ?_) (fun k82 => ?_)
              · have h83 := ib_eq k82
                have b84 : Bd r81 (0) (0) := ⟨(b81).1, ((rf_eq b81 (by decide : Bd 0 (0) (0)) h83).1).2⟩
                refine lv_iload_n hx hb dX5_readPhases_66 rfl (lv_at hl 2 rfl) ?_
                refine lv_iload_n hx hb dX5_readPhases_67 rfl (lv_at hl 0 rfl) ?_
                refine lv_ior hx hb dX5_readPhases_68 ?_
                refine lv_topi (fun z85 e86 => ?_)
                refine lv_istore_n (lv' := [(1, .int z85), (3, .int 2), (2, .int x4_2), (0, .ref (ad 94))]) hx hb dX5_readPhases_69 rfl hl (by decide) rfl (fun ls hl => ?_)
                refine lv_aload_n hx hb dX5_readPhases_70 rfl (lv_at hl 3 rfl) ?_
                refine xcVv E hs hQ hml hl.1 94 (gX5_advance_94 l g ad hD S_4 hI ) mX5_advance q598 (by decide) cl4_94 rfl rfl ⟨(Nat.le_of_ble_eq_true rfl), (Nat.le_of_ble_eq_true rfl)⟩ ⟨(Nat.le_of_ble_eq_true rfl), (Nat.le_of_ble_eq_true rfl)⟩ (Nat.le_of_ble_eq_true rfl) rfl dX5_readPhases_71 (fun S87 H locs hp87 hQ _ => ?_)
                obtain ⟨hI, o87⟩ := hp87
                obtain ⟨z88, e89⟩ : ∃ z : Int32, z = x4_2 + 1 := ⟨_, rfl⟩
                have t90 := ib_add e89 b21 (by decide : Bd 1 (1) (1)) (by decide) (by decide)
                have b91 : Bd z88 (1) (1201) := ib_addb t90 b21 (by decide : Bd 1 (1) (1))
                have t90 : z88.toInt = x4_2.toInt + 1 := fold_add t90 rfl (by decide)
                refine lv_iinc (v := z88) (lv' := [(2, .int z88), (1, .int z85), (3, .int 2), (0, .ref (ad 94))]) hx hb dX5_readPhases_74 hl (k := 2) rfl (by rw [e89]; rfl) (by decide) rfl (fun ls hl => ?_)
                refine lv_goto (tgt := 4) hx hb dX5_readPhases_77 (by decide) ?_
                obtain ⟨v92, v94, v95, v97, v99, v100, v101, c102, b93, b96, b98⟩ := invX_94 hI
                have c102 : S87 94 = .inr (5, [.ref (ad 1), .ref (ad 20), .int v92, .int v94, .int v95, .int v97, .int v99, .int v100, .int v101]) := c102
                exact ih4 _ _ _ _ z85 z88 v92 v94 v95 v97 v99 v100 v101 (ib_wk b91 (by decide) (by decide)) b93 b96 b98 (by omega) hI (o_trans hf4 o87 (by decide)) c102 hQ (lv_sub hl [0, 1, 3] rfl)
              · have h103 := ib_ne k82
                have b104 : Bd r81 (1) (1) := rf_nlo b81 (by decide : Bd 0 (0) (0)) h103
                refine lv_goto (tgt := 80) hx hb dX5_readPhases_63 (by decide) ?_
                refine lv_iload_n hx hb dX5_readPhases_80 rfl (lv_at hl 2 rfl) ?_
                refine lv_if_ne (tgt := 89) hx hb dX5_readPhases_81 (by decide) (fun k105 => ?_) (fun k105 => ?_)
                · have h106 := ib_ne k105
                  refine lv_iload_n hx hb dX5_readPhases_89 rfl (lv_at hl 2 rfl) ?_
                  exact xri E hr hlk hQ (⟨hI, (o_trans o_refl hf4 (by decide))⟩) dX5_readPhases_90
                · have h107 := ib_eq k105
                  have b108 : Bd x4_1 (0) (0) := ⟨((rf_eq (ib_full x4_1) (by decide : Bd 0 (0) (0)) h107).1).1, ((rf_eq (ib_full x4_1) (by decide : Bd 0 (0) (0)) h107).1).2⟩
                  refine lv_aload_n hx hb dX5_readPhases_84 rfl (lv_at hl 3 rfl) ?_
                  refine lv_iconst (v := 1) hx hb dX5_readPhases_85 (by decide) ?_
                  refine xcVv E hs hQ hml hl.1 94 (gX5_fail_94 l g ad hD S_4 hI 1) mX5_fail q679 (by decide) cl4_94 rfl rfl ⟨(Nat.le_of_ble_eq_true rfl), (Nat.le_of_ble_eq_true rfl)⟩ ⟨(Nat.le_of_ble_eq_true rfl), (Nat.le_of_ble_eq_true rfl)⟩ (Nat.le_of_ble_eq_true rfl) rfl dX5_readPhases_86 (fun S109 H locs hp109 hQ _ => ?_)
                  obtain ⟨hI, o109⟩ := hp109
                  refine lv_iload_n hx hb dX5_readPhases_89 rfl (lv_at hl 2 rfl) ?_
                  exact xri E hr hlk hQ (⟨hI, (o_trans (o_trans o_refl hf4 (by decide)) o109 (by decide))⟩) dX5_readPhases_90
        · have h110 := ib_ne k23
          have b111 : Bd r22 (1) (1) := rf_nlo b22 (by decide : Bd 0 (0) (0)) h110
          refine lv_iconst (v := 1) hx hb dX5_readPhases_20 (by decide) ?_
          refine lv_goto (tgt := 51) hx hb dX5_readPhases_21 (by decide) ?_
          refine lv_istore_n (lv' := [(3, .int 1), (2, .int x4_2), (1, .int x4_1), (0, .ref (ad 94))]) hx hb dX5_readPhases_51 rfl hl (by decide) rfl (fun ls hl => ?_)
          refine lv_iload_n hx hb dX5_readPhases_52 rfl (lv_at hl 0 rfl) ?_
          refine lv_if_eq (tgt := 80) hx hb dX5_readPhases_53 (by decide) (fun k112 => ?_) (fun k112 => ?_)
          · have h113 := ib_eq k112
            exact absurd h113 (by decide)
          · have h114 := ib_ne k112
            refine lv_aload_n hx hb dX5_readPhases_56 rfl (lv_at hl 3 rfl) ?_
            refine xcVi E hs hQ hml hl.1 94 (gX5_failed_94 l g ad hD S_4 hI ) mX5_failed q610 (by decide) cl4_94 rfl rfl ⟨(Nat.le_of_ble_eq_true rfl), (Nat.le_of_ble_eq_true rfl)⟩ ⟨(Nat.le_of_ble_eq_true rfl), (Nat.le_of_ble_eq_true rfl)⟩ (Nat.le_of_ble_eq_true rfl) rfl dX5_readPhases_57 (fun r115 S115 H locs hp115 hQ _ => ?_)
            obtain ⟨rfl, b115⟩ := hp115
            refine lv_if_eq (tgt := 66) hx hb dX5_readPhases_60 (by decide) (fun k116 => ?_) (fun k116 => ?_)
            · have h117 := ib_eq k116
              have b118 : Bd r115 (0) (0) := ⟨(b115).1, ((rf_eq b115 (by decide : Bd 0 (0) (0)) h117).1).2⟩
              refine lv_iload_n hx hb dX5_readPhases_66 rfl (lv_at hl 2 rfl) ?_
              refine lv_iload_n hx hb dX5_readPhases_67 rfl (lv_at hl 0 rfl) ?_
              refine lv_ior hx hb dX5_readPhases_68 ?_
              refine lv_topi (fun z119 e120 => ?_)
              refine lv_istore_n (lv' := [(1, .int z119), (3, .int 1), (2, .int x4_2), (0, .ref (ad 94))]) hx hb dX5_readPhases_69 rfl hl (by decide) rfl (fun ls hl => ?_)
              refine lv_aload_n hx hb dX5_readPhases_70 rfl (lv_at hl 3 rfl) ?_
              refine xcVv E hs hQ hml hl.1 94 (gX5_advance_94 l g ad hD S_4 hI ) mX5_advance q598 (by decide) cl4_94 rfl rfl ⟨(Nat.le_of_ble_eq_true rfl), (Nat.le_of_ble_eq_true rfl)⟩ ⟨(Nat.le_of_ble_eq_true rfl), (Nat.le_of_ble_eq_true rfl)⟩ (Nat.le_of_ble_eq_true rfl) rfl dX5_readPhases_71 (fun S121 H locs hp121 hQ _ => ?_)
              obtain ⟨hI, o121⟩ := hp121
              obtain ⟨z122, e123⟩ : ∃ z : Int32, z = x4_2 + 1 := ⟨_, rfl⟩
              have t124 := ib_add e123 b21 (by decide : Bd 1 (1) (1)) (by decide) (by decide)
              have b125 : Bd z122 (1) (1201) := ib_addb t124 b21 (by decide : Bd 1 (1) (1))
              have t124 : z122.toInt = x4_2.toInt + 1 := fold_add t124 rfl (by decide)
              refine lv_iinc (v := z122) (lv' := [(2, .int z122), (1, .int z119), (3, .int 1), (0, .ref (ad 94))]) hx hb dX5_readPhases_74 hl (k := 2) rfl (by rw [e123]; rfl) (by decide) rfl (fun ls hl => ?_)
              refine lv_goto (tgt := 4) hx hb dX5_readPhases_77 (by decide) ?_
              obtain ⟨v126, v128, v129, v131, v133, v134, v135, c136, b127, b130, b132⟩ := invX_94 hI
              have c136 : S121 94 = .inr (5, [.ref (ad 1), .ref (ad 20), .int v126, .int v128, .int v129, .int v131, .int v133, .int v134, .int v135]) := c136
              exact ih4 _ _ _ _ z119 z122 v126 v128 v129 v131 v133 v134 v135 (ib_wk b125 (by decide) (by decide)) b127 b130 b132 (by omega) hI (o_trans hf4 o121 (by decide)) c136 hQ (lv_sub hl [0, 1, 3] rfl)
            · have h137 := ib_ne k116
              have b138 : Bd r115 (1) (1) := rf_nlo b115 (by decide : Bd 0 (0) (0)) h137
              refine lv_goto (tgt := 80) hx hb dX5_readPhases_63 (by decide) ?_
              refine lv_iload_n hx hb dX5_readPhases_80 rfl (lv_at hl 2 rfl) ?_
              refine lv_if_ne (tgt := 89) hx hb dX5_readPhases_81 (by decide) (fun k139 => ?_) (fun k139 => ?_)
              · have h140 := ib_ne k139
                refine lv_iload_n hx hb dX5_readPhases_89 rfl (lv_at hl 2 rfl) ?_
                exact xri E hr hlk hQ (⟨hI, (o_trans o_refl hf4 (by decide))⟩) dX5_readPhases_90
              · have h141 := ib_eq k139
                have b142 : Bd x4_1 (0) (0) := ⟨((rf_eq (ib_full x4_1) (by decide : Bd 0 (0) (0)) h141).1).1, ((rf_eq (ib_full x4_1) (by decide : Bd 0 (0) (0)) h141).1).2⟩
                refine lv_aload_n hx hb dX5_readPhases_84 rfl (lv_at hl 3 rfl) ?_
                refine lv_iconst (v := 1) hx hb dX5_readPhases_85 (by decide) ?_
                refine xcVv E hs hQ hml hl.1 94 (gX5_fail_94 l g ad hD S_4 hI 1) mX5_fail q679 (by decide) cl4_94 rfl rfl ⟨(Nat.le_of_ble_eq_true rfl), (Nat.le_of_ble_eq_true rfl)⟩ ⟨(Nat.le_of_ble_eq_true rfl), (Nat.le_of_ble_eq_true rfl)⟩ (Nat.le_of_ble_eq_true rfl) rfl dX5_readPhases_86 (fun S143 H locs hp143 hQ _ => ?_)
                obtain ⟨hI, o143⟩ := hp143
                refine lv_iload_n hx hb dX5_readPhases_89 rfl (lv_at hl 2 rfl) ?_
                exact xri E hr hlk hQ (⟨hI, (o_trans (o_trans o_refl hf4 (by decide)) o143 (by decide))⟩) dX5_readPhases_90
  obtain ⟨n4, hn4⟩ := fu_n (1201)
  exact loop4 n4 _ _ _ _ 0 0 v1 v3 v4 v6 v8 v9 v10 (ib_wk (by decide : Bd 0 (0) (0)) (by decide) (by decide)) b2 b5 b7 (by have : (0 : Int32).toInt = 0 := (by decide); omega) hI o_refl c11 hQ (lv_sub hl [0, 1, 2] rfl)
set_option maxHeartbeats 4000000 in
set_option maxRecDepth 100000 in
theorem gX5_readRule_94 (l : Launch) (g : GG) (tt : TT) (ad : Nat → Nat) (hD : Dj ad 122) (S : SS) (hI : InvX g ad S) : Met l yX5_readRule (wG (.code yX5_readRule cX5_readRule 4 none)) (Rm 6) (XPreT g tt ad 122 S [.ref (ad 94)]) (va_Qv (fun S' => InvX g ad S' ∧ (∀ j, j ∉ ([28, 29, 30, 31, 32, 94] : List Nat) → S' j = S j) ∧ (0 ≤ fld (S 20) 0 + (-1) * fld (S' 20) 0 ∧ 0 ≤ fld (S' 20) 0 + (-1) * fld (S 20) 0) ∧ (0 ≤ fld (S 20) 1 + (-1) * fld (S' 20) 1 ∧ 0 ≤ fld (S' 20) 1 + (-1) * fld (S 20) 1) ∧ (0 ≤ fld (S 20) 7 + (-1) * fld (S' 20) 7 ∧ 0 ≤ fld (S' 20) 7 + (-1) * fld (S 20) 7) ∧ (0 ≤ fld (S 20) 12 + (-1) * fld (S' 20) 12 ∧ 0 ≤ fld (S' 20) 12 + (-1) * fld (S 20) 12)) (QB g ad 122) (FA ad 122)) 0 0 (FA ad 122) := by
  refine xmetT cX5_readRule "EbbWreck$Reader" (by decide) rfl (Nat.le_of_ble_eq_true rfl) (fun p e s m below meth c E hT hr hlk hml hQ ls hl => ?_)
  have hx := E.1
  have hb := E.2.1
  have hs : Sp ad 122 (FA ad 122) := Sp.fa hD
  have hl : lv_has ls 4 [(0, .ref (ad 94))] := hl
  obtain ⟨v1, v3, v5, v6, v7, v9, c11, b2, b4, b8, b10⟩ := invX_20 hI
  have c11 : S 20 = .inr (1, [.int v1, .int v3, .int v5, .ref (ad 21), .ref (ad 23), .ref (ad 24), .int v6, .int v7, .ref (ad 25), .ref (ad 26), .ref (ad 27), .ref (ad 28), .int v9, .ref (ad 33), .ref (ad 34)]) := c11
  refine lv_aload_n hx hb dX5_readRule_0 rfl (lv_at hl 0 rfl) ?_
  obtain ⟨v12, v14, v15, v17, v19, v20, v21, c22, b13, b16, b18⟩ := invX_94 hI
  have c22 : S 94 = .inr (5, [.ref (ad 1), .ref (ad 20), .int v12, .int v14, .int v15, .int v17, .int v19, .int v20, .int v21]) := c22
  refine xget E hQ 94 (by decide) c22 rfl 1 (by decide) q343 rfl dX5_readRule_1 ?_
  refine xget E hQ 20 (by decide) c11 rfl 11 (by decide) q292 rfl dX5_readRule_4 ?_
  obtain ⟨v23, c25, b24⟩ := invX_28 hI
  have c25 : S 28 = .inr (6, [.int v23, .ref (ad 29), .ref (ad 30), .ref (ad 31), .ref (ad 32)]) := c25
  refine xcVi E hs hQ hml hl.1 28 (gX6_isFull_28 l g ad hD S hI ) mX6_isFull q721 (by decide) c25 rfl rfl ⟨(Nat.le_of_ble_eq_true rfl), (Nat.le_of_ble_eq_true rfl)⟩ ⟨(Nat.le_of_ble_eq_true rfl), (Nat.le_of_ble_eq_true rfl)⟩ (Nat.le_of_ble_eq_true rfl) rfl dX5_readRule_7 (fun r26 S26 H locs hp26 hQ _ => ?_)
  obtain ⟨rfl, b26, g26_0⟩ := hp26
  have q27 : fld (S 28) 0 = v23.toInt := fld_of c25 rfl
  refine lv_if_eq (tgt := 19) hx hb dX5_readRule_10 (by decide) (fun k28 => ?_) (fun k28 => ?_)
  · have h29 := ib_eq k28
    have b30 : Bd r26 (0) (0) := ⟨(b26).1, ((rf_eq b26 (by decide : Bd 0 (0) (0)) h29).1).2⟩
    have g31 := g26_0.resolve_left (by omega)
    clear g26_0
    have b32 : Bd v23 (0) (5) := ⟨by omega, by omega⟩
    refine lv_aload_n hx hb dX5_readRule_19 rfl (lv_at hl 0 rfl) ?_
    refine xcVv E hs hQ hml hl.1 94 (gX5_advance_94 l g ad hD S hI ) mX5_advance q598 (by decide) c22 rfl rfl ⟨(Nat.le_of_ble_eq_true rfl), (Nat.le_of_ble_eq_true rfl)⟩ ⟨(Nat.le_of_ble_eq_true rfl), (Nat.le_of_ble_eq_true rfl)⟩ (Nat.le_of_ble_eq_true rfl) rfl dX5_readRule_20 (fun S33 H locs hp33 hQ _ => ?_)
    obtain ⟨hI, o33⟩ := hp33
    refine lv_aload_n hx hb dX5_readRule_23 rfl (lv_at hl 0 rfl) ?_
    refine lv_iconst (v := 0) hx hb dX5_readRule_24 (by decide) ?_
    refine lv_aload_n hx hb dX5_readRule_25 rfl (lv_at hl 0 rfl) ?_
    obtain ⟨v34, v36, v37, v39, v41, v42, v43, c44, b35, b38, b40⟩ := invX_94 hI
    have c44 : S33 94 = .inr (5, [.ref (ad 1), .ref (ad 20), .int v34, .int v36, .int v37, .int v39, .int v41, .int v42, .int v43]) := c44
    refine xget E hQ 94 (by decide) c44 rfl 1 (by decide) q343 rfl dX5_readRule_26 ?_
    have c45 : S33 20 = .inr (1, [.int v1, .int v3, .int v5, .ref (ad 21), .ref (ad 23), .ref (ad 24), .int v6, .int v7, .ref (ad 25), .ref (ad 26), .ref (ad 27), .ref (ad 28), .int v9, .ref (ad 33), .ref (ad 34)]) := ((o33 20 (by decide)).trans c11)
    refine xget E hQ 20 (by decide) c45 rfl 1 (by decide) q245 rfl dX5_readRule_29 ?_
    refine lv_iconst (v := 1) hx hb dX5_readRule_32 (by decide) ?_
    refine lv_isub hx hb dX5_readRule_33 ?_
    refine lv_topi (fun z46 e47 => ?_)
    have t48 := ib_sub e47 b4 (by decide : Bd 1 (1) (1)) (by decide) (by decide)
    have b49 : Bd z46 (-1) (11) := ib_subb t48 b4 (by decide : Bd 1 (1) (1))
    have t48 : z46.toInt = v3.toInt - 1 := fold_sub t48 rfl (by decide)
    refine xcVi E hs hQ hml hl.1 94 (gX5_expectNumber_8 l g ad hD S33 hI 0 z46 (by decide : Bd 0 (0) (0)) b49) mX5_expectNumber q684 (by decide) c44 rfl rfl ⟨(Nat.le_of_ble_eq_true rfl), (Nat.le_of_ble_eq_true rfl)⟩ ⟨(Nat.le_of_ble_eq_true rfl), (Nat.le_of_ble_eq_true rfl)⟩ (Nat.le_of_ble_eq_true rfl) rfl dX5_readRule_34 (fun r50 S50 H locs hp50 hQ _ => ?_)
    obtain ⟨hI, o50, b50⟩ := hp50
    refine lv_istore_n (lv' := [(1, .int r50), (0, .ref (ad 94))]) hx hb dX5_readRule_37 rfl hl (by decide) rfl (fun ls hl => ?_)
    refine lv_aload_n hx hb dX5_readRule_38 rfl (lv_at hl 1 rfl) ?_
    refine va_ldcS hx hb E.2.2.1 (hT.2.2.2 15 (by decide) : vk_R "EbbWreck$Reader" 199 "to" (tt.1 15) s) dX5_readRule_39 ?_
    obtain ⟨v52, v54, v55, v57, v59, v60, v61, c62, b53, b56, b58⟩ := invX_94 hI
    have c62 : S50 94 = .inr (5, [.ref (ad 1), .ref (ad 20), .int v52, .int v54, .int v55, .int v57, .int v59, .int v60, .int v61]) := c62
    refine xcVvT E hs hQ hml hl.1 hT 94 (gX5_expectWord_94 l g tt ad hD S50 hI 15 (by decide)) mX5_expectWord q623 (by decide) c62 rfl rfl ⟨(Nat.le_of_ble_eq_true rfl), (Nat.le_of_ble_eq_true rfl)⟩ ⟨(Nat.le_of_ble_eq_true rfl), (Nat.le_of_ble_eq_true rfl)⟩ (Nat.le_of_ble_eq_true rfl) rfl dX5_readRule_41 (fun S51 H locs hp51 hQ _ => ?_)
    obtain ⟨hI, o51⟩ := hp51
    refine lv_aload_n hx hb dX5_readRule_44 rfl (lv_at hl 1 rfl) ?_
    refine lv_iload_n hx hb dX5_readRule_45 rfl (lv_at hl 0 rfl) ?_
    refine lv_aload_n hx hb dX5_readRule_46 rfl (lv_at hl 1 rfl) ?_
    obtain ⟨v63, v65, v66, v68, v70, v71, v72, c73, b64, b67, b69⟩ := invX_94 hI
    have c73 : S51 94 = .inr (5, [.ref (ad 1), .ref (ad 20), .int v63, .int v65, .int v66, .int v68, .int v70, .int v71, .int v72]) := c73
    refine xget E hQ 94 (by decide) c73 rfl 1 (by decide) q343 rfl dX5_readRule_47 ?_
    have c74 : S51 20 = .inr (1, [.int v1, .int v3, .int v5, .ref (ad 21), .ref (ad 23), .ref (ad 24), .int v6, .int v7, .ref (ad 25), .ref (ad 26), .ref (ad 27), .ref (ad 28), .int v9, .ref (ad 33), .ref (ad 34)]) := ((o51 20 (by decide)).trans ((o50 20 (by decide)).trans c45))
    refine xget E hQ 20 (by decide) c74 rfl 1 (by decide) q245 rfl dX5_readRule_50 ?_
    refine lv_iconst (v := 1) hx hb dX5_readRule_53 (by decide) ?_
    refine lv_isub hx hb dX5_readRule_54 ?_
    refine lv_topi (fun z75 e76 => ?_)
    have t77 := ib_sub e76 b4 (by decide : Bd 1 (1) (1)) (by decide) (by decide)
    have b78 : Bd z75 (-1) (11) := ib_subb t77 b4 (by decide : Bd 1 (1) (1))
    have t77 : z75.toInt = v3.toInt - 1 := fold_sub t77 rfl (by decide)
    refine xcVi E hs hQ hml hl.1 94 (gX5_expectNumber_9 l g ad hD S51 hI r50 z75 b50 b78) mX5_expectNumber q684 (by decide) c73 rfl rfl ⟨(Nat.le_of_ble_eq_true rfl), (Nat.le_of_ble_eq_true rfl)⟩ ⟨(Nat.le_of_ble_eq_true rfl), (Nat.le_of_ble_eq_true rfl)⟩ (Nat.le_of_ble_eq_true rfl) rfl dX5_readRule_55 (fun r79 S79 H locs hp79 hQ _ => ?_)
    obtain ⟨hI, o79, b79⟩ := hp79
    refine lv_istore_n (lv' := [(2, .int r79), (1, .int r50), (0, .ref (ad 94))]) hx hb dX5_readRule_58 rfl hl (by decide) rfl (fun ls hl => ?_)
    refine lv_aload_n hx hb dX5_readRule_59 rfl (lv_at hl 2 rfl) ?_
    refine va_ldcS hx hb E.2.2.1 (hT.2.2.2 16 (by decide) : vk_R "EbbWreck$Reader" 201 "on" (tt.1 16) s) dX5_readRule_60 ?_
    obtain ⟨v81, v83, v84, v86, v88, v89, v90, c91, b82, b85, b87⟩ := invX_94 hI
    have c91 : S79 94 = .inr (5, [.ref (ad 1), .ref (ad 20), .int v81, .int v83, .int v84, .int v86, .int v88, .int v89, .int v90]) := c91
    refine xcVvT E hs hQ hml hl.1 hT 94 (gX5_expectWord_94 l g tt ad hD S79 hI 16 (by decide)) mX5_expectWord q623 (by decide) c91 rfl rfl ⟨(Nat.le_of_ble_eq_true rfl), (Nat.le_of_ble_eq_true rfl)⟩ ⟨(Nat.le_of_ble_eq_true rfl), (Nat.le_of_ble_eq_true rfl)⟩ (Nat.le_of_ble_eq_true rfl) rfl dX5_readRule_62 (fun S80 H locs hp80 hQ _ => ?_)
    obtain ⟨hI, o80⟩ := hp80
    refine lv_aload_n hx hb dX5_readRule_65 rfl (lv_at hl 2 rfl) ?_
    obtain ⟨v93, v95, v96, v98, v100, v101, v102, c103, b94, b97, b99⟩ := invX_94 hI
    have c103 : S80 94 = .inr (5, [.ref (ad 1), .ref (ad 20), .int v93, .int v95, .int v96, .int v98, .int v100, .int v101, .int v102]) := c103
    refine xcViT E hs hQ hml hl.1 hT 94 (gX5_readPhases_94 l g tt ad hD S80 hI ) mX5_readPhases q727 (by decide) c103 rfl rfl ⟨(Nat.le_of_ble_eq_true rfl), (Nat.le_of_ble_eq_true rfl)⟩ ⟨(Nat.le_of_ble_eq_true rfl), (Nat.le_of_ble_eq_true rfl)⟩ (Nat.le_of_ble_eq_true rfl) rfl dX5_readRule_66 (fun r92 S92 H locs hp92 hQ _ => ?_)
    obtain ⟨hI, o92⟩ := hp92
    refine lv_istore_n (lv' := [(3, .int r92), (2, .int r79), (1, .int r50), (0, .ref (ad 94))]) hx hb dX5_readRule_69 rfl hl (by decide) rfl (fun ls hl => ?_)
    refine lv_aload_n hx hb dX5_readRule_70 rfl (lv_at hl 3 rfl) ?_
    refine va_ldcS hx hb E.2.2.1 (hT.2.2.2 15 (by decide) : vk_R "EbbWreck$Reader" 199 "to" (tt.1 15) s) dX5_readRule_71 ?_
    obtain ⟨v105, v107, v108, v110, v112, v113, v114, c115, b106, b109, b111⟩ := invX_94 hI
    have c115 : S92 94 = .inr (5, [.ref (ad 1), .ref (ad 20), .int v105, .int v107, .int v108, .int v110, .int v112, .int v113, .int v114]) := c115
    refine xcVvT E hs hQ hml hl.1 hT 94 (gX5_expectWord_94 l g tt ad hD S92 hI 15 (by decide)) mX5_expectWord q623 (by decide) c115 rfl rfl ⟨(Nat.le_of_ble_eq_true rfl), (Nat.le_of_ble_eq_true rfl)⟩ ⟨(Nat.le_of_ble_eq_true rfl), (Nat.le_of_ble_eq_true rfl)⟩ (Nat.le_of_ble_eq_true rfl) rfl dX5_readRule_73 (fun S104 H locs hp104 hQ _ => ?_)
    obtain ⟨hI, o104⟩ := hp104
    refine lv_aload_n hx hb dX5_readRule_76 rfl (lv_at hl 3 rfl) ?_
    obtain ⟨v116, v118, v119, v121, v123, v124, v125, c126, b117, b120, b122⟩ := invX_94 hI
    have c126 : S104 94 = .inr (5, [.ref (ad 1), .ref (ad 20), .int v116, .int v118, .int v119, .int v121, .int v123, .int v124, .int v125]) := c126
    refine xget E hQ 94 (by decide) c126 rfl 1 (by decide) q343 rfl dX5_readRule_77 ?_
    have c127 : S104 20 = .inr (1, [.int v1, .int v3, .int v5, .ref (ad 21), .ref (ad 23), .ref (ad 24), .int v6, .int v7, .ref (ad 25), .ref (ad 26), .ref (ad 27), .ref (ad 28), .int v9, .ref (ad 33), .ref (ad 34)]) := ((o104 20 (by decide)).trans ((o92 20 (by decide)).trans ((o80 20 (by decide)).trans ((o79 20 (by decide)).trans c74))))
    refine xget E hQ 20 (by decide) c127 rfl 11 (by decide) q292 rfl dX5_readRule_80 ?_
    refine lv_iload_n hx hb dX5_readRule_83 rfl (lv_at hl 2 rfl) ?_
    refine lv_iload_n hx hb dX5_readRule_84 rfl (lv_at hl 1 rfl) ?_
    refine lv_iload_n hx hb dX5_readRule_85 rfl (lv_at hl 0 rfl) ?_
    refine lv_aload_n hx hb dX5_readRule_86 rfl (lv_at hl 3 rfl) ?_
    refine lv_iconst (v := 0) hx hb dX5_readRule_87 (by decide) ?_
    refine lv_iconst (v := 5) hx hb dX5_readRule_88 (by decide) ?_
    refine xcVi E hs hQ hml hl.1 94 (gX5_expectNumber_7 l g ad hD S104 hI 0 5 (by decide : Bd 0 (0) (0)) (by decide : Bd 5 (5) (5))) mX5_expectNumber q684 (by decide) c126 rfl rfl ⟨(Nat.le_of_ble_eq_true rfl), (Nat.le_of_ble_eq_true rfl)⟩ ⟨(Nat.le_of_ble_eq_true rfl), (Nat.le_of_ble_eq_true rfl)⟩ (Nat.le_of_ble_eq_true rfl) rfl dX5_readRule_89 (fun r128 S128 H locs hp128 hQ _ => ?_)
    obtain ⟨hI, o128, b128⟩ := hp128
    have c130 : S128 28 = .inr (6, [.int v23, .ref (ad 29), .ref (ad 30), .ref (ad 31), .ref (ad 32)]) := ((o128 28 (by decide)).trans ((o104 28 (by decide)).trans ((o92 28 (by decide)).trans ((o80 28 (by decide)).trans ((o79 28 (by decide)).trans ((o51 28 (by decide)).trans ((o50 28 (by decide)).trans ((o33 28 (by decide)).trans c25))))))))
    refine xcVv E hs hQ hml hl.1 28 (gX6_addRule_28 l g ad hD S128 hI r50 r79 r92 r128) mX6_addRule q731 (by decide) c130 rfl rfl ⟨(Nat.le_of_ble_eq_true rfl), (Nat.le_of_ble_eq_true rfl)⟩ ⟨(Nat.le_of_ble_eq_true rfl), (Nat.le_of_ble_eq_true rfl)⟩ (Nat.le_of_ble_eq_true rfl) rfl dX5_readRule_92 (fun S129 H locs hp129 hQ _ => ?_)
    obtain ⟨hI, o129⟩ := hp129
    have q131 : fld (S 20) 0 = v1.toInt := fld_of c11 rfl
    have c132 : S129 20 = .inr (1, [.int v1, .int v3, .int v5, .ref (ad 21), .ref (ad 23), .ref (ad 24), .int v6, .int v7, .ref (ad 25), .ref (ad 26), .ref (ad 27), .ref (ad 28), .int v9, .ref (ad 33), .ref (ad 34)]) := ((o129 20 (by decide)).trans ((o128 20 (by decide)).trans c127))
    have q133 : fld (S129 20) 0 = v1.toInt := fld_of c132 rfl
    have q134 : fld (S 20) 1 = v3.toInt := fld_of c11 rfl
    have q135 : fld (S129 20) 1 = v3.toInt := fld_of c132 rfl
    have q136 : fld (S 20) 7 = v7.toInt := fld_of c11 rfl
    have q137 : fld (S129 20) 7 = v7.toInt := fld_of c132 rfl
    have q138 : fld (S 20) 12 = v9.toInt := fld_of c11 rfl
    have q139 : fld (S129 20) 12 = v9.toInt := fld_of c132 rfl
    exact xrv E hr hlk hQ (⟨hI, (o_trans (o_trans (o_trans (o_trans (o_trans (o_trans (o_trans (o_trans (o_trans o_refl o33 (by decide)) o50 (by decide)) o51 (by decide)) o79 (by decide)) o80 (by decide)) o92 (by decide)) o104 (by decide)) o128 (by decide)) o129 (by decide)), ⟨by omega, by omega⟩, ⟨by omega, by omega⟩, ⟨by omega, by omega⟩, ⟨by omega, by omega⟩⟩) dX5_readRule_95
  · have h140 := ib_ne k28
    have b141 : Bd r26 (1) (1) := rf_nlo b26 (by decide : Bd 0 (0) (0)) h140
    clear g26_0
    refine lv_aload_n hx hb dX5_readRule_13 rfl (lv_at hl 0 rfl) ?_
    refine lv_iconst (v := 3) hx hb dX5_readRule_14 (by decide) ?_
    refine xcVv E hs hQ hml hl.1 94 (gX5_fail_94 l g ad hD S hI 3) mX5_fail q679 (by decide) c22 rfl rfl ⟨(Nat.le_of_ble_eq_true rfl), (Nat.le_of_ble_eq_true rfl)⟩ ⟨(Nat.le_of_ble_eq_true rfl), (Nat.le_of_ble_eq_true rfl)⟩ (Nat.le_of_ble_eq_true rfl) rfl dX5_readRule_15 (fun S142 H locs hp142 hQ _ => ?_)
    obtain ⟨hI, o142⟩ := hp142
    have q143 : fld (S 20) 0 = v1.toInt := fld_of c11 rfl
    have c144 : S142 20 = .inr (1, [.int v1, .int v3, .int v5, .ref (ad 21), .ref (ad 23), .ref (ad 24), .int v6, .int v7, .ref (ad 25), .ref (ad 26), .ref (ad 27), .ref (ad 28), .int v9, .ref (ad 33), .ref (ad 34)]) := ((o142 20 (by decide)).trans c11)
    have q145 : fld (S142 20) 0 = v1.toInt := fld_of c144 rfl
    have q146 : fld (S 20) 1 = v3.toInt := fld_of c11 rfl
    have q147 : fld (S142 20) 1 = v3.toInt := fld_of c144 rfl
    have q148 : fld (S 20) 7 = v7.toInt := fld_of c11 rfl
    have q149 : fld (S142 20) 7 = v7.toInt := fld_of c144 rfl
    have q150 : fld (S 20) 12 = v9.toInt := fld_of c11 rfl
    have q151 : fld (S142 20) 12 = v9.toInt := fld_of c144 rfl
    exact xrv E hr hlk hQ (⟨hI, (o_trans o_refl o142 (by decide)), ⟨by omega, by omega⟩, ⟨by omega, by omega⟩, ⟨by omega, by omega⟩, ⟨by omega, by omega⟩⟩) dX5_readRule_18
set_option maxHeartbeats 4000000 in
set_option maxRecDepth 100000 in
theorem gX5_readLine_94 (l : Launch) (g : GG) (tt : TT) (ad : Nat → Nat) (hD : Dj ad 122) (S : SS) (hI : InvX g ad S) (hq1 : 0 ≤ 1201 * fld (S 20) 1 + (-1) * fld (S 20) 0) (hq2 : 0 ≤ 8 * fld (S 20) 1 + (-1) * fld (S 20) 7) (hq3 : 0 ≤ 3 * fld (S 20) 1 + (-1) * fld (S 20) 12) : Met l yX5_readLine (wG (.code yX5_readLine cX5_readLine 1 none)) (Rm 7) (XPreT g tt ad 122 S [.ref (ad 94)]) (va_Qv (fun S' => InvX g ad S' ∧ (∀ j, j ∉ ([20, 21, 22, 23, 24, 25, 26, 27, 28, 29, 30, 31, 32, 33, 94] : List Nat) → S' j = S j) ∧ (0 ≤ fld (S' 20) 1 + (-1)) ∧ (0 ≤ fld (S 20) 0 + (-1) * fld (S' 20) 0 ∧ 0 ≤ fld (S' 20) 0 + (-1) * fld (S 20) 0)) (QB g ad 122) (FA ad 122)) 0 0 (FA ad 122) := by
  refine xmetT cX5_readLine "EbbWreck$Reader" (by decide) rfl (Nat.le_of_ble_eq_true rfl) (fun p e s m below meth c E hT hr hlk hml hQ ls hl => ?_)
  have hx := E.1
  have hb := E.2.1
  have hs : Sp ad 122 (FA ad 122) := Sp.fa hD
  have hl : lv_has ls 1 [(0, .ref (ad 94))] := hl
  obtain ⟨v1, v3, v5, v6, v7, v9, c11, b2, b4, b8, b10⟩ := invX_20 hI
  have c11 : S 20 = .inr (1, [.int v1, .int v3, .int v5, .ref (ad 21), .ref (ad 23), .ref (ad 24), .int v6, .int v7, .ref (ad 25), .ref (ad 26), .ref (ad 27), .ref (ad 28), .int v9, .ref (ad 33), .ref (ad 34)]) := c11
  have q12 : fld (S 20) 1 = v3.toInt := fld_of c11 rfl
  have q13 : fld (S 20) 0 = v1.toInt := fld_of c11 rfl
  have q14 : fld (S 20) 7 = v7.toInt := fld_of c11 rfl
  have q15 : fld (S 20) 12 = v9.toInt := fld_of c11 rfl
  refine lv_aload_n hx hb dX5_readLine_0 rfl (lv_at hl 0 rfl) ?_
  obtain ⟨v16, v18, v19, v21, v23, v24, v25, c26, b17, b20, b22⟩ := invX_94 hI
  have c26 : S 94 = .inr (5, [.ref (ad 1), .ref (ad 20), .int v16, .int v18, .int v19, .int v21, .int v23, .int v24, .int v25]) := c26
  refine xget E hQ 94 (by decide) c26 rfl 1 (by decide) q343 rfl dX5_readLine_1 ?_
  refine xget E hQ 20 (by decide) c11 rfl 0 (by decide) q237 rfl dX5_readLine_4 ?_
  refine lv_if_ne (tgt := 17) hx hb dX5_readLine_7 (by decide) (fun k27 => ?_) (fun k27 => ?_)
  · have h28 := ib_ne k27
    have b29 : Bd v1 (1) (1201) := rf_nlo b2 (by decide : Bd 0 (0) (0)) h28
    refine lv_aload_n hx hb dX5_readLine_17 rfl (lv_at hl 0 rfl) ?_
    refine va_ldcS hx hb E.2.2.1 (hT.2.2.2 0 (by decide) : vk_R "EbbWreck$Reader" 99 "current" (tt.1 0) s) dX5_readLine_18 ?_
    refine xcViT E hs hQ hml hl.1 hT 94 (gX5_isWord_94 l g tt ad hD S hI 0 (by decide)) mX5_isWord q627 (by decide) c26 rfl rfl ⟨(Nat.le_of_ble_eq_true rfl), (Nat.le_of_ble_eq_true rfl)⟩ ⟨(Nat.le_of_ble_eq_true rfl), (Nat.le_of_ble_eq_true rfl)⟩ (Nat.le_of_ble_eq_true rfl) rfl dX5_readLine_20 (fun r30 S30 H locs hp30 hQ _ => ?_)
    obtain ⟨rfl, b30⟩ := hp30
    refine lv_if_eq (tgt := 33) hx hb dX5_readLine_23 (by decide) (fun k31 => ?_) (fun k31 => ?_)
    · have h32 := ib_eq k31
      have b33 : Bd r30 (0) (0) := ⟨(b30).1, ((rf_eq b30 (by decide : Bd 0 (0) (0)) h32).1).2⟩
      refine lv_aload_n hx hb dX5_readLine_33 rfl (lv_at hl 0 rfl) ?_
      refine va_ldcS hx hb E.2.2.1 (hT.2.2.2 1 (by decide) : vk_R "EbbWreck$Reader" 104 "beach" (tt.1 1) s) dX5_readLine_34 ?_
      refine xcViT E hs hQ hml hl.1 hT 94 (gX5_isWord_94 l g tt ad hD S hI 1 (by decide)) mX5_isWord q627 (by decide) c26 rfl rfl ⟨(Nat.le_of_ble_eq_true rfl), (Nat.le_of_ble_eq_true rfl)⟩ ⟨(Nat.le_of_ble_eq_true rfl), (Nat.le_of_ble_eq_true rfl)⟩ (Nat.le_of_ble_eq_true rfl) rfl dX5_readLine_36 (fun r34 S34 H locs hp34 hQ _ => ?_)
      obtain ⟨rfl, b34⟩ := hp34
      refine lv_if_eq (tgt := 49) hx hb dX5_readLine_39 (by decide) (fun k35 => ?_) (fun k35 => ?_)
      · have h36 := ib_eq k35
        have b37 : Bd r34 (0) (0) := ⟨(b34).1, ((rf_eq b34 (by decide : Bd 0 (0) (0)) h36).1).2⟩
        refine lv_aload_n hx hb dX5_readLine_49 rfl (lv_at hl 0 rfl) ?_
        refine va_ldcS hx hb E.2.2.1 (hT.2.2.2 2 (by decide) : vk_R "EbbWreck$Reader" 109 "thing" (tt.1 2) s) dX5_readLine_50 ?_
        refine xcViT E hs hQ hml hl.1 hT 94 (gX5_isWord_94 l g tt ad hD S hI 2 (by decide)) mX5_isWord q627 (by decide) c26 rfl rfl ⟨(Nat.le_of_ble_eq_true rfl), (Nat.le_of_ble_eq_true rfl)⟩ ⟨(Nat.le_of_ble_eq_true rfl), (Nat.le_of_ble_eq_true rfl)⟩ (Nat.le_of_ble_eq_true rfl) rfl dX5_readLine_52 (fun r38 S38 H locs hp38 hQ _ => ?_)
        obtain ⟨rfl, b38⟩ := hp38
        refine lv_if_eq (tgt := 65) hx hb dX5_readLine_55 (by decide) (fun k39 => ?_) (fun k39 => ?_)
        · have h40 := ib_eq k39
          have b41 : Bd r38 (0) (0) := ⟨(b38).1, ((rf_eq b38 (by decide : Bd 0 (0) (0)) h40).1).2⟩
          refine lv_aload_n hx hb dX5_readLine_65 rfl (lv_at hl 0 rfl) ?_
          refine va_ldcS hx hb E.2.2.1 (hT.2.2.2 3 (by decide) : vk_R "EbbWreck$Reader" 114 "rule" (tt.1 3) s) dX5_readLine_66 ?_
          refine xcViT E hs hQ hml hl.1 hT 94 (gX5_isWord_94 l g tt ad hD S hI 3 (by decide)) mX5_isWord q627 (by decide) c26 rfl rfl ⟨(Nat.le_of_ble_eq_true rfl), (Nat.le_of_ble_eq_true rfl)⟩ ⟨(Nat.le_of_ble_eq_true rfl), (Nat.le_of_ble_eq_true rfl)⟩ (Nat.le_of_ble_eq_true rfl) rfl dX5_readLine_68 (fun r42 S42 H locs hp42 hQ _ => ?_)
          obtain ⟨rfl, b42⟩ := hp42
          refine lv_if_eq (tgt := 81) hx hb dX5_readLine_71 (by decide) (fun k43 => ?_) (fun k43 => ?_)
          · have h44 := ib_eq k43
            have b45 : Bd r42 (0) (0) := ⟨(b42).1, ((rf_eq b42 (by decide : Bd 0 (0) (0)) h44).1).2⟩
            refine lv_aload_n hx hb dX5_readLine_81 rfl (lv_at hl 0 rfl) ?_
            refine va_ldcS hx hb E.2.2.1 (hT.2.2.2 4 (by decide) : vk_R "EbbWreck$Reader" 119 "sitter" (tt.1 4) s) dX5_readLine_82 ?_
            refine xcViT E hs hQ hml hl.1 hT 94 (gX5_isWord_94 l g tt ad hD S hI 4 (by decide)) mX5_isWord q627 (by decide) c26 rfl rfl ⟨(Nat.le_of_ble_eq_true rfl), (Nat.le_of_ble_eq_true rfl)⟩ ⟨(Nat.le_of_ble_eq_true rfl), (Nat.le_of_ble_eq_true rfl)⟩ (Nat.le_of_ble_eq_true rfl) rfl dX5_readLine_84 (fun r46 S46 H locs hp46 hQ _ => ?_)
            obtain ⟨rfl, b46⟩ := hp46
            refine lv_if_eq (tgt := 97) hx hb dX5_readLine_87 (by decide) (fun k47 => ?_) (fun k47 => ?_)
            · have h48 := ib_eq k47
              have b49 : Bd r46 (0) (0) := ⟨(b46).1, ((rf_eq b46 (by decide : Bd 0 (0) (0)) h48).1).2⟩
              refine lv_aload_n hx hb dX5_readLine_97 rfl (lv_at hl 0 rfl) ?_
              refine lv_iconst (v := 1) hx hb dX5_readLine_98 (by decide) ?_
              refine xcVv E hs hQ hml hl.1 94 (gX5_fail_94 l g ad hD S hI 1) mX5_fail q679 (by decide) c26 rfl rfl ⟨(Nat.le_of_ble_eq_true rfl), (Nat.le_of_ble_eq_true rfl)⟩ ⟨(Nat.le_of_ble_eq_true rfl), (Nat.le_of_ble_eq_true rfl)⟩ (Nat.le_of_ble_eq_true rfl) rfl dX5_readLine_99 (fun S50 H locs hp50 hQ _ => ?_)
              obtain ⟨hI, o50⟩ := hp50
              have c51 : S50 20 = .inr (1, [.int v1, .int v3, .int v5, .ref (ad 21), .ref (ad 23), .ref (ad 24), .int v6, .int v7, .ref (ad 25), .ref (ad 26), .ref (ad 27), .ref (ad 28), .int v9, .ref (ad 33), .ref (ad 34)]) := ((o50 20 (by decide)).trans c11)
              have q52 : fld (S50 20) 1 = v3.toInt := fld_of c51 rfl
              have q53 : fld (S50 20) 0 = v1.toInt := fld_of c51 rfl
              exact xrv E hr hlk hQ (⟨hI, (o_trans o_refl o50 (by decide)), (by omega), ⟨by omega, by omega⟩⟩) dX5_readLine_102
            · have h54 := ib_ne k47
              have b55 : Bd r46 (1) (1) := rf_nlo b46 (by decide : Bd 0 (0) (0)) h54
              refine lv_aload_n hx hb dX5_readLine_90 rfl (lv_at hl 0 rfl) ?_
              refine xcVvT E hs hQ hml hl.1 hT 94 (gX5_readSitter_94 l g tt ad hD S hI (by omega)) mX5_readSitter q737 (by decide) c26 rfl rfl ⟨(Nat.le_of_ble_eq_true rfl), (Nat.le_of_ble_eq_true rfl)⟩ ⟨(Nat.le_of_ble_eq_true rfl), (Nat.le_of_ble_eq_true rfl)⟩ (Nat.le_of_ble_eq_true rfl) rfl dX5_readLine_91 (fun S56 H locs hp56 hQ _ => ?_)
              obtain ⟨hI, o56, g56_0, g56_1, g56_2⟩ := hp56
              obtain ⟨v57, v59, v61, v62, v63, v65, c67, b58, b60, b64, b66⟩ := invX_20 hI
              have c67 : S56 20 = .inr (1, [.int v57, .int v59, .int v61, .ref (ad 21), .ref (ad 23), .ref (ad 24), .int v62, .int v63, .ref (ad 25), .ref (ad 26), .ref (ad 27), .ref (ad 28), .int v65, .ref (ad 33), .ref (ad 34)]) := c67
              have q68 : fld (S56 20) 0 = v57.toInt := fld_of c67 rfl
              have b69 : Bd v57 (1) (1201) := ⟨by omega, by omega⟩
              have q70 : fld (S56 20) 1 = v59.toInt := fld_of c67 rfl
              have b71 : Bd v3 (1) (12) := ⟨by omega, by omega⟩
              have b72 : Bd v59 (1) (12) := ⟨by omega, by omega⟩
              have q73 : fld (S56 20) 7 = v63.toInt := fld_of c67 rfl
              refine lv_goto (tgt := 102) hx hb dX5_readLine_94 (by decide) ?_
              exact xrv E hr hlk hQ (⟨hI, (o_trans o_refl o56 (by decide)), (by omega), ⟨by omega, by omega⟩⟩) dX5_readLine_102
          · have h74 := ib_ne k43
            have b75 : Bd r42 (1) (1) := rf_nlo b42 (by decide : Bd 0 (0) (0)) h74
            refine lv_aload_n hx hb dX5_readLine_74 rfl (lv_at hl 0 rfl) ?_
            refine xcVvT E hs hQ hml hl.1 hT 94 (gX5_readRule_94 l g tt ad hD S hI ) mX5_readRule q717 (by decide) c26 rfl rfl ⟨(Nat.le_of_ble_eq_true rfl), (Nat.le_of_ble_eq_true rfl)⟩ ⟨(Nat.le_of_ble_eq_true rfl), (Nat.le_of_ble_eq_true rfl)⟩ (Nat.le_of_ble_eq_true rfl) rfl dX5_readLine_75 (fun S76 H locs hp76 hQ _ => ?_)
            obtain ⟨hI, o76, g76_0, g76_1, g76_2, g76_3⟩ := hp76
            have c77 : S76 20 = .inr (1, [.int v1, .int v3, .int v5, .ref (ad 21), .ref (ad 23), .ref (ad 24), .int v6, .int v7, .ref (ad 25), .ref (ad 26), .ref (ad 27), .ref (ad 28), .int v9, .ref (ad 33), .ref (ad 34)]) := ((o76 20 (by decide)).trans c11)
            have q78 : fld (S76 20) 0 = v1.toInt := fld_of c77 rfl
            have q79 : fld (S76 20) 1 = v3.toInt := fld_of c77 rfl
            have q80 : fld (S76 20) 7 = v7.toInt := fld_of c77 rfl
            have q81 : fld (S76 20) 12 = v9.toInt := fld_of c77 rfl
            refine lv_goto (tgt := 102) hx hb dX5_readLine_78 (by decide) ?_
            exact xrv E hr hlk hQ (⟨hI, (o_trans o_refl o76 (by decide)), (by omega), ⟨by omega, by omega⟩⟩) dX5_readLine_102
        · have h82 := ib_ne k39
          have b83 : Bd r38 (1) (1) := rf_nlo b38 (by decide : Bd 0 (0) (0)) h82
          refine lv_aload_n hx hb dX5_readLine_58 rfl (lv_at hl 0 rfl) ?_
          refine xcVvT E hs hQ hml hl.1 hT 94 (gX5_readThing_94 l g tt ad hD S hI (by omega)) mX5_readThing q709 (by decide) c26 rfl rfl ⟨(Nat.le_of_ble_eq_true rfl), (Nat.le_of_ble_eq_true rfl)⟩ ⟨(Nat.le_of_ble_eq_true rfl), (Nat.le_of_ble_eq_true rfl)⟩ (Nat.le_of_ble_eq_true rfl) rfl dX5_readLine_59 (fun S84 H locs hp84 hQ _ => ?_)
          obtain ⟨hI, o84, g84_0, g84_1, g84_2⟩ := hp84
          obtain ⟨v85, v87, v89, v90, v91, v93, c95, b86, b88, b92, b94⟩ := invX_20 hI
          have c95 : S84 20 = .inr (1, [.int v85, .int v87, .int v89, .ref (ad 21), .ref (ad 23), .ref (ad 24), .int v90, .int v91, .ref (ad 25), .ref (ad 26), .ref (ad 27), .ref (ad 28), .int v93, .ref (ad 33), .ref (ad 34)]) := c95
          have q96 : fld (S84 20) 0 = v85.toInt := fld_of c95 rfl
          have b97 : Bd v85 (1) (1201) := ⟨by omega, by omega⟩
          have q98 : fld (S84 20) 1 = v87.toInt := fld_of c95 rfl
          have b99 : Bd v3 (1) (12) := ⟨by omega, by omega⟩
          have b100 : Bd v87 (1) (12) := ⟨by omega, by omega⟩
          have q101 : fld (S84 20) 12 = v93.toInt := fld_of c95 rfl
          refine lv_goto (tgt := 102) hx hb dX5_readLine_62 (by decide) ?_
          exact xrv E hr hlk hQ (⟨hI, (o_trans o_refl o84 (by decide)), (by omega), ⟨by omega, by omega⟩⟩) dX5_readLine_102
      · have h102 := ib_ne k35
        have b103 : Bd r34 (1) (1) := rf_nlo b34 (by decide : Bd 0 (0) (0)) h102
        refine lv_aload_n hx hb dX5_readLine_42 rfl (lv_at hl 0 rfl) ?_
        refine xcVv E hs hQ hml hl.1 94 (gX5_readBeach_94 l g ad hD S hI ) mX5_readBeach q704 (by decide) c26 rfl rfl ⟨(Nat.le_of_ble_eq_true rfl), (Nat.le_of_ble_eq_true rfl)⟩ ⟨(Nat.le_of_ble_eq_true rfl), (Nat.le_of_ble_eq_true rfl)⟩ (Nat.le_of_ble_eq_true rfl) rfl dX5_readLine_43 (fun S104 H locs hp104 hQ _ => ?_)
        obtain ⟨hI, o104, g104_0, g104_1, g104_2, g104_3⟩ := hp104
        obtain ⟨v105, v107, v109, v110, v111, v113, c115, b106, b108, b112, b114⟩ := invX_20 hI
        have c115 : S104 20 = .inr (1, [.int v105, .int v107, .int v109, .ref (ad 21), .ref (ad 23), .ref (ad 24), .int v110, .int v111, .ref (ad 25), .ref (ad 26), .ref (ad 27), .ref (ad 28), .int v113, .ref (ad 33), .ref (ad 34)]) := c115
        have q116 : fld (S104 20) 0 = v105.toInt := fld_of c115 rfl
        have b117 : Bd v105 (1) (1201) := ⟨by omega, by omega⟩
        have q118 : fld (S104 20) 1 = v107.toInt := fld_of c115 rfl
        have b119 : Bd v107 (1) (12) := ⟨by omega, by omega⟩
        have b120 : Bd v3 (1) (12) := ⟨by omega, by omega⟩
        have q121 : fld (S104 20) 7 = v111.toInt := fld_of c115 rfl
        have q122 : fld (S104 20) 12 = v113.toInt := fld_of c115 rfl
        refine lv_goto (tgt := 102) hx hb dX5_readLine_46 (by decide) ?_
        exact xrv E hr hlk hQ (⟨hI, (o_trans o_refl o104 (by decide)), (by omega), ⟨by omega, by omega⟩⟩) dX5_readLine_102
    · have h123 := ib_ne k31
      have b124 : Bd r30 (1) (1) := rf_nlo b30 (by decide : Bd 0 (0) (0)) h123
      refine lv_aload_n hx hb dX5_readLine_26 rfl (lv_at hl 0 rfl) ?_
      refine xcVvT E hs hQ hml hl.1 hT 94 (gX5_readCurrent_94 l g tt ad hD S hI ) mX5_readCurrent q694 (by decide) c26 rfl rfl ⟨(Nat.le_of_ble_eq_true rfl), (Nat.le_of_ble_eq_true rfl)⟩ ⟨(Nat.le_of_ble_eq_true rfl), (Nat.le_of_ble_eq_true rfl)⟩ (Nat.le_of_ble_eq_true rfl) rfl dX5_readLine_27 (fun S125 H locs hp125 hQ _ => ?_)
      obtain ⟨hI, o125, g125_0, g125_1, g125_2, g125_3⟩ := hp125
      have c126 : S125 20 = .inr (1, [.int v1, .int v3, .int v5, .ref (ad 21), .ref (ad 23), .ref (ad 24), .int v6, .int v7, .ref (ad 25), .ref (ad 26), .ref (ad 27), .ref (ad 28), .int v9, .ref (ad 33), .ref (ad 34)]) := ((o125 20 (by decide)).trans c11)
      have q127 : fld (S125 20) 0 = v1.toInt := fld_of c126 rfl
      have q128 : fld (S125 20) 1 = v3.toInt := fld_of c126 rfl
      have q129 : fld (S125 20) 7 = v7.toInt := fld_of c126 rfl
      have q130 : fld (S125 20) 12 = v9.toInt := fld_of c126 rfl
      refine lv_goto (tgt := 102) hx hb dX5_readLine_30 (by decide) ?_
      exact xrv E hr hlk hQ (⟨hI, (o_trans o_refl o125 (by decide)), (by omega), ⟨by omega, by omega⟩⟩) dX5_readLine_102
  · have h131 := ib_eq k27
    have b132 : Bd v1 (0) (0) := ⟨(b2).1, ((rf_eq b2 (by decide : Bd 0 (0) (0)) h131).1).2⟩
    refine lv_aload_n hx hb dX5_readLine_10 rfl (lv_at hl 0 rfl) ?_
    refine xcVvT E hs hQ hml hl.1 hT 94 (gX5_readShore_94 l g tt ad hD S hI ) mX5_readShore q618 (by decide) c26 rfl rfl ⟨(Nat.le_of_ble_eq_true rfl), (Nat.le_of_ble_eq_true rfl)⟩ ⟨(Nat.le_of_ble_eq_true rfl), (Nat.le_of_ble_eq_true rfl)⟩ (Nat.le_of_ble_eq_true rfl) rfl dX5_readLine_11 (fun S133 H locs hp133 hQ _ => ?_)
    obtain ⟨hI, o133, g133_0, g133_1, g133_2, g133_3⟩ := hp133
    obtain ⟨v134, v136, v138, v139, v140, v142, c144, b135, b137, b141, b143⟩ := invX_20 hI
    have c144 : S133 20 = .inr (1, [.int v134, .int v136, .int v138, .ref (ad 21), .ref (ad 23), .ref (ad 24), .int v139, .int v140, .ref (ad 25), .ref (ad 26), .ref (ad 27), .ref (ad 28), .int v142, .ref (ad 33), .ref (ad 34)]) := c144
    have q145 : fld (S133 20) 1 = v136.toInt := fld_of c144 rfl
    have b146 : Bd v136 (3) (12) := ⟨by omega, by omega⟩
    have q147 : fld (S133 20) 0 = v134.toInt := fld_of c144 rfl
    have b148 : Bd v134 (0) (0) := ⟨by omega, by omega⟩
    have q149 : fld (S133 20) 7 = v140.toInt := fld_of c144 rfl
    have q150 : fld (S133 20) 12 = v142.toInt := fld_of c144 rfl
    refine lv_goto (tgt := 102) hx hb dX5_readLine_14 (by decide) ?_
    exact xrv E hr hlk hQ (⟨hI, (o_trans o_refl o133 (by decide)), (by omega), ⟨by omega, by omega⟩⟩) dX5_readLine_102
set_option maxHeartbeats 4000000 in
set_option maxRecDepth 100000 in
theorem gX1_clear_20 (l : Launch) (g : GG) (ad : Nat → Nat) (hD : Dj ad 122) (S : SS) (hI : InvX g ad S) : Met l yX1_clear (wG (.code yX1_clear cX1_clear 1 none)) (Rm 2) (XPre g ad 122 S [.ref (ad 20)]) (va_Qv (fun S' => InvX g ad S' ∧ (∀ j, j ∉ ([20, 21, 22, 23, 24, 28, 34] : List Nat) → S' j = S j) ∧ (0 ≤ (-1) * fld (S' 20) 0 ∧ 0 ≤ fld (S' 20) 0) ∧ (0 ≤ (-1) * fld (S' 20) 1 ∧ 0 ≤ fld (S' 20) 1) ∧ (0 ≤ (-1) * fld (S' 20) 7 ∧ 0 ≤ fld (S' 20) 7) ∧ (0 ≤ (-1) * fld (S' 20) 12 ∧ 0 ≤ fld (S' 20) 12) ∧ (0 ≤ (-1) * fld (S' 34) 0 ∧ 0 ≤ fld (S' 34) 0)) (QB g ad 122) (FA ad 122)) 0 0 (FA ad 122) := by
  refine xmet cX1_clear "EbbWreck$Coast" (by decide) rfl (Nat.le_of_ble_eq_true rfl) (fun p e s m below meth c E hr hlk hml hQ ls hl => ?_)
  have hx := E.1
  have hb := E.2.1
  have hs : Sp ad 122 (FA ad 122) := Sp.fa hD
  have hl : lv_has ls 1 [(0, .ref (ad 20))] := hl
  obtain ⟨v1, v3, v5, v6, v7, v9, c11, b2, b4, b8, b10⟩ := invX_20 hI
  have c11 : S 20 = .inr (1, [.int v1, .int v3, .int v5, .ref (ad 21), .ref (ad 23), .ref (ad 24), .int v6, .int v7, .ref (ad 25), .ref (ad 26), .ref (ad 27), .ref (ad 28), .int v9, .ref (ad 33), .ref (ad 34)]) := c11
  obtain ⟨v12, c14, b13⟩ := invX_34 hI
  have c14 : S 34 = .inr (0, [.int v12, .ref (ad 35), .ref (ad 36), .ref (ad 37)]) := c14
  refine lv_aload_n hx hb dX1_clear_0 rfl (lv_at hl 0 rfl) ?_
  refine lv_iconst (v := 0) hx hb dX1_clear_1 (by decide) ?_
  refine xputi E hs hQ 20 (by decide) c11 rfl 0 (by decide) q236 rfl rfl (Nat.le_of_ble_eq_true rfl) dX1_clear_2 (fun H locs S15 eS15 hQ => ?_)
  have hI := invX_up_20 hI eS15 ⟨0, v3, v5, v6, v7, v9, rfl, (ib_wk (by decide : Bd 0 (0) (0)) (by decide) (by decide)), b4, b8, b10⟩
  have c16 : S15 20 = .inr (1, [.int 0, .int v3, .int v5, .ref (ad 21), .ref (ad 23), .ref (ad 24), .int v6, .int v7, .ref (ad 25), .ref (ad 26), .ref (ad 27), .ref (ad 28), .int v9, .ref (ad 33), .ref (ad 34)]) := up_at eS15 rfl
  refine lv_aload_n hx hb dX1_clear_5 rfl (lv_at hl 0 rfl) ?_
  refine lv_iconst (v := 0) hx hb dX1_clear_6 (by decide) ?_
  refine xputi E hs hQ 20 (by decide) c16 rfl 1 (by decide) q239 rfl rfl (Nat.le_of_ble_eq_true rfl) dX1_clear_7 (fun H locs S17 eS17 hQ => ?_)
  have hI := invX_up_20 hI eS17 ⟨0, 0, v5, v6, v7, v9, rfl, (ib_wk (by decide : Bd 0 (0) (0)) (by decide) (by decide)), (ib_wk (by decide : Bd 0 (0) (0)) (by decide) (by decide)), b8, b10⟩
  have c18 : S17 20 = .inr (1, [.int 0, .int 0, .int v5, .ref (ad 21), .ref (ad 23), .ref (ad 24), .int v6, .int v7, .ref (ad 25), .ref (ad 26), .ref (ad 27), .ref (ad 28), .int v9, .ref (ad 33), .ref (ad 34)]) := up_at eS17 rfl
  refine lv_aload_n hx hb dX1_clear_10 rfl (lv_at hl 0 rfl) ?_
  refine lv_iconst (v := 0) hx hb dX1_clear_11 (by decide) ?_
  refine xputi E hs hQ 20 (by decide) c18 rfl 2 (by decide) q247 rfl rfl (Nat.le_of_ble_eq_true rfl) dX1_clear_12 (fun H locs S19 eS19 hQ => ?_)
  have hI := invX_up_20 hI eS19 ⟨0, 0, 0, v6, v7, v9, rfl, (ib_wk (by decide : Bd 0 (0) (0)) (by decide) (by decide)), (ib_wk (by decide : Bd 0 (0) (0)) (by decide) (by decide)), b8, b10⟩
  have c20 : S19 20 = .inr (1, [.int 0, .int 0, .int 0, .ref (ad 21), .ref (ad 23), .ref (ad 24), .int v6, .int v7, .ref (ad 25), .ref (ad 26), .ref (ad 27), .ref (ad 28), .int v9, .ref (ad 33), .ref (ad 34)]) := up_at eS19 rfl
  refine lv_aload_n hx hb dX1_clear_15 rfl (lv_at hl 0 rfl) ?_
  refine xget E hQ 20 (by decide) c20 rfl 3 (by decide) q251 rfl dX1_clear_16 ?_
  refine lv_iconst (v := 0) hx hb dX1_clear_19 (by decide) ?_
  refine lv_iconst (v := 0) hx hb dX1_clear_20 (by decide) ?_
  refine lv_iconst (v := 0) hx hb dX1_clear_21 (by decide) ?_
  obtain ⟨v22, v24, v26, v28, c30, b23, b25, b27, b29⟩ := invX_21 hI
  have c30 : S19 21 = .inr (10, [.int v22, .int v24, .int v26, .int v28, .ref (ad 22)]) := c30
  refine xcVv E hs hQ hml hl.1 21 (gX10_tell_21 l g ad hD S19 hI 0 0 0 (ib_wk (by decide : Bd 0 (0) (0)) (by decide) (by decide)) (ib_wk (by decide : Bd 0 (0) (0)) (by decide) (by decide)) (ib_wk (by decide : Bd 0 (0) (0)) (by decide) (by decide))) mX10_tell q592 (by decide) c30 rfl rfl ⟨(Nat.le_of_ble_eq_true rfl), (Nat.le_of_ble_eq_true rfl)⟩ ⟨(Nat.le_of_ble_eq_true rfl), (Nat.le_of_ble_eq_true rfl)⟩ (Nat.le_of_ble_eq_true rfl) rfl dX1_clear_22 (fun S21 H locs hp21 hQ _ => ?_)
  obtain ⟨hI, o21⟩ := hp21
  refine lv_aload_n hx hb dX1_clear_25 rfl (lv_at hl 0 rfl) ?_
  have c31 : S21 20 = .inr (1, [.int 0, .int 0, .int 0, .ref (ad 21), .ref (ad 23), .ref (ad 24), .int v6, .int v7, .ref (ad 25), .ref (ad 26), .ref (ad 27), .ref (ad 28), .int v9, .ref (ad 33), .ref (ad 34)]) := ((o21 20 (by decide)).trans c20)
  refine xget E hQ 20 (by decide) c31 rfl 4 (by decide) q257 rfl dX1_clear_26 ?_
  refine lv_iconst (v := 0) hx hb dX1_clear_29 (by decide) ?_
  obtain ⟨f32, c33⟩ := invX_23 hI
  refine xcSv E hs hQ hml hl.1 (uFillI l g ad 122 hD S21 23 (by decide) 12 (by decide) f32 0 c33) mJ7_fill_53178 q597 rfl ⟨(Nat.le_of_ble_eq_true rfl), (Nat.le_of_ble_eq_true rfl)⟩ ⟨(Nat.le_of_ble_eq_true rfl), (Nat.le_of_ble_eq_true rfl)⟩ (Nat.le_of_ble_eq_true rfl) rfl dX1_clear_30 (fun S35 H locs eS35 hQ => ?_)
  have hI := invX_up_23 hI eS35 ⟨_, rfl⟩
  have c36 : S35 23 = .inl (g.2 0, 12, .inl (fillF 0 12 f32)) := up_at eS35 rfl
  refine lv_aload_n hx hb dX1_clear_33 rfl (lv_at hl 0 rfl) ?_
  have c37 : S35 20 = .inr (1, [.int 0, .int 0, .int 0, .ref (ad 21), .ref (ad 23), .ref (ad 24), .int v6, .int v7, .ref (ad 25), .ref (ad 26), .ref (ad 27), .ref (ad 28), .int v9, .ref (ad 33), .ref (ad 34)]) := (up_ne eS35 (by decide) c31)
  refine xget E hQ 20 (by decide) c37 rfl 5 (by decide) q260 rfl dX1_clear_34 ?_
  refine lv_iconst (v := 0) hx hb dX1_clear_37 (by decide) ?_
  obtain ⟨f38, c39⟩ := invX_24 hI
  refine xcSv E hs hQ hml hl.1 (uFillI l g ad 122 hD S35 24 (by decide) 12 (by decide) f38 0 c39) mJ7_fill_53178 q597 rfl ⟨(Nat.le_of_ble_eq_true rfl), (Nat.le_of_ble_eq_true rfl)⟩ ⟨(Nat.le_of_ble_eq_true rfl), (Nat.le_of_ble_eq_true rfl)⟩ (Nat.le_of_ble_eq_true rfl) rfl dX1_clear_38 (fun S41 H locs eS41 hQ => ?_)
  have hI := invX_up_24 hI eS41 ⟨_, rfl⟩
  have c42 : S41 24 = .inl (g.2 0, 12, .inl (fillF 0 12 f38)) := up_at eS41 rfl
  refine lv_aload_n hx hb dX1_clear_41 rfl (lv_at hl 0 rfl) ?_
  refine lv_iconst (v := 0) hx hb dX1_clear_42 (by decide) ?_
  have c43 : S41 20 = .inr (1, [.int 0, .int 0, .int 0, .ref (ad 21), .ref (ad 23), .ref (ad 24), .int v6, .int v7, .ref (ad 25), .ref (ad 26), .ref (ad 27), .ref (ad 28), .int v9, .ref (ad 33), .ref (ad 34)]) := (up_ne eS41 (by decide) c37)
  refine xputi E hs hQ 20 (by decide) c43 rfl 6 (by decide) q263 rfl rfl (Nat.le_of_ble_eq_true rfl) dX1_clear_43 (fun H locs S44 eS44 hQ => ?_)
  have hI := invX_up_20 hI eS44 ⟨0, 0, 0, 0, v7, v9, rfl, (ib_wk (by decide : Bd 0 (0) (0)) (by decide) (by decide)), (ib_wk (by decide : Bd 0 (0) (0)) (by decide) (by decide)), b8, b10⟩
  have c45 : S44 20 = .inr (1, [.int 0, .int 0, .int 0, .ref (ad 21), .ref (ad 23), .ref (ad 24), .int 0, .int v7, .ref (ad 25), .ref (ad 26), .ref (ad 27), .ref (ad 28), .int v9, .ref (ad 33), .ref (ad 34)]) := up_at eS44 rfl
  refine lv_aload_n hx hb dX1_clear_46 rfl (lv_at hl 0 rfl) ?_
  refine lv_iconst (v := 0) hx hb dX1_clear_47 (by decide) ?_
  refine xputi E hs hQ 20 (by decide) c45 rfl 7 (by decide) q270 rfl rfl (Nat.le_of_ble_eq_true rfl) dX1_clear_48 (fun H locs S46 eS46 hQ => ?_)
  have hI := invX_up_20 hI eS46 ⟨0, 0, 0, 0, 0, v9, rfl, (ib_wk (by decide : Bd 0 (0) (0)) (by decide) (by decide)), (ib_wk (by decide : Bd 0 (0) (0)) (by decide) (by decide)), (ib_wk (by decide : Bd 0 (0) (0)) (by decide) (by decide)), b10⟩
  have c47 : S46 20 = .inr (1, [.int 0, .int 0, .int 0, .ref (ad 21), .ref (ad 23), .ref (ad 24), .int 0, .int 0, .ref (ad 25), .ref (ad 26), .ref (ad 27), .ref (ad 28), .int v9, .ref (ad 33), .ref (ad 34)]) := up_at eS46 rfl
  refine lv_aload_n hx hb dX1_clear_51 rfl (lv_at hl 0 rfl) ?_
  refine xget E hQ 20 (by decide) c47 rfl 11 (by decide) q289 rfl dX1_clear_52 ?_
  refine lv_iconst (v := 0) hx hb dX1_clear_55 (by decide) ?_
  obtain ⟨v48, c50, b49⟩ := invX_28 hI
  have c50 : S46 28 = .inr (6, [.int v48, .ref (ad 29), .ref (ad 30), .ref (ad 31), .ref (ad 32)]) := c50
  refine xputi E hs hQ 28 (by decide) c50 rfl 0 (by decide) q187 rfl rfl (Nat.le_of_ble_eq_true rfl) dX1_clear_56 (fun H locs S51 eS51 hQ => ?_)
  have hI := invX_up_28 hI eS51 ⟨0, rfl, (ib_wk (by decide : Bd 0 (0) (0)) (by decide) (by decide))⟩
  have c52 : S51 28 = .inr (6, [.int 0, .ref (ad 29), .ref (ad 30), .ref (ad 31), .ref (ad 32)]) := up_at eS51 rfl
  refine lv_aload_n hx hb dX1_clear_59 rfl (lv_at hl 0 rfl) ?_
  refine lv_iconst (v := 0) hx hb dX1_clear_60 (by decide) ?_
  have c53 : S51 20 = .inr (1, [.int 0, .int 0, .int 0, .ref (ad 21), .ref (ad 23), .ref (ad 24), .int 0, .int 0, .ref (ad 25), .ref (ad 26), .ref (ad 27), .ref (ad 28), .int v9, .ref (ad 33), .ref (ad 34)]) := (up_ne eS51 (by decide) c47)
  refine xputi E hs hQ 20 (by decide) c53 rfl 12 (by decide) q293 rfl rfl (Nat.le_of_ble_eq_true rfl) dX1_clear_61 (fun H locs S54 eS54 hQ => ?_)
  have hI := invX_up_20 hI eS54 ⟨0, 0, 0, 0, 0, 0, rfl, (ib_wk (by decide : Bd 0 (0) (0)) (by decide) (by decide)), (ib_wk (by decide : Bd 0 (0) (0)) (by decide) (by decide)), (ib_wk (by decide : Bd 0 (0) (0)) (by decide) (by decide)), (ib_wk (by decide : Bd 0 (0) (0)) (by decide) (by decide))⟩
  have c55 : S54 20 = .inr (1, [.int 0, .int 0, .int 0, .ref (ad 21), .ref (ad 23), .ref (ad 24), .int 0, .int 0, .ref (ad 25), .ref (ad 26), .ref (ad 27), .ref (ad 28), .int 0, .ref (ad 33), .ref (ad 34)]) := up_at eS54 rfl
  refine lv_aload_n hx hb dX1_clear_64 rfl (lv_at hl 0 rfl) ?_
  refine xget E hQ 20 (by decide) c55 rfl 14 (by decide) q301 rfl dX1_clear_65 ?_
  refine lv_iconst (v := 0) hx hb dX1_clear_68 (by decide) ?_
  have c56 : S54 34 = .inr (0, [.int v12, .ref (ad 35), .ref (ad 36), .ref (ad 37)]) := (up_ne eS54 (by decide) (up_ne eS51 (by decide) (up_ne eS46 (by decide) (up_ne eS44 (by decide) (up_ne eS41 (by decide) (up_ne eS35 (by decide) ((o21 34 (by decide)).trans (up_ne eS19 (by decide) (up_ne eS17 (by decide) (up_ne eS15 (by decide) c14))))))))))
  refine xputi E hs hQ 34 (by decide) c56 rfl 0 (by decide) q216 rfl rfl (Nat.le_of_ble_eq_true rfl) dX1_clear_69 (fun H locs S57 eS57 hQ => ?_)
  have hI := invX_up_34 hI eS57 ⟨0, rfl, (ib_wk (by decide : Bd 0 (0) (0)) (by decide) (by decide))⟩
  have c58 : S57 34 = .inr (0, [.int 0, .ref (ad 35), .ref (ad 36), .ref (ad 37)]) := up_at eS57 rfl
  have c59 : S57 20 = .inr (1, [.int 0, .int 0, .int 0, .ref (ad 21), .ref (ad 23), .ref (ad 24), .int 0, .int 0, .ref (ad 25), .ref (ad 26), .ref (ad 27), .ref (ad 28), .int 0, .ref (ad 33), .ref (ad 34)]) := (up_ne eS57 (by decide) c55)
  have q60 : fld (S57 20) 0 = (0 : Int32).toInt := fld_of c59 rfl
  have q60 : fld (S57 20) 0 = 0 := q60.trans (by decide)
  have q61 : fld (S57 20) 1 = (0 : Int32).toInt := fld_of c59 rfl
  have q61 : fld (S57 20) 1 = 0 := q61.trans (by decide)
  have q62 : fld (S57 20) 7 = (0 : Int32).toInt := fld_of c59 rfl
  have q62 : fld (S57 20) 7 = 0 := q62.trans (by decide)
  have q63 : fld (S57 20) 12 = (0 : Int32).toInt := fld_of c59 rfl
  have q63 : fld (S57 20) 12 = 0 := q63.trans (by decide)
  have q64 : fld (S57 34) 0 = (0 : Int32).toInt := fld_of c58 rfl
  have q64 : fld (S57 34) 0 = 0 := q64.trans (by decide)
  exact xrv E hr hlk hQ (⟨hI, (up_o (up_o (up_o (up_o (up_o (up_o (up_o (o_trans (up_o (up_o (up_o o_refl eS15 (by decide)) eS17 (by decide)) eS19 (by decide)) o21 (by decide)) eS35 (by decide)) eS41 (by decide)) eS44 (by decide)) eS46 (by decide)) eS51 (by decide)) eS54 (by decide)) eS57 (by decide)), ⟨by omega, by omega⟩, ⟨by omega, by omega⟩, ⟨by omega, by omega⟩, ⟨by omega, by omega⟩, ⟨by omega, by omega⟩⟩) dX1_clear_72
set_option maxHeartbeats 4000000 in
set_option maxRecDepth 100000 in
theorem gX5_read_94 (l : Launch) (g : GG) (tt : TT) (ad : Nat → Nat) (hD : Dj ad 122) (S : SS) (hI : InvX g ad S) (a1 : Int32) : Met l yX5_read (wG (.code yX5_read cX5_read 3 none)) (Rm 8) (XPreT g tt ad 122 S [.ref (ad 94), .int a1]) (va_Qv (fun S' => InvX g ad S' ∧ (∀ j, j ∉ ([20, 21, 22, 23, 24, 25, 26, 27, 28, 29, 30, 31, 32, 33, 34, 94] : List Nat) → S' j = S j) ∧ (0 ≤ 1201 * fld (S' 20) 1 + (-1) * fld (S' 20) 0) ∧ (0 ≤ 8 * fld (S' 20) 1 + (-1) * fld (S' 20) 7) ∧ (0 ≤ 3 * fld (S' 20) 1 + (-1) * fld (S' 20) 12) ∧ (0 ≤ (-1) * fld (S' 34) 0 ∧ 0 ≤ fld (S' 34) 0)) (QB g ad 122) (FA ad 122)) 0 0 (FA ad 122) := by
  refine xmetT cX5_read "EbbWreck$Reader" (by decide) rfl (Nat.le_of_ble_eq_true rfl) (fun p e s m below meth c E hT hr hlk hml hQ ls hl => ?_)
  have hx := E.1
  have hb := E.2.1
  have hs : Sp ad 122 (FA ad 122) := Sp.fa hD
  have hl : lv_has ls 3 [(0, .ref (ad 94)), (1, .int a1)] := hl
  obtain ⟨v1, v3, v5, v6, v7, v9, c11, b2, b4, b8, b10⟩ := invX_20 hI
  have c11 : S 20 = .inr (1, [.int v1, .int v3, .int v5, .ref (ad 21), .ref (ad 23), .ref (ad 24), .int v6, .int v7, .ref (ad 25), .ref (ad 26), .ref (ad 27), .ref (ad 28), .int v9, .ref (ad 33), .ref (ad 34)]) := c11
  obtain ⟨v12, c14, b13⟩ := invX_34 hI
  have c14 : S 34 = .inr (0, [.int v12, .ref (ad 35), .ref (ad 36), .ref (ad 37)]) := c14
  refine lv_aload_n hx hb dX5_read_0 rfl (lv_at hl 0 rfl) ?_
  refine lv_iconst (v := 0) hx hb dX5_read_1 (by decide) ?_
  refine lv_iload_n hx hb dX5_read_2 rfl (lv_at hl 1 rfl) ?_
  refine lv_aload_n hx hb dX5_read_3 rfl (lv_at hl 0 rfl) ?_
  obtain ⟨v15, v17, v18, v20, v22, v23, v24, c25, b16, b19, b21⟩ := invX_94 hI
  have c25 : S 94 = .inr (5, [.ref (ad 1), .ref (ad 20), .int v15, .int v17, .int v18, .int v20, .int v22, .int v23, .int v24]) := c25
  refine xget E hQ 94 (by decide) c25 rfl 0 (by decide) q342 rfl dX5_read_4 ?_
  obtain ⟨f26, c27, b28⟩ := invX_1 hI
  refine xalen (v := 1200) E hQ 1 (by decide) 1 c27 rfl rfl dX5_read_7 ?_
  refine va_mmin hx hb (hml.trans hl.1.symm) E.2.2.1 (E.2.2.2.1 _ q582) (E.2.2.2.1 _ q583) (E.2.2.2.1 _ q128) (E.2.2.2.1 _ q584) (Nat.le_of_ble_eq_true rfl) (Nat.le_of_ble_eq_true rfl) (Nat.le_of_ble_eq_true rfl) (Nat.le_of_ble_eq_true rfl) dX5_read_8 ?_
  refine lv_topi (fun z29 e30 => ?_)
  have b31 : Bd z29 (-2147483648) (1200) := ib_min e30 (ib_full a1) (by decide : Bd 1200 (1200) (1200)) (by decide) (by decide) (by decide) (by decide)
  have t32 := ib_minx (p := a1.toInt) (q := 1200) e30 rfl (by decide)
  refine va_mmax hx hb (hml.trans hl.1.symm) E.2.2.1 (E.2.2.2.1 _ q585) (E.2.2.2.1 _ q586) (E.2.2.2.1 _ q128) (E.2.2.2.1 _ q587) (Nat.le_of_ble_eq_true rfl) (Nat.le_of_ble_eq_true rfl) (Nat.le_of_ble_eq_true rfl) (Nat.le_of_ble_eq_true rfl) dX5_read_11 ?_
  refine lv_topi (fun z33 e34 => ?_)
  have b35 : Bd z33 (0) (1200) := ib_max e34 (by decide : Bd 0 (0) (0)) b31 (by decide) (by decide) (by decide) (by decide)
  have t36 := ib_maxx (p := 0) (q := z29.toInt) e34 (by decide) rfl
  refine xputi E hs hQ 94 (by decide) c25 rfl 2 (by decide) q344 rfl rfl (Nat.le_of_ble_eq_true rfl) dX5_read_14 (fun H locs S37 eS37 hQ => ?_)
  have hI := invX_up_94 hI eS37 ⟨z33, v17, v18, v20, v22, v23, v24, rfl, b35, b19, b21⟩
  have c38 : S37 94 = .inr (5, [.ref (ad 1), .ref (ad 20), .int z33, .int v17, .int v18, .int v20, .int v22, .int v23, .int v24]) := up_at eS37 rfl
  refine lv_aload_n hx hb dX5_read_17 rfl (lv_at hl 0 rfl) ?_
  refine lv_iconst (v := 0) hx hb dX5_read_18 (by decide) ?_
  refine xputi E hs hQ 94 (by decide) c38 rfl 5 (by decide) q347 rfl rfl (Nat.le_of_ble_eq_true rfl) dX5_read_19 (fun H locs S39 eS39 hQ => ?_)
  have hI := invX_up_94 hI eS39 ⟨z33, v17, v18, 0, v22, v23, v24, rfl, b35, b19, (ib_wk (by decide : Bd 0 (0) (0)) (by decide) (by decide))⟩
  have c40 : S39 94 = .inr (5, [.ref (ad 1), .ref (ad 20), .int z33, .int v17, .int v18, .int 0, .int v22, .int v23, .int v24]) := up_at eS39 rfl
  refine lv_aload_n hx hb dX5_read_22 rfl (lv_at hl 0 rfl) ?_
  refine lv_iconst (v := 0) hx hb dX5_read_23 (by decide) ?_
  refine xputi E hs hQ 94 (by decide) c40 rfl 7 (by decide) q349 rfl rfl (Nat.le_of_ble_eq_true rfl) dX5_read_24 (fun H locs S41 eS41 hQ => ?_)
  have hI := invX_up_94 hI eS41 ⟨z33, v17, v18, 0, v22, 0, v24, rfl, b35, b19, (ib_wk (by decide : Bd 0 (0) (0)) (by decide) (by decide))⟩
  have c42 : S41 94 = .inr (5, [.ref (ad 1), .ref (ad 20), .int z33, .int v17, .int v18, .int 0, .int v22, .int 0, .int v24]) := up_at eS41 rfl
  refine lv_aload_n hx hb dX5_read_27 rfl (lv_at hl 0 rfl) ?_
  refine lv_iconst (v := (-1)) hx hb dX5_read_28 (by decide) ?_
  refine xputi E hs hQ 94 (by decide) c42 rfl 8 (by decide) q351 rfl rfl (Nat.le_of_ble_eq_true rfl) dX5_read_29 (fun H locs S43 eS43 hQ => ?_)
  have hI := invX_up_94 hI eS43 ⟨z33, v17, v18, 0, v22, 0, (-1), rfl, b35, b19, (ib_wk (by decide : Bd 0 (0) (0)) (by decide) (by decide))⟩
  have c44 : S43 94 = .inr (5, [.ref (ad 1), .ref (ad 20), .int z33, .int v17, .int v18, .int 0, .int v22, .int 0, .int (-1)]) := up_at eS43 rfl
  refine lv_aload_n hx hb dX5_read_32 rfl (lv_at hl 0 rfl) ?_
  refine xget E hQ 94 (by decide) c44 rfl 1 (by decide) q343 rfl dX5_read_33 ?_
  have c46 : S43 20 = .inr (1, [.int v1, .int v3, .int v5, .ref (ad 21), .ref (ad 23), .ref (ad 24), .int v6, .int v7, .ref (ad 25), .ref (ad 26), .ref (ad 27), .ref (ad 28), .int v9, .ref (ad 33), .ref (ad 34)]) := (up_ne eS43 (by decide) (up_ne eS41 (by decide) (up_ne eS39 (by decide) (up_ne eS37 (by decide) c11))))
  refine xcVv E hs hQ hml hl.1 20 (gX1_clear_20 l g ad hD S43 hI ) mX1_clear q588 (by decide) c46 rfl rfl ⟨(Nat.le_of_ble_eq_true rfl), (Nat.le_of_ble_eq_true rfl)⟩ ⟨(Nat.le_of_ble_eq_true rfl), (Nat.le_of_ble_eq_true rfl)⟩ (Nat.le_of_ble_eq_true rfl) rfl dX5_read_36 (fun S45 H locs hp45 hQ _ => ?_)
  obtain ⟨hI, o45, g45_0, g45_1, g45_2, g45_3, g45_4⟩ := hp45
  obtain ⟨v47, v49, v51, v52, v53, v55, c57, b48, b50, b54, b56⟩ := invX_20 hI
  have c57 : S45 20 = .inr (1, [.int v47, .int v49, .int v51, .ref (ad 21), .ref (ad 23), .ref (ad 24), .int v52, .int v53, .ref (ad 25), .ref (ad 26), .ref (ad 27), .ref (ad 28), .int v55, .ref (ad 33), .ref (ad 34)]) := c57
  have q58 : fld (S45 20) 0 = v47.toInt := fld_of c57 rfl
  have b59 : Bd v47 (0) (0) := ⟨by omega, by omega⟩
  have q60 : fld (S45 20) 1 = v49.toInt := fld_of c57 rfl
  have b61 : Bd v49 (0) (0) := ⟨by omega, by omega⟩
  have q62 : fld (S45 20) 7 = v53.toInt := fld_of c57 rfl
  have b63 : Bd v53 (0) (0) := ⟨by omega, by omega⟩
  have q64 : fld (S45 20) 12 = v55.toInt := fld_of c57 rfl
  have b65 : Bd v55 (0) (0) := ⟨by omega, by omega⟩
  obtain ⟨v66, c68, b67⟩ := invX_34 hI
  have c68 : S45 34 = .inr (0, [.int v66, .ref (ad 35), .ref (ad 36), .ref (ad 37)]) := c68
  have q69 : fld (S45 34) 0 = v66.toInt := fld_of c68 rfl
  have b70 : Bd v66 (0) (0) := ⟨by omega, by omega⟩
  refine lv_aload_n hx hb dX5_read_39 rfl (lv_at hl 0 rfl) ?_
  have c72 : S45 94 = .inr (5, [.ref (ad 1), .ref (ad 20), .int z33, .int v17, .int v18, .int 0, .int v22, .int 0, .int (-1)]) := ((o45 94 (by decide)).trans c44)
  refine xcVv E hs hQ hml hl.1 94 (gX5_advance_94 l g ad hD S45 hI ) mX5_advance q598 (by decide) c72 rfl rfl ⟨(Nat.le_of_ble_eq_true rfl), (Nat.le_of_ble_eq_true rfl)⟩ ⟨(Nat.le_of_ble_eq_true rfl), (Nat.le_of_ble_eq_true rfl)⟩ (Nat.le_of_ble_eq_true rfl) rfl dX5_read_40 (fun S71 H locs hp71 hQ _ => ?_)
  obtain ⟨hI, o71⟩ := hp71
  refine lv_iconst (v := 0) hx hb dX5_read_43 (by decide) ?_
  refine lv_istore_n (lv' := [(2, .int 0), (0, .ref (ad 94)), (1, .int a1)]) hx hb dX5_read_44 rfl hl (by decide) rfl (fun ls hl => ?_)
  have c73 : S71 20 = .inr (1, [.int v47, .int v49, .int v51, .ref (ad 21), .ref (ad 23), .ref (ad 24), .int v52, .int v53, .ref (ad 25), .ref (ad 26), .ref (ad 27), .ref (ad 28), .int v55, .ref (ad 33), .ref (ad 34)]) := ((o71 20 (by decide)).trans c57)
  obtain ⟨v74, v76, v78, v80, c82, b75, b77, b79, b81⟩ := invX_21 hI
  have c82 : S71 21 = .inr (10, [.int v74, .int v76, .int v78, .int v80, .ref (ad 22)]) := c82
  obtain ⟨v83, c85, b84⟩ := invX_28 hI
  have c85 : S71 28 = .inr (6, [.int v83, .ref (ad 29), .ref (ad 30), .ref (ad 31), .ref (ad 32)]) := c85
  obtain ⟨v86, v88, v89, v91, v93, v94, v95, c96, b87, b90, b92⟩ := invX_94 hI
  have c96 : S71 94 = .inr (5, [.ref (ad 1), .ref (ad 20), .int v86, .int v88, .int v89, .int v91, .int v93, .int v94, .int v95]) := c96
  have loop45 : ∀ (n : Nat) (S_45 : SS) (H : Heap) (locs : List Loc) (ls : Array Slot) (x45_2 : Int32) (y45_20_0 : Int32) (y45_20_1 : Int32) (y45_20_2 : Int32) (y45_20_6 : Int32) (y45_20_7 : Int32) (y45_20_12 : Int32) (y45_21_0 : Int32) (y45_21_1 : Int32) (y45_21_2 : Int32) (y45_21_3 : Int32) (y45_28_0 : Int32) (y45_94_2 : Int32) (y45_94_3 : Int32) (y45_94_4 : Int32) (y45_94_5 : Int32) (y45_94_6 : Int32) (y45_94_7 : Int32) (y45_94_8 : Int32), Bd x45_2 (0) (1201) → Bd y45_20_0 (0) (1201) → Bd y45_20_1 (0) (12) → Bd y45_20_7 (0) (8) → Bd y45_20_12 (0) (3) → Bd y45_21_0 (0) (12) → Bd y45_21_1 (0) (6) → Bd y45_21_2 (0) (12) → Bd y45_21_3 (0) (36) → Bd y45_28_0 (0) (6) → Bd y45_94_2 (0) (1200) → Bd y45_94_4 (0) (1200) → Bd y45_94_5 (0) (1200) → 0 ≤ x45_2.toInt + (-1) * v47.toInt → 0 ≤ 1201 * v49.toInt + (-1) * v47.toInt → 0 ≤ 8 * v49.toInt + (-1) * v53.toInt → 0 ≤ 3 * v49.toInt + (-1) * v55.toInt → 0 ≤ x45_2.toInt + (-1) * y45_20_0.toInt → 0 ≤ 1201 * y45_20_1.toInt + (-1) * y45_20_0.toInt → 0 ≤ 8 * y45_20_1.toInt + (-1) * y45_20_7.toInt → 0 ≤ 3 * y45_20_1.toInt + (-1) * y45_20_12.toInt → (-1) * x45_2.toInt + 1201 < ((n : Nat) : Int) → InvX g ad S_45 → (∀ j, j ∉ ([20, 21, 22, 23, 24, 25, 26, 27, 28, 29, 30, 31, 32, 33, 94] : List Nat) → S_45 j = S71 j) → S_45 20 = .inr (1, [.int y45_20_0, .int y45_20_1, .int y45_20_2, .ref (ad 21), .ref (ad 23), .ref (ad 24), .int y45_20_6, .int y45_20_7, .ref (ad 25), .ref (ad 26), .ref (ad 27), .ref (ad 28), .int y45_20_12, .ref (ad 33), .ref (ad 34)]) → S_45 21 = .inr (10, [.int y45_21_0, .int y45_21_1, .int y45_21_2, .int y45_21_3, .ref (ad 22)]) → S_45 28 = .inr (6, [.int y45_28_0, .ref (ad 29), .ref (ad 30), .ref (ad 31), .ref (ad 32)]) → S_45 94 = .inr (5, [.ref (ad 1), .ref (ad 20), .int y45_94_2, .int y45_94_3, .int y45_94_4, .int y45_94_5, .int y45_94_6, .int y45_94_7, .int y45_94_8]) → Hp g ad 122 S_45 (FA ad 122) s.heap H locs → lv_has ls 3 [(2, .int x45_2), (0, .ref (ad 94)), (1, .int a1)] → W p l e (Rm 8) s m [.ref (ad 94), .int a1].toArray below meth c H locs 0 0 (MQ below (va_Qv (fun S' => InvX g ad S' ∧ (∀ j, j ∉ ([20, 21, 22, 23, 24, 25, 26, 27, 28, 29, 30, 31, 32, 33, 34, 94] : List Nat) → S' j = S j) ∧ (0 ≤ 1201 * fld (S' 20) 1 + (-1) * fld (S' 20) 0) ∧ (0 ≤ 8 * fld (S' 20) 1 + (-1) * fld (S' 20) 7) ∧ (0 ≤ 3 * fld (S' 20) 1 + (-1) * fld (S' 20) 12) ∧ (0 ≤ (-1) * fld (S' 34) 0 ∧ 0 ≤ fld (S' 34) 0)) (QB g ad 122) (FA ad 122)) [.ref (ad 94), .int a1].toArray s 0 0 (FA ad 122)) (F0 m 45 ls []) := by
    intro n
    induction n with
    | zero => intro S_45 H locs ls x45_2 y45_20_0 y45_20_1 y45_20_2 y45_20_6 y45_20_7 y45_20_12 y45_21_0 y45_21_1 y45_21_2 y45_21_3 y45_28_0 y45_94_2 y45_94_3 y45_94_4 y45_94_5 y45_94_6 y45_94_7 y45_94_8 Bx45_2 By45_20_0 By45_20_1 By45_20_7 By45_20_12 By45_21_0 By45_21_1 By45_21_2 By45_21_3 By45_28_0 By45_94_2 By45_94_4 By45_94_5 C45_0 C45_1 C45_2 C45_3 C45_4 C45_5 C45_6 C45_7 hn45_ hI hf45 cl45_20 cl45_21 cl45_28 cl45_94 hQ hl; exfalso; have := (Bx45_2).2; omega
    | succ n45_ ih45 =>
      intro S_45 H locs ls x45_2 y45_20_0 y45_20_1 y45_20_2 y45_20_6 y45_20_7 y45_20_12 y45_21_0 y45_21_1 y45_21_2 y45_21_3 y45_28_0 y45_94_2 y45_94_3 y45_94_4 y45_94_5 y45_94_6 y45_94_7 y45_94_8 Bx45_2 By45_20_0 By45_20_1 By45_20_7 By45_20_12 By45_21_0 By45_21_1 By45_21_2 By45_21_3 By45_28_0 By45_94_2 By45_94_4 By45_94_5 C45_0 C45_1 C45_2 C45_3 C45_4 C45_5 C45_6 C45_7 hn45_ hI hf45 cl45_20 cl45_21 cl45_28 cl45_94 hQ hl
      refine lv_iload_n hx hb dX5_read_45 rfl (lv_at hl 0 rfl) ?_
      refine lv_sipush (v := 1200) hx hb dX5_read_46 (by decide) ?_
      refine lv_icmp_gt (tgt := 93) hx hb dX5_read_49 (by decide) (fun k97 => ?_) (fun k97 => ?_)
      · have h98 := ib_lt k97
        have b99 : Bd x45_2 (1201) (1201) := ⟨((rf_lt (by decide : Bd 1200 (1200) (1200)) Bx45_2 h98).2).1, (Bx45_2).2⟩
        have q100 : fld (S_45 20) 1 = y45_20_1.toInt := fld_of cl45_20 rfl
        have q101 : fld (S_45 20) 0 = y45_20_0.toInt := fld_of cl45_20 rfl
        have q102 : fld (S_45 20) 7 = y45_20_7.toInt := fld_of cl45_20 rfl
        have q103 : fld (S_45 20) 12 = y45_20_12.toInt := fld_of cl45_20 rfl
        have c104 : S_45 34 = .inr (0, [.int v66, .ref (ad 35), .ref (ad 36), .ref (ad 37)]) := ((hf45 34 (by decide)).trans ((o71 34 (by decide)).trans c68))
        have q105 : fld (S_45 34) 0 = v66.toInt := fld_of c104 rfl
        exact xrv E hr hlk hQ (⟨hI, (o_trans (o_trans (o_trans (up_o (up_o (up_o (up_o o_refl eS37 (by decide)) eS39 (by decide)) eS41 (by decide)) eS43 (by decide)) o45 (by decide)) o71 (by decide)) hf45 (by decide)), (by omega), (by omega), (by omega), ⟨by omega, by omega⟩⟩) dX5_read_93
      · have h106 := ib_nlt k97
        have b107 : Bd x45_2 (0) (1200) := ⟨(Bx45_2).1, ((rf_le Bx45_2 (by decide : Bd 1200 (1200) (1200)) h106).1).2⟩
        refine lv_aload_n hx hb dX5_read_52 rfl (lv_at hl 1 rfl) ?_
        refine xget E hQ 94 (by decide) cl45_94 rfl 3 (by decide) q345 rfl dX5_read_53 ?_
        refine lv_if_eq (tgt := 93) hx hb dX5_read_56 (by decide) (fun k108 => ?_) (fun k108 => ?_)
        · have h109 := ib_eq k108
          have b110 : Bd y45_94_3 (0) (0) := ⟨((rf_eq (ib_full y45_94_3) (by decide : Bd 0 (0) (0)) h109).1).1, ((rf_eq (ib_full y45_94_3) (by decide : Bd 0 (0) (0)) h109).1).2⟩
          have q111 : fld (S_45 20) 1 = y45_20_1.toInt := fld_of cl45_20 rfl
          have q112 : fld (S_45 20) 0 = y45_20_0.toInt := fld_of cl45_20 rfl
          have q113 : fld (S_45 20) 7 = y45_20_7.toInt := fld_of cl45_20 rfl
          have q114 : fld (S_45 20) 12 = y45_20_12.toInt := fld_of cl45_20 rfl
          have c115 : S_45 34 = .inr (0, [.int v66, .ref (ad 35), .ref (ad 36), .ref (ad 37)]) := ((hf45 34 (by decide)).trans ((o71 34 (by decide)).trans c68))
          have q116 : fld (S_45 34) 0 = v66.toInt := fld_of c115 rfl
          exact xrv E hr hlk hQ (⟨hI, (o_trans (o_trans (o_trans (up_o (up_o (up_o (up_o o_refl eS37 (by decide)) eS39 (by decide)) eS41 (by decide)) eS43 (by decide)) o45 (by decide)) o71 (by decide)) hf45 (by decide)), (by omega), (by omega), (by omega), ⟨by omega, by omega⟩⟩) dX5_read_93
        · have h117 := ib_ne k108
          refine lv_aload_n hx hb dX5_read_59 rfl (lv_at hl 1 rfl) ?_
          refine xcVi E hs hQ hml hl.1 94 (gX5_failed_94 l g ad hD S_45 hI ) mX5_failed q610 (by decide) cl45_94 rfl rfl ⟨(Nat.le_of_ble_eq_true rfl), (Nat.le_of_ble_eq_true rfl)⟩ ⟨(Nat.le_of_ble_eq_true rfl), (Nat.le_of_ble_eq_true rfl)⟩ (Nat.le_of_ble_eq_true rfl) rfl dX5_read_60 (fun r118 S118 H locs hp118 hQ _ => ?_)
          obtain ⟨rfl, b118⟩ := hp118
          refine lv_if_ne (tgt := 93) hx hb dX5_read_63 (by decide) (fun k119 => ?_) (fun k119 => ?_)
          · have h120 := ib_ne k119
            have b121 : Bd r118 (1) (1) := rf_nlo b118 (by decide : Bd 0 (0) (0)) h120
            have q122 : fld (S_45 20) 1 = y45_20_1.toInt := fld_of cl45_20 rfl
            have q123 : fld (S_45 20) 0 = y45_20_0.toInt := fld_of cl45_20 rfl
            have q124 : fld (S_45 20) 7 = y45_20_7.toInt := fld_of cl45_20 rfl
            have q125 : fld (S_45 20) 12 = y45_20_12.toInt := fld_of cl45_20 rfl
            have c126 : S_45 34 = .inr (0, [.int v66, .ref (ad 35), .ref (ad 36), .ref (ad 37)]) := ((hf45 34 (by decide)).trans ((o71 34 (by decide)).trans c68))
            have q127 : fld (S_45 34) 0 = v66.toInt := fld_of c126 rfl
            exact xrv E hr hlk hQ (⟨hI, (o_trans (o_trans (o_trans (up_o (up_o (up_o (up_o o_refl eS37 (by decide)) eS39 (by decide)) eS41 (by decide)) eS43 (by decide)) o45 (by decide)) o71 (by decide)) hf45 (by decide)), (by omega), (by omega), (by omega), ⟨by omega, by omega⟩⟩) dX5_read_93
          · have h128 := ib_eq k119
            have b129 : Bd r118 (0) (0) := ⟨(b118).1, ((rf_eq b118 (by decide : Bd 0 (0) (0)) h128).1).2⟩
            refine lv_aload_n hx hb dX5_read_66 rfl (lv_at hl 1 rfl) ?_
            have q130 : fld (S_45 20) 1 = y45_20_1.toInt := fld_of cl45_20 rfl
            have q131 : fld (S_45 20) 0 = y45_20_0.toInt := fld_of cl45_20 rfl
            have q132 : fld (S_45 20) 7 = y45_20_7.toInt := fld_of cl45_20 rfl
            have q133 : fld (S_45 20) 12 = y45_20_12.toInt := fld_of cl45_20 rfl
            refine xcVvT E hs hQ hml hl.1 hT 94 (gX5_readLine_94 l g tt ad hD S_45 hI (by omega) (by omega) (by omega)) mX5_readLine q614 (by decide) cl45_94 rfl rfl ⟨(Nat.le_of_ble_eq_true rfl), (Nat.le_of_ble_eq_true rfl)⟩ ⟨(Nat.le_of_ble_eq_true rfl), (Nat.le_of_ble_eq_true rfl)⟩ (Nat.le_of_ble_eq_true rfl) rfl dX5_read_67 (fun S134 H locs hp134 hQ _ => ?_)
            obtain ⟨hI, o134, g134_0, g134_1⟩ := hp134
            obtain ⟨v135, v137, v139, v140, v141, v143, c145, b136, b138, b142, b144⟩ := invX_20 hI
            have c145 : S134 20 = .inr (1, [.int v135, .int v137, .int v139, .ref (ad 21), .ref (ad 23), .ref (ad 24), .int v140, .int v141, .ref (ad 25), .ref (ad 26), .ref (ad 27), .ref (ad 28), .int v143, .ref (ad 33), .ref (ad 34)]) := c145
            have q146 : fld (S134 20) 1 = v137.toInt := fld_of c145 rfl
            have b147 : Bd v137 (1) (12) := ⟨by omega, by omega⟩
            have q148 : fld (S134 20) 0 = v135.toInt := fld_of c145 rfl
            have b149 : Bd v135 (0) (1200) := ⟨by omega, by omega⟩
            have b150 : Bd y45_20_0 (0) (1200) := ⟨by omega, by omega⟩
            refine lv_aload_n hx hb dX5_read_70 rfl (lv_at hl 1 rfl) ?_
            obtain ⟨v152, v154, v155, v157, v159, v160, v161, c162, b153, b156, b158⟩ := invX_94 hI
            have c162 : S134 94 = .inr (5, [.ref (ad 1), .ref (ad 20), .int v152, .int v154, .int v155, .int v157, .int v159, .int v160, .int v161]) := c162
            refine xcVv E hs hQ hml hl.1 94 (gX5_expectSign_94 l g ad hD S134 hI ) mX5_expectSign q741 (by decide) c162 rfl rfl ⟨(Nat.le_of_ble_eq_true rfl), (Nat.le_of_ble_eq_true rfl)⟩ ⟨(Nat.le_of_ble_eq_true rfl), (Nat.le_of_ble_eq_true rfl)⟩ (Nat.le_of_ble_eq_true rfl) rfl dX5_read_71 (fun S151 H locs hp151 hQ _ => ?_)
            obtain ⟨hI, o151⟩ := hp151
            refine lv_aload_n hx hb dX5_read_74 rfl (lv_at hl 1 rfl) ?_
            obtain ⟨v163, v165, v166, v168, v170, v171, v172, c173, b164, b167, b169⟩ := invX_94 hI
            have c173 : S151 94 = .inr (5, [.ref (ad 1), .ref (ad 20), .int v163, .int v165, .int v166, .int v168, .int v170, .int v171, .int v172]) := c173
            refine xget E hQ 94 (by decide) c173 rfl 1 (by decide) q343 rfl dX5_read_75 ?_
            refine lv_dup hx hb dX5_read_78 rfl ?_
            have c174 : S151 20 = .inr (1, [.int v135, .int v137, .int v139, .ref (ad 21), .ref (ad 23), .ref (ad 24), .int v140, .int v141, .ref (ad 25), .ref (ad 26), .ref (ad 27), .ref (ad 28), .int v143, .ref (ad 33), .ref (ad 34)]) := ((o151 20 (by decide)).trans c145)
            refine xget E hQ 20 (by decide) c174 rfl 0 (by decide) q237 rfl dX5_read_79 ?_
            refine lv_iconst (v := 1) hx hb dX5_read_82 (by decide) ?_
            refine lv_iadd hx hb dX5_read_83 ?_
            refine lv_topi (fun z175 e176 => ?_)
            have t177 := ib_add e176 b149 (by decide : Bd 1 (1) (1)) (by decide) (by decide)
            have b178 : Bd z175 (1) (1201) := ib_addb t177 b149 (by decide : Bd 1 (1) (1))
            have t177 : z175.toInt = v135.toInt + 1 := fold_add t177 rfl (by decide)
            refine xputi E hs hQ 20 (by decide) c174 rfl 0 (by decide) q237 rfl rfl (Nat.le_of_ble_eq_true rfl) dX5_read_84 (fun H locs S179 eS179 hQ => ?_)
            have hI := invX_up_20 hI eS179 ⟨z175, v137, v139, v140, v141, v143, rfl, (ib_wk b178 (by decide) (by decide)), (ib_wk b147 (by decide) (by decide)), b142, b144⟩
            have c180 : S179 20 = .inr (1, [.int z175, .int v137, .int v139, .ref (ad 21), .ref (ad 23), .ref (ad 24), .int v140, .int v141, .ref (ad 25), .ref (ad 26), .ref (ad 27), .ref (ad 28), .int v143, .ref (ad 33), .ref (ad 34)]) := up_at eS179 rfl
            obtain ⟨z181, e182⟩ : ∃ z : Int32, z = x45_2 + 1 := ⟨_, rfl⟩
            have t183 := ib_add e182 b107 (by decide : Bd 1 (1) (1)) (by decide) (by decide)
            have b184 : Bd z181 (1) (1201) := ib_addb t183 b107 (by decide : Bd 1 (1) (1))
            have t183 : z181.toInt = x45_2.toInt + 1 := fold_add t183 rfl (by decide)
            refine lv_iinc (v := z181) (lv' := [(2, .int z181), (0, .ref (ad 94)), (1, .int a1)]) hx hb dX5_read_87 hl (k := 0) rfl (by rw [e182]; rfl) (by decide) rfl (fun ls hl => ?_)
            refine lv_goto (tgt := 45) hx hb dX5_read_90 (by decide) ?_
            obtain ⟨v185, v187, v189, v191, c193, b186, b188, b190, b192⟩ := invX_21 hI
            have c193 : S179 21 = .inr (10, [.int v185, .int v187, .int v189, .int v191, .ref (ad 22)]) := c193
            obtain ⟨v194, c196, b195⟩ := invX_28 hI
            have c196 : S179 28 = .inr (6, [.int v194, .ref (ad 29), .ref (ad 30), .ref (ad 31), .ref (ad 32)]) := c196
            have c197 : S179 94 = .inr (5, [.ref (ad 1), .ref (ad 20), .int v163, .int v165, .int v166, .int v168, .int v170, .int v171, .int v172]) := (up_ne eS179 (by decide) c173)
            exact ih45 _ _ _ _ z181 z175 v137 v139 v140 v141 v143 v185 v187 v189 v191 v194 v163 v165 v166 v168 v170 v171 v172 (ib_wk b184 (by decide) (by decide)) (ib_wk b178 (by decide) (by decide)) (ib_wk b147 (by decide) (by decide)) b142 b144 b186 b188 b190 b192 b195 b164 b167 b169 (by omega) (by omega) (by omega) (by omega) (by omega) (by omega) (by omega) (by omega) (by omega) hI (up_o (o_trans (o_trans hf45 o134 (by decide)) o151 (by decide)) eS179 (by decide)) c180 c193 c196 c197 hQ (lv_sub hl [0, 1, 2] rfl)
  obtain ⟨n45, hn45⟩ := fu_n (1201)
  exact loop45 n45 _ _ _ _ 0 v47 v49 v51 v52 v53 v55 v74 v76 v78 v80 v83 v86 v88 v89 v91 v93 v94 v95 (ib_wk (by decide : Bd 0 (0) (0)) (by decide) (by decide)) (ib_wk b59 (by decide) (by decide)) (ib_wk b61 (by decide) (by decide)) (ib_wk b63 (by decide) (by decide)) (ib_wk b65 (by decide) (by decide)) b75 b77 b79 b81 b84 b87 b90 b92 (by have : (0 : Int32).toInt = 0 := (by decide); omega) (by have : (0 : Int32).toInt = 0 := (by decide); omega) (by have : (0 : Int32).toInt = 0 := (by decide); omega) (by have : (0 : Int32).toInt = 0 := (by decide); omega) (by have : (0 : Int32).toInt = 0 := (by decide); omega) (by have : (0 : Int32).toInt = 0 := (by decide); omega) (by have : (0 : Int32).toInt = 0 := (by decide); omega) (by have : (0 : Int32).toInt = 0 := (by decide); omega) (by have : (0 : Int32).toInt = 0 := (by decide); omega) hI o_refl c73 c82 c85 c96 hQ (lv_sub hl [0, 1, 2] rfl)
