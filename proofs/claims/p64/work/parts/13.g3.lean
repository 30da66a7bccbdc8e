set_option maxHeartbeats 4000000 in
set_option maxRecDepth 100000 in
theorem gX5_failed_94 (l : Launch) (g : GG) (ad : Nat → Nat) (hD : Dj ad 122) (S : SS) (hI : InvX g ad S) : Met l yX5_failed (wG (.code yX5_failed cX5_failed 1 (some .boolean))) (Rm 0) (XPre g ad 122 S [.ref (ad 94)]) (va_Qi (fun r S' => S = S' ∧ Bd r (0) (1) ∧ (((-1) * r.toInt < 0 ∨ (0 ≤ (-1) * fld (S 94) 7)))) (QB g ad 122) (FA ad 122)) 0 0 (FA ad 122) := by
  refine xmet cX5_failed "EbbWreck$Reader" (by decide) rfl (Nat.le_of_ble_eq_true rfl) (fun p e s m below meth c E hr hlk hml hQ ls hl => ?_)
  have hx := E.1
  have hb := E.2.1
  have hs : Sp ad 122 (FA ad 122) := Sp.fa hD
  have hl : lv_has ls 1 [(0, .ref (ad 94))] := hl
  obtain ⟨v1, v3, v4, v6, v8, v9, v11, c12, b2, b5, b7, b10⟩ := invX_94 hI
  have c12 : S 94 = .inr (5, [.ref (ad 1), .ref (ad 20), .int v1, .int v3, .int v4, .int v6, .int v8, .int v9, .int v11]) := c12
  refine lv_aload_n hx hb dX5_failed_0 rfl (lv_at hl 0 rfl) ?_
  refine xget E hQ 94 (by decide) c12 rfl 7 (by decide) q349 rfl dX5_failed_1 ?_
  refine lv_if_eq (tgt := 11) hx hb dX5_failed_4 (by decide) (fun k13 => ?_) (fun k13 => ?_)
  · have h14 := ib_eq k13
    have b15 : Bd v9 (0) (0) := ⟨(b10).1, ((rf_eq b10 (by decide : Bd 0 (0) (0)) h14).1).2⟩
    refine lv_iconst (v := 0) hx hb dX5_failed_11 (by decide) ?_
    have q16 : fld (S 94) 7 = v9.toInt := fld_of c12 rfl
    have q17 : (0 : Int32).toInt = 0 := by decide
    exact xrz E hr hlk hQ rfl (⟨rfl, (ib_wk (by decide : Bd 0 (0) (0)) (by decide) (by decide)), Or.inr (by omega)⟩) dX5_failed_12
  · have h18 := ib_ne k13
    have b19 : Bd v9 (1) (3) := rf_nlo b10 (by decide : Bd 0 (0) (0)) h18
    refine lv_iconst (v := 1) hx hb dX5_failed_7 (by decide) ?_
    refine lv_goto (tgt := 12) hx hb dX5_failed_8 (by decide) ?_
    have q20 : fld (S 94) 7 = v9.toInt := fld_of c12 rfl
    have q21 : (1 : Int32).toInt = 1 := by decide
    exact xrz E hr hlk hQ rfl (⟨rfl, (ib_wk (by decide : Bd 1 (1) (1)) (by decide) (by decide)), Or.inl (by omega)⟩) dX5_failed_12
set_option maxHeartbeats 4000000 in
set_option maxRecDepth 100000 in
theorem gX5_fail_94 (l : Launch) (g : GG) (ad : Nat → Nat) (hD : Dj ad 122) (S : SS) (hI : InvX g ad S) (a1 : Int32) (ba1 : Bd a1 (1) (3)) : Met l yX5_fail (wG (.code yX5_fail cX5_fail 2 none)) (Rm 0) (XPre g ad 122 S [.ref (ad 94), .int a1]) (va_Qv (fun S' => InvX g ad S' ∧ (∀ j, j ∉ ([94] : List Nat) → S' j = S j) ∧ (0 ≤ fld (S' 94) 7 + (-1))) (QB g ad 122) (FA ad 122)) 0 0 (FA ad 122) := by
  refine xmet cX5_fail "EbbWreck$Reader" (by decide) rfl (Nat.le_of_ble_eq_true rfl) (fun p e s m below meth c E hr hlk hml hQ ls hl => ?_)
  have hx := E.1
  have hb := E.2.1
  have hs : Sp ad 122 (FA ad 122) := Sp.fa hD
  have hl : lv_has ls 2 [(0, .ref (ad 94)), (1, .int a1)] := hl
  obtain ⟨v1, v3, v4, v6, v8, v9, v11, c12, b2, b5, b7, b10⟩ := invX_94 hI
  have c12 : S 94 = .inr (5, [.ref (ad 1), .ref (ad 20), .int v1, .int v3, .int v4, .int v6, .int v8, .int v9, .int v11]) := c12
  refine lv_aload_n hx hb dX5_fail_0 rfl (lv_at hl 0 rfl) ?_
  refine xget E hQ 94 (by decide) c12 rfl 7 (by decide) q349 rfl dX5_fail_1 ?_
  refine lv_if_ne (tgt := 20) hx hb dX5_fail_4 (by decide) (fun k13 => ?_) (fun k13 => ?_)
  · have h14 := ib_ne k13
    have b15 : Bd v9 (1) (3) := rf_nlo b10 (by decide : Bd 0 (0) (0)) h14
    have q16 : fld (S 94) 7 = v9.toInt := fld_of c12 rfl
    exact xrv E hr hlk hQ (⟨hI, o_refl, (by omega)⟩) dX5_fail_20
  · have h17 := ib_eq k13
    have b18 : Bd v9 (0) (0) := ⟨(b10).1, ((rf_eq b10 (by decide : Bd 0 (0) (0)) h17).1).2⟩
    refine lv_aload_n hx hb dX5_fail_7 rfl (lv_at hl 0 rfl) ?_
    refine lv_iload_n hx hb dX5_fail_8 rfl (lv_at hl 1 rfl) ?_
    refine xputi E hs hQ 94 (by decide) c12 rfl 7 (by decide) q349 rfl rfl (Nat.le_of_ble_eq_true rfl) dX5_fail_9 (fun H locs S19 eS19 hQ => ?_)
    have hI := invX_up_94 hI eS19 ⟨v1, v3, v4, v6, v8, a1, v11, rfl, b2, b5, b7, (ib_wk ba1 (by decide) (by decide))⟩
    have c20 : S19 94 = .inr (5, [.ref (ad 1), .ref (ad 20), .int v1, .int v3, .int v4, .int v6, .int v8, .int a1, .int v11]) := up_at eS19 rfl
    refine lv_aload_n hx hb dX5_fail_12 rfl (lv_at hl 0 rfl) ?_
    refine lv_aload_n hx hb dX5_fail_13 rfl (lv_at hl 0 rfl) ?_
    refine xget E hQ 94 (by decide) c20 rfl 4 (by decide) q346 rfl dX5_fail_14 ?_
    refine xputi E hs hQ 94 (by decide) c20 rfl 8 (by decide) q351 rfl rfl (Nat.le_of_ble_eq_true rfl) dX5_fail_17 (fun H locs S21 eS21 hQ => ?_)
    have hI := invX_up_94 hI eS21 ⟨v1, v3, v4, v6, v8, a1, v4, rfl, b2, b5, b7, (ib_wk ba1 (by decide) (by decide))⟩
    have c22 : S21 94 = .inr (5, [.ref (ad 1), .ref (ad 20), .int v1, .int v3, .int v4, .int v6, .int v8, .int a1, .int v4]) := up_at eS21 rfl
    have q23 : fld (S21 94) 7 = a1.toInt := fld_of c22 rfl
    exact xrv E hr hlk hQ (⟨hI, (up_o (up_o o_refl eS19 (by decide)) eS21 (by decide)), (by omega)⟩) dX5_fail_20
set_option maxHeartbeats 4000000 in
set_option maxRecDepth 100000 in
theorem gX5_kindOf (l : Launch) (g : GG) (ad : Nat → Nat) (hD : Dj ad 122) (S : SS) (hI : InvX g ad S) (a1 : Int32) (ba1 : Bd a1 (-128) (127)) : Met l yX5_kindOf (wG (.code yX5_kindOf cX5_kindOf 1 (some .int))) (Rm 0) (XPre g ad 122 S [.int a1]) (va_Qi (fun r S' => S = S' ∧ Bd r (1) (5)) (QB g ad 122) (FA ad 122)) 0 0 (FA ad 122) := by
  refine xmet cX5_kindOf "EbbWreck$Reader" (by decide) rfl (Nat.le_of_ble_eq_true rfl) (fun p e s m below meth c E hr hlk hml hQ ls hl => ?_)
  have hx := E.1
  have hb := E.2.1
  have hs : Sp ad 122 (FA ad 122) := Sp.fa hD
  have hl : lv_has ls 1 [(0, .int a1)] := hl
  refine lv_iload_n hx hb dX5_kindOf_0 rfl (lv_at hl 0 rfl) ?_
  refine lv_bipush (v := 97) hx hb dX5_kindOf_1 (by decide) ?_
  refine lv_icmp_lt (tgt := 14) hx hb dX5_kindOf_3 (by decide) (fun k1 => ?_) (fun k1 => ?_)
  · have h2 := ib_lt k1
    have b3 : Bd a1 (-128) (96) := ⟨(ba1).1, ((rf_lt ba1 (by decide : Bd 97 (97) (97)) h2).1).2⟩
    refine lv_iload_n hx hb dX5_kindOf_14 rfl (lv_at hl 0 rfl) ?_
    refine lv_bipush (v := 48) hx hb dX5_kindOf_15 (by decide) ?_
    refine lv_icmp_lt (tgt := 28) hx hb dX5_kindOf_17 (by decide) (fun k4 => ?_) (fun k4 => ?_)
    · have h5 := ib_lt k4
      have b6 : Bd a1 (-128) (47) := ⟨(b3).1, ((rf_lt b3 (by decide : Bd 48 (48) (48)) h5).1).2⟩
      refine lv_iload_n hx hb dX5_kindOf_28 rfl (lv_at hl 0 rfl) ?_
      refine lv_bipush (v := 32) hx hb dX5_kindOf_29 (by decide) ?_
      refine lv_icmp_eq (tgt := 40) hx hb dX5_kindOf_31 (by decide) (fun k7 => ?_) (fun k7 => ?_)
      · have h8 := ib_eq k7
        have b9 : Bd a1 (32) (32) := ⟨((rf_eq b6 (by decide : Bd 32 (32) (32)) h8).1).1, ((rf_eq b6 (by decide : Bd 32 (32) (32)) h8).1).2⟩
        refine lv_iconst (v := 5) hx hb dX5_kindOf_40 (by decide) ?_
        exact xri E hr hlk hQ (⟨rfl, (ib_wk (by decide : Bd 5 (5) (5)) (by decide) (by decide))⟩) dX5_kindOf_41
      · have h10 := ib_ne k7
        refine lv_iload_n hx hb dX5_kindOf_34 rfl (lv_at hl 0 rfl) ?_
        refine lv_bipush (v := 10) hx hb dX5_kindOf_35 (by decide) ?_
        refine lv_icmp_ne (tgt := 42) hx hb dX5_kindOf_37 (by decide) (fun k11 => ?_) (fun k11 => ?_)
        · have h12 := ib_ne k11
          refine lv_iload_n hx hb dX5_kindOf_42 rfl (lv_at hl 0 rfl) ?_
          refine lv_bipush (v := 59) hx hb dX5_kindOf_43 (by decide) ?_
          refine lv_icmp_ne (tgt := 52) hx hb dX5_kindOf_45 (by decide) (fun k13 => ?_) (fun k13 => ?_)
          · have h14 := ib_ne k13
            refine lv_iconst (v := 4) hx hb dX5_kindOf_52 (by decide) ?_
            exact xri E hr hlk hQ (⟨rfl, (ib_wk (by decide : Bd 4 (4) (4)) (by decide) (by decide))⟩) dX5_kindOf_53
          · have h15 := ib_eq k13
            have b16 : Bd a1 (59) (47) := ⟨((rf_eq b6 (by decide : Bd 59 (59) (59)) h15).1).1, (b6).2⟩
            exact absurd (Int.le_trans b16.1 b16.2) (by decide)
        · have h17 := ib_eq k11
          have b18 : Bd a1 (10) (10) := ⟨((rf_eq b6 (by decide : Bd 10 (10) (10)) h17).1).1, ((rf_eq b6 (by decide : Bd 10 (10) (10)) h17).1).2⟩
          refine lv_iconst (v := 5) hx hb dX5_kindOf_40 (by decide) ?_
          exact xri E hr hlk hQ (⟨rfl, (ib_wk (by decide : Bd 5 (5) (5)) (by decide) (by decide))⟩) dX5_kindOf_41
    · have h19 := ib_nlt k4
      have b20 : Bd a1 (48) (96) := ⟨((rf_le (by decide : Bd 48 (48) (48)) b3 h19).2).1, (b3).2⟩
      refine lv_iload_n hx hb dX5_kindOf_20 rfl (lv_at hl 0 rfl) ?_
      refine lv_bipush (v := 57) hx hb dX5_kindOf_21 (by decide) ?_
      refine lv_icmp_gt (tgt := 28) hx hb dX5_kindOf_23 (by decide) (fun k21 => ?_) (fun k21 => ?_)
      · have h22 := ib_lt k21
        have b23 : Bd a1 (58) (96) := ⟨((rf_lt (by decide : Bd 57 (57) (57)) b20 h22).2).1, (b20).2⟩
        refine lv_iload_n hx hb dX5_kindOf_28 rfl (lv_at hl 0 rfl) ?_
        refine lv_bipush (v := 32) hx hb dX5_kindOf_29 (by decide) ?_
        refine lv_icmp_eq (tgt := 40) hx hb dX5_kindOf_31 (by decide) (fun k24 => ?_) (fun k24 => ?_)
        · have h25 := ib_eq k24
          have b26 : Bd a1 (58) (32) := ⟨(b23).1, ((rf_eq b23 (by decide : Bd 32 (32) (32)) h25).1).2⟩
          exact absurd (Int.le_trans b26.1 b26.2) (by decide)
        · have h27 := ib_ne k24
          refine lv_iload_n hx hb dX5_kindOf_34 rfl (lv_at hl 0 rfl) ?_
          refine lv_bipush (v := 10) hx hb dX5_kindOf_35 (by decide) ?_
          refine lv_icmp_ne (tgt := 42) hx hb dX5_kindOf_37 (by decide) (fun k28 => ?_) (fun k28 => ?_)
          · have h29 := ib_ne k28
            refine lv_iload_n hx hb dX5_kindOf_42 rfl (lv_at hl 0 rfl) ?_
            refine lv_bipush (v := 59) hx hb dX5_kindOf_43 (by decide) ?_
            refine lv_icmp_ne (tgt := 52) hx hb dX5_kindOf_45 (by decide) (fun k30 => ?_) (fun k30 => ?_)
            · have h31 := ib_ne k30
              refine lv_iconst (v := 4) hx hb dX5_kindOf_52 (by decide) ?_
              exact xri E hr hlk hQ (⟨rfl, (ib_wk (by decide : Bd 4 (4) (4)) (by decide) (by decide))⟩) dX5_kindOf_53
            · have h32 := ib_eq k30
              have b33 : Bd a1 (59) (59) := ⟨((rf_eq b23 (by decide : Bd 59 (59) (59)) h32).1).1, ((rf_eq b23 (by decide : Bd 59 (59) (59)) h32).1).2⟩
              refine lv_iconst (v := 3) hx hb dX5_kindOf_48 (by decide) ?_
              refine lv_goto (tgt := 53) hx hb dX5_kindOf_49 (by decide) ?_
              exact xri E hr hlk hQ (⟨rfl, (ib_wk (by decide : Bd 3 (3) (3)) (by decide) (by decide))⟩) dX5_kindOf_53
          · have h34 := ib_eq k28
            have b35 : Bd a1 (58) (10) := ⟨(b23).1, ((rf_eq b23 (by decide : Bd 10 (10) (10)) h34).1).2⟩
            exact absurd (Int.le_trans b35.1 b35.2) (by decide)
      · have h36 := ib_nlt k21
        have b37 : Bd a1 (48) (57) := ⟨(b20).1, ((rf_le b20 (by decide : Bd 57 (57) (57)) h36).1).2⟩
        refine lv_iconst (v := 2) hx hb dX5_kindOf_26 (by decide) ?_
        exact xri E hr hlk hQ (⟨rfl, (ib_wk (by decide : Bd 2 (2) (2)) (by decide) (by decide))⟩) dX5_kindOf_27
  · have h38 := ib_nlt k1
    have b39 : Bd a1 (97) (127) := ⟨((rf_le (by decide : Bd 97 (97) (97)) ba1 h38).2).1, (ba1).2⟩
    refine lv_iload_n hx hb dX5_kindOf_6 rfl (lv_at hl 0 rfl) ?_
    refine lv_bipush (v := 122) hx hb dX5_kindOf_7 (by decide) ?_
    refine lv_icmp_gt (tgt := 14) hx hb dX5_kindOf_9 (by decide) (fun k40 => ?_) (fun k40 => ?_)
    · have h41 := ib_lt k40
      have b42 : Bd a1 (123) (127) := ⟨((rf_lt (by decide : Bd 122 (122) (122)) b39 h41).2).1, (b39).2⟩
      refine lv_iload_n hx hb dX5_kindOf_14 rfl (lv_at hl 0 rfl) ?_
      refine lv_bipush (v := 48) hx hb dX5_kindOf_15 (by decide) ?_
      refine lv_icmp_lt (tgt := 28) hx hb dX5_kindOf_17 (by decide) (fun k43 => ?_) (fun k43 => ?_)
      · have h44 := ib_lt k43
        have b45 : Bd a1 (123) (47) := ⟨(b42).1, ((rf_lt b42 (by decide : Bd 48 (48) (48)) h44).1).2⟩
        exact absurd (Int.le_trans b45.1 b45.2) (by decide)
      · have h46 := ib_nlt k43
        refine lv_iload_n hx hb dX5_kindOf_20 rfl (lv_at hl 0 rfl) ?_
        refine lv_bipush (v := 57) hx hb dX5_kindOf_21 (by decide) ?_
        refine lv_icmp_gt (tgt := 28) hx hb dX5_kindOf_23 (by decide) (fun k47 => ?_) (fun k47 => ?_)
        · have h48 := ib_lt k47
          refine lv_iload_n hx hb dX5_kindOf_28 rfl (lv_at hl 0 rfl) ?_
          refine lv_bipush (v := 32) hx hb dX5_kindOf_29 (by decide) ?_
          refine lv_icmp_eq (tgt := 40) hx hb dX5_kindOf_31 (by decide) (fun k49 => ?_) (fun k49 => ?_)
          · have h50 := ib_eq k49
            have b51 : Bd a1 (123) (32) := ⟨(b42).1, ((rf_eq b42 (by decide : Bd 32 (32) (32)) h50).1).2⟩
            exact absurd (Int.le_trans b51.1 b51.2) (by decide)
          · have h52 := ib_ne k49
            refine lv_iload_n hx hb dX5_kindOf_34 rfl (lv_at hl 0 rfl) ?_
            refine lv_bipush (v := 10) hx hb dX5_kindOf_35 (by decide) ?_
            refine lv_icmp_ne (tgt := 42) hx hb dX5_kindOf_37 (by decide) (fun k53 => ?_) (fun k53 => ?_)
            · have h54 := ib_ne k53
              refine lv_iload_n hx hb dX5_kindOf_42 rfl (lv_at hl 0 rfl) ?_
              refine lv_bipush (v := 59) hx hb dX5_kindOf_43 (by decide) ?_
              refine lv_icmp_ne (tgt := 52) hx hb dX5_kindOf_45 (by decide) (fun k55 => ?_) (fun k55 => ?_)
              · have h56 := ib_ne k55
                refine lv_iconst (v := 4) hx hb dX5_kindOf_52 (by decide) ?_
                exact xri E hr hlk hQ (⟨rfl, (ib_wk (by decide : Bd 4 (4) (4)) (by decide) (by decide))⟩) dX5_kindOf_53
              · have h57 := ib_eq k55
                have b58 : Bd a1 (123) (59) := ⟨(b42).1, ((rf_eq b42 (by decide : Bd 59 (59) (59)) h57).1).2⟩
                exact absurd (Int.le_trans b58.1 b58.2) (by decide)
            · have h59 := ib_eq k53
              have b60 : Bd a1 (123) (10) := ⟨(b42).1, ((rf_eq b42 (by decide : Bd 10 (10) (10)) h59).1).2⟩
              exact absurd (Int.le_trans b60.1 b60.2) (by decide)
        · have h61 := ib_nlt k47
          have b62 : Bd a1 (123) (57) := ⟨(b42).1, ((rf_le b42 (by decide : Bd 57 (57) (57)) h61).1).2⟩
          exact absurd (Int.le_trans b62.1 b62.2) (by decide)
    · have h63 := ib_nlt k40
      have b64 : Bd a1 (97) (122) := ⟨(b39).1, ((rf_le b39 (by decide : Bd 122 (122) (122)) h63).1).2⟩
      refine lv_iconst (v := 1) hx hb dX5_kindOf_12 (by decide) ?_
      exact xri E hr hlk hQ (⟨rfl, (ib_wk (by decide : Bd 1 (1) (1)) (by decide) (by decide))⟩) dX5_kindOf_13
set_option maxHeartbeats 4000000 in
set_option maxRecDepth 100000 in
theorem gX5_isLong_94 (l : Launch) (g : GG) (ad : Nat → Nat) (hD : Dj ad 122) (S : SS) (hI : InvX g ad S) : Met l yX5_isLong (wG (.code yX5_isLong cX5_isLong 1 (some .boolean))) (Rm 0) (XPre g ad 122 S [.ref (ad 94)]) (va_Qi (fun r S' => S = S' ∧ Bd r (0) (1)) (QB g ad 122) (FA ad 122)) 0 0 (FA ad 122) := by
  refine xmet cX5_isLong "EbbWreck$Reader" (by decide) rfl (Nat.le_of_ble_eq_true rfl) (fun p e s m below meth c E hr hlk hml hQ ls hl => ?_)
  have hx := E.1
  have hb := E.2.1
  have hs : Sp ad 122 (FA ad 122) := Sp.fa hD
  have hl : lv_has ls 1 [(0, .ref (ad 94))] := hl
  refine lv_aload_n hx hb dX5_isLong_0 rfl (lv_at hl 0 rfl) ?_
  obtain ⟨v1, v3, v4, v6, v8, v9, v11, c12, b2, b5, b7, b10⟩ := invX_94 hI
  have c12 : S 94 = .inr (5, [.ref (ad 1), .ref (ad 20), .int v1, .int v3, .int v4, .int v6, .int v8, .int v9, .int v11]) := c12
  refine xget E hQ 94 (by decide) c12 rfl 3 (by decide) q345 rfl dX5_isLong_1 ?_
  refine lv_iconst (v := 1) hx hb dX5_isLong_4 (by decide) ?_
  refine lv_icmp_eq (tgt := 16) hx hb dX5_isLong_5 (by decide) (fun k13 => ?_) (fun k13 => ?_)
  · have h14 := ib_eq k13
    have b15 : Bd v3 (1) (1) := ⟨((rf_eq (ib_full v3) (by decide : Bd 1 (1) (1)) h14).1).1, ((rf_eq (ib_full v3) (by decide : Bd 1 (1) (1)) h14).1).2⟩
    refine lv_iconst (v := 1) hx hb dX5_isLong_16 (by decide) ?_
    refine lv_goto (tgt := 21) hx hb dX5_isLong_17 (by decide) ?_
    exact xrz E hr hlk hQ rfl (⟨rfl, (ib_wk (by decide : Bd 1 (1) (1)) (by decide) (by decide))⟩) dX5_isLong_21
  · have h16 := ib_ne k13
    refine lv_aload_n hx hb dX5_isLong_8 rfl (lv_at hl 0 rfl) ?_
    refine xget E hQ 94 (by decide) c12 rfl 3 (by decide) q345 rfl dX5_isLong_9 ?_
    refine lv_iconst (v := 2) hx hb dX5_isLong_12 (by decide) ?_
    refine lv_icmp_ne (tgt := 20) hx hb dX5_isLong_13 (by decide) (fun k17 => ?_) (fun k17 => ?_)
    · have h18 := ib_ne k17
      refine lv_iconst (v := 0) hx hb dX5_isLong_20 (by decide) ?_
      exact xrz E hr hlk hQ rfl (⟨rfl, (ib_wk (by decide : Bd 0 (0) (0)) (by decide) (by decide))⟩) dX5_isLong_21
    · have h19 := ib_eq k17
      have b20 : Bd v3 (2) (2) := ⟨((rf_eq (ib_full v3) (by decide : Bd 2 (2) (2)) h19).1).1, ((rf_eq (ib_full v3) (by decide : Bd 2 (2) (2)) h19).1).2⟩
      refine lv_iconst (v := 1) hx hb dX5_isLong_16 (by decide) ?_
      refine lv_goto (tgt := 21) hx hb dX5_isLong_17 (by decide) ?_
      exact xrz E hr hlk hQ rfl (⟨rfl, (ib_wk (by decide : Bd 1 (1) (1)) (by decide) (by decide))⟩) dX5_isLong_21
set_option maxHeartbeats 4000000 in
set_option maxRecDepth 100000 in
theorem gX5_advance_94 (l : Launch) (g : GG) (ad : Nat → Nat) (hD : Dj ad 122) (S : SS) (hI : InvX g ad S) : Met l yX5_advance (wG (.code yX5_advance cX5_advance 1 none)) (Rm 1) (XPre g ad 122 S [.ref (ad 94)]) (va_Qv (fun S' => InvX g ad S' ∧ (∀ j, j ∉ ([94] : List Nat) → S' j = S j)) (QB g ad 122) (FA ad 122)) 0 0 (FA ad 122) := by
  refine xmet cX5_advance "EbbWreck$Reader" (by decide) rfl (Nat.le_of_ble_eq_true rfl) (fun p e s m below meth c E hr hlk hml hQ ls hl => ?_)
  have hx := E.1
  have hb := E.2.1
  have hs : Sp ad 122 (FA ad 122) := Sp.fa hD
  have hl : lv_has ls 1 [(0, .ref (ad 94))] := hl
  refine lv_aload_n hx hb dX5_advance_0 rfl (lv_at hl 0 rfl) ?_
  refine lv_aload_n hx hb dX5_advance_1 rfl (lv_at hl 0 rfl) ?_
  obtain ⟨v1, v3, v4, v6, v8, v9, v11, c12, b2, b5, b7, b10⟩ := invX_94 hI
  have c12 : S 94 = .inr (5, [.ref (ad 1), .ref (ad 20), .int v1, .int v3, .int v4, .int v6, .int v8, .int v9, .int v11]) := c12
  refine xget E hQ 94 (by decide) c12 rfl 5 (by decide) q347 rfl dX5_advance_2 ?_
  refine xputi E hs hQ 94 (by decide) c12 rfl 4 (by decide) q346 rfl rfl (Nat.le_of_ble_eq_true rfl) dX5_advance_5 (fun H locs S13 eS13 hQ => ?_)
  have hI := invX_up_94 hI eS13 ⟨v1, v3, v6, v6, v8, v9, v11, rfl, b2, b7, b7, b10⟩
  have c14 : S13 94 = .inr (5, [.ref (ad 1), .ref (ad 20), .int v1, .int v3, .int v6, .int v6, .int v8, .int v9, .int v11]) := up_at eS13 rfl
  have loop8 : ∀ (n : Nat) (S_8 : SS) (H : Heap) (locs : List Loc) (ls : Array Slot) (y8_94_2 : Int32) (y8_94_3 : Int32) (y8_94_4 : Int32) (y8_94_5 : Int32) (y8_94_6 : Int32) (y8_94_7 : Int32) (y8_94_8 : Int32), Bd y8_94_2 (0) (1200) → Bd y8_94_4 (0) (1200) → Bd y8_94_5 (0) (1200) → Bd y8_94_7 (0) (3) → (-1) * y8_94_4.toInt + 1200 < ((n : Nat) : Int) → InvX g ad S_8 → (∀ j, j ∉ ([94] : List Nat) → S_8 j = S13 j) → S_8 94 = .inr (5, [.ref (ad 1), .ref (ad 20), .int y8_94_2, .int y8_94_3, .int y8_94_4, .int y8_94_5, .int y8_94_6, .int y8_94_7, .int y8_94_8]) → Hp g ad 122 S_8 (FA ad 122) s.heap H locs → lv_has ls 1 [(0, .ref (ad 94))] → W p l e (Rm 1) s m [.ref (ad 94)].toArray below meth c H locs 0 0 (MQ below (va_Qv (fun S' => InvX g ad S' ∧ (∀ j, j ∉ ([94] : List Nat) → S' j = S j)) (QB g ad 122) (FA ad 122)) [.ref (ad 94)].toArray s 0 0 (FA ad 122)) (F0 m 8 ls []) := by
    intro n
    induction n with
    | zero => intro S_8 H locs ls y8_94_2 y8_94_3 y8_94_4 y8_94_5 y8_94_6 y8_94_7 y8_94_8 By8_94_2 By8_94_4 By8_94_5 By8_94_7 hn8_ hI hf8 cl8_94 hQ hl; exfalso; have := (By8_94_4).2; omega
    | succ n8_ ih8 =>
      intro S_8 H locs ls y8_94_2 y8_94_3 y8_94_4 y8_94_5 y8_94_6 y8_94_7 y8_94_8 By8_94_2 By8_94_4 By8_94_5 By8_94_7 hn8_ hI hf8 cl8_94 hQ hl
      refine lv_aload_n hx hb dX5_advance_8 rfl (lv_at hl 0 rfl) ?_
      refine xget E hQ 94 (by decide) cl8_94 rfl 4 (by decide) q346 rfl dX5_advance_9 ?_
      refine lv_aload_n hx hb dX5_advance_12 rfl (lv_at hl 0 rfl) ?_
      refine xget E hQ 94 (by decide) cl8_94 rfl 2 (by decide) q344 rfl dX5_advance_13 ?_
      refine lv_icmp_ge (tgt := 48) hx hb dX5_advance_16 (by decide) (fun k15 => ?_) (fun k15 => ?_)
      · have h16 := ib_le k15
        refine lv_aload_n hx hb dX5_advance_48 rfl (lv_at hl 0 rfl) ?_
        refine lv_aload_n hx hb dX5_advance_49 rfl (lv_at hl 0 rfl) ?_
        refine xget E hQ 94 (by decide) cl8_94 rfl 4 (by decide) q346 rfl dX5_advance_50 ?_
        refine xputi E hs hQ 94 (by decide) cl8_94 rfl 5 (by decide) q347 rfl rfl (Nat.le_of_ble_eq_true rfl) dX5_advance_53 (fun H locs S17 eS17 hQ => ?_)
        have hI := invX_up_94 hI eS17 ⟨y8_94_2, y8_94_3, y8_94_4, y8_94_4, y8_94_6, y8_94_7, y8_94_8, rfl, By8_94_2, By8_94_4, By8_94_4, By8_94_7⟩
        have c18 : S17 94 = .inr (5, [.ref (ad 1), .ref (ad 20), .int y8_94_2, .int y8_94_3, .int y8_94_4, .int y8_94_4, .int y8_94_6, .int y8_94_7, .int y8_94_8]) := up_at eS17 rfl
        refine lv_aload_n hx hb dX5_advance_56 rfl (lv_at hl 0 rfl) ?_
        refine lv_iconst (v := 0) hx hb dX5_advance_57 (by decide) ?_
        refine xputi E hs hQ 94 (by decide) c18 rfl 6 (by decide) q348 rfl rfl (Nat.le_of_ble_eq_true rfl) dX5_advance_58 (fun H locs S19 eS19 hQ => ?_)
        have hI := invX_up_94 hI eS19 ⟨y8_94_2, y8_94_3, y8_94_4, y8_94_4, 0, y8_94_7, y8_94_8, rfl, By8_94_2, By8_94_4, By8_94_4, By8_94_7⟩
        have c20 : S19 94 = .inr (5, [.ref (ad 1), .ref (ad 20), .int y8_94_2, .int y8_94_3, .int y8_94_4, .int y8_94_4, .int 0, .int y8_94_7, .int y8_94_8]) := up_at eS19 rfl
        refine lv_aload_n hx hb dX5_advance_61 rfl (lv_at hl 0 rfl) ?_
        refine lv_aload_n hx hb dX5_advance_62 rfl (lv_at hl 0 rfl) ?_
        refine xget E hQ 94 (by decide) c20 rfl 4 (by decide) q346 rfl dX5_advance_63 ?_
        refine lv_aload_n hx hb dX5_advance_66 rfl (lv_at hl 0 rfl) ?_
        refine xget E hQ 94 (by decide) c20 rfl 2 (by decide) q344 rfl dX5_advance_67 ?_
        refine lv_icmp_ge (tgt := 88) hx hb dX5_advance_70 (by decide) (fun k21 => ?_) (fun k21 => ?_)
        · have h22 := ib_le k21
          refine lv_iconst (v := 0) hx hb dX5_advance_88 (by decide) ?_
          refine xputi E hs hQ 94 (by decide) c20 rfl 3 (by decide) q345 rfl rfl (Nat.le_of_ble_eq_true rfl) dX5_advance_89 (fun H locs S23 eS23 hQ => ?_)
          have hI := invX_up_94 hI eS23 ⟨y8_94_2, 0, y8_94_4, y8_94_4, 0, y8_94_7, y8_94_8, rfl, By8_94_2, By8_94_4, By8_94_4, By8_94_7⟩
          have c24 : S23 94 = .inr (5, [.ref (ad 1), .ref (ad 20), .int y8_94_2, .int 0, .int y8_94_4, .int y8_94_4, .int 0, .int y8_94_7, .int y8_94_8]) := up_at eS23 rfl
          have loop92 : ∀ (n : Nat) (S_92 : SS) (H : Heap) (locs : List Loc) (ls : Array Slot) (y92_94_2 : Int32) (y92_94_3 : Int32) (y92_94_4 : Int32) (y92_94_5 : Int32) (y92_94_6 : Int32) (y92_94_7 : Int32) (y92_94_8 : Int32), Bd y92_94_2 (0) (1200) → Bd y92_94_3 (0) (5) → Bd y92_94_4 (0) (1200) → Bd y92_94_5 (0) (1200) → Bd y92_94_6 (-2147483648) (1000000) → Bd y92_94_7 (0) (3) → (-1) * y92_94_5.toInt + 1200 < ((n : Nat) : Int) → InvX g ad S_92 → (∀ j, j ∉ ([94] : List Nat) → S_92 j = S23 j) → S_92 94 = .inr (5, [.ref (ad 1), .ref (ad 20), .int y92_94_2, .int y92_94_3, .int y92_94_4, .int y92_94_5, .int y92_94_6, .int y92_94_7, .int y92_94_8]) → Hp g ad 122 S_92 (FA ad 122) s.heap H locs → lv_has ls 1 [(0, .ref (ad 94))] → W p l e (Rm 1) s m [.ref (ad 94)].toArray below meth c H locs 0 0 (MQ below (va_Qv (fun S' => InvX g ad S' ∧ (∀ j, j ∉ ([94] : List Nat) → S' j = S j)) (QB g ad 122) (FA ad 122)) [.ref (ad 94)].toArray s 0 0 (FA ad 122)) (F0 m 92 ls []) := by
            intro n
            induction n with
            | zero => intro S_92 H locs ls y92_94_2 y92_94_3 y92_94_4 y92_94_5 y92_94_6 y92_94_7 y92_94_8 By92_94_2 By92_94_3 By92_94_4 By92_94_5 By92_94_6 By92_94_7 hn92_ hI hf92 cl92_94 hQ hl; exfalso; have := (By92_94_5).2; omega
            | succ n92_ ih92 =>
              intro S_92 H locs ls y92_94_2 y92_94_3 y92_94_4 y92_94_5 y92_94_6 y92_94_7 y92_94_8 By92_94_2 By92_94_3 By92_94_4 By92_94_5 By92_94_6 By92_94_7 hn92_ hI hf92 cl92_94 hQ hl
              refine lv_aload_n hx hb dX5_advance_92 rfl (lv_at hl 0 rfl) ?_
              refine xget E hQ 94 (by decide) cl92_94 rfl 5 (by decide) q347 rfl dX5_advance_93 ?_
              refine lv_aload_n hx hb dX5_advance_96 rfl (lv_at hl 0 rfl) ?_
              refine xget E hQ 94 (by decide) cl92_94 rfl 2 (by decide) q344 rfl dX5_advance_97 ?_
              refine lv_icmp_ge (tgt := 190) hx hb dX5_advance_100 (by decide) (fun k25 => ?_) (fun k25 => ?_)
              · have h26 := ib_le k25
                exact xrv E hr hlk hQ (⟨hI, (o_trans (up_o (up_o (up_o (o_trans (up_o o_refl eS13 (by decide)) hf8 (by decide)) eS17 (by decide)) eS19 (by decide)) eS23 (by decide)) hf92 (by decide))⟩) dX5_advance_190
              · have h27 := ib_nle k25
                have b28 : Bd y92_94_5 (0) (1199) := ⟨(By92_94_5).1, ((rf_lt By92_94_5 By92_94_2 h27).1).2⟩
                have b29 : Bd y92_94_2 (1) (1200) := ⟨((rf_lt By92_94_5 By92_94_2 h27).2).1, (By92_94_2).2⟩
                refine lv_aload_n hx hb dX5_advance_103 rfl (lv_at hl 0 rfl) ?_
                refine xget E hQ 94 (by decide) cl92_94 rfl 5 (by decide) q347 rfl dX5_advance_104 ?_
                refine lv_aload_n hx hb dX5_advance_107 rfl (lv_at hl 0 rfl) ?_
                refine xget E hQ 94 (by decide) cl92_94 rfl 4 (by decide) q346 rfl dX5_advance_108 ?_
                refine lv_icmp_eq (tgt := 121) hx hb dX5_advance_111 (by decide) (fun k30 => ?_) (fun k30 => ?_)
                · have h31 := ib_eq k30
                  have b32 : Bd y92_94_4 (0) (1199) := ⟨(By92_94_4).1, ((rf_eq b28 By92_94_4 h31).2).2⟩
                  refine lv_aload_n hx hb dX5_advance_121 rfl (lv_at hl 0 rfl) ?_
                  refine xget E hQ 94 (by decide) cl92_94 rfl 0 (by decide) q342 rfl dX5_advance_122 ?_
                  refine lv_aload_n hx hb dX5_advance_125 rfl (lv_at hl 0 rfl) ?_
                  refine xget E hQ 94 (by decide) cl92_94 rfl 5 (by decide) q347 rfl dX5_advance_126 ?_
                  obtain ⟨f33, c34, b35⟩ := invX_1 hI
                  refine xbald E hQ 1 (by decide) c34 (ib_in b28 (by decide) (by decide)) dX5_advance_129 ?_
                  refine lv_topi (fun z36 e37 => ?_)
                  have b38 : Bd z36 (-128) (127) := (by rw [e37]; exact b35 _)
                  refine xcSi E hs hQ hml hl.1 (gX5_kindOf l g ad hD S_92 hI z36 b38) mX5_kindOf q602 rfl ⟨(Nat.le_of_ble_eq_true rfl), (Nat.le_of_ble_eq_true rfl)⟩ ⟨(Nat.le_of_ble_eq_true rfl), (Nat.le_of_ble_eq_true rfl)⟩ (Nat.le_of_ble_eq_true rfl) rfl dX5_advance_130 (fun r39 S39 H locs hp39 hQ => ?_)
                  obtain ⟨rfl, b39⟩ := hp39
                  refine lv_aload_n hx hb dX5_advance_133 rfl (lv_at hl 0 rfl) ?_
                  refine xget E hQ 94 (by decide) cl92_94 rfl 3 (by decide) q345 rfl dX5_advance_134 ?_
                  refine lv_icmp_ne (tgt := 190) hx hb dX5_advance_137 (by decide) (fun k40 => ?_) (fun k40 => ?_)
                  · have h41 := ib_ne k40
                    exact xrv E hr hlk hQ (⟨hI, (o_trans (up_o (up_o (up_o (o_trans (up_o o_refl eS13 (by decide)) hf8 (by decide)) eS17 (by decide)) eS19 (by decide)) eS23 (by decide)) hf92 (by decide))⟩) dX5_advance_190
                  · have h42 := ib_eq k40
                    have b43 : Bd y92_94_3 (1) (5) := ⟨((rf_eq b39 By92_94_3 h42).2).1, (By92_94_3).2⟩
                    refine lv_aload_n hx hb dX5_advance_140 rfl (lv_at hl 0 rfl) ?_
                    refine xget E hQ 94 (by decide) cl92_94 rfl 3 (by decide) q345 rfl dX5_advance_141 ?_
                    refine lv_iconst (v := 2) hx hb dX5_advance_144 (by decide) ?_
                    refine lv_icmp_ne (tgt := 177) hx hb dX5_advance_145 (by decide) (fun k44 => ?_) (fun k44 => ?_)
                    · have h45 := ib_ne k44
                      refine lv_aload_n hx hb dX5_advance_177 rfl (lv_at hl 0 rfl) ?_
                      refine lv_dup hx hb dX5_advance_178 rfl ?_
                      refine xget E hQ 94 (by decide) cl92_94 rfl 5 (by decide) q347 rfl dX5_advance_179 ?_
                      refine lv_iconst (v := 1) hx hb dX5_advance_182 (by decide) ?_
                      refine lv_iadd hx hb dX5_advance_183 ?_
                      refine lv_topi (fun z46 e47 => ?_)
                      have t48 := ib_add e47 b28 (by decide : Bd 1 (1) (1)) (by decide) (by decide)
                      have b49 : Bd z46 (1) (1200) := ib_addb t48 b28 (by decide : Bd 1 (1) (1))
                      have t48 : z46.toInt = y92_94_5.toInt + 1 := fold_add t48 rfl (by decide)
                      refine xputi E hs hQ 94 (by decide) cl92_94 rfl 5 (by decide) q347 rfl rfl (Nat.le_of_ble_eq_true rfl) dX5_advance_184 (fun H locs S50 eS50 hQ => ?_)
                      have hI := invX_up_94 hI eS50 ⟨y92_94_2, y92_94_3, y92_94_4, z46, y92_94_6, y92_94_7, y92_94_8, rfl, (ib_wk b29 (by decide) (by decide)), (ib_wk b32 (by decide) (by decide)), (ib_wk b49 (by decide) (by decide)), By92_94_7⟩
                      have c51 : S50 94 = .inr (5, [.ref (ad 1), .ref (ad 20), .int y92_94_2, .int y92_94_3, .int y92_94_4, .int z46, .int y92_94_6, .int y92_94_7, .int y92_94_8]) := up_at eS50 rfl
                      refine lv_goto (tgt := 92) hx hb dX5_advance_187 (by decide) ?_
                      exact ih92 _ _ _ _ y92_94_2 y92_94_3 y92_94_4 z46 y92_94_6 y92_94_7 y92_94_8 (ib_wk b29 (by decide) (by decide)) (ib_wk b43 (by decide) (by decide)) (ib_wk b32 (by decide) (by decide)) (ib_wk b49 (by decide) (by decide)) By92_94_6 By92_94_7 (by omega) hI (up_o hf92 eS50 (by decide)) c51 hQ (lv_sub hl [0] rfl)
                    · have h52 := ib_eq k44
                      have b53 : Bd y92_94_3 (2) (2) := ⟨((rf_eq b43 (by decide : Bd 2 (2) (2)) h52).1).1, ((rf_eq b43 (by decide : Bd 2 (2) (2)) h52).1).2⟩
                      refine lv_aload_n hx hb dX5_advance_148 rfl (lv_at hl 0 rfl) ?_
                      refine lv_aload_n hx hb dX5_advance_149 rfl (lv_at hl 0 rfl) ?_
                      refine xget E hQ 94 (by decide) cl92_94 rfl 6 (by decide) q348 rfl dX5_advance_150 ?_
                      refine lv_bipush (v := 10) hx hb dX5_advance_153 (by decide) ?_
                      refine lv_imul hx hb dX5_advance_155 ?_
                      refine lv_topi (fun z54 e55 => ?_)
                      refine lv_aload_n hx hb dX5_advance_156 rfl (lv_at hl 0 rfl) ?_
                      refine xget E hQ 94 (by decide) cl92_94 rfl 0 (by decide) q342 rfl dX5_advance_157 ?_
                      refine lv_aload_n hx hb dX5_advance_160 rfl (lv_at hl 0 rfl) ?_
                      refine xget E hQ 94 (by decide) cl92_94 rfl 5 (by decide) q347 rfl dX5_advance_161 ?_
                      refine xbald E hQ 1 (by decide) c34 (ib_in b28 (by decide) (by decide)) dX5_advance_164 ?_
                      refine lv_topi (fun z56 e57 => ?_)
                      have t58 : z56.toInt = z36.toInt := by rw [e57, e37]
                      have b59 : Bd z56 (-128) (127) := (by rw [Bd, t58]; exact b38)
                      refine lv_iadd hx hb dX5_advance_165 ?_
                      refine lv_topi (fun z60 e61 => ?_)
                      refine lv_bipush (v := 48) hx hb dX5_advance_166 (by decide) ?_
                      refine lv_isub hx hb dX5_advance_168 ?_
                      refine lv_topi (fun z62 e63 => ?_)
                      refine lv_ldc (v := 1000000) hx hb E.2.2.1 (E.2.2.2.1 _ q609) dX5_advance_169 ?_
                      refine va_mmin hx hb (hml.trans hl.1.symm) E.2.2.1 (E.2.2.2.1 _ q582) (E.2.2.2.1 _ q583) (E.2.2.2.1 _ q128) (E.2.2.2.1 _ q584) (Nat.le_of_ble_eq_true rfl) (Nat.le_of_ble_eq_true rfl) (Nat.le_of_ble_eq_true rfl) (Nat.le_of_ble_eq_true rfl) dX5_advance_171 ?_
                      refine lv_topi (fun z64 e65 => ?_)
                      have b66 : Bd z64 (-2147483648) (1000000) := ib_min e65 (ib_full z62) (by decide : Bd 1000000 (1000000) (1000000)) (by decide) (by decide) (by decide) (by decide)
                      have t67 := ib_minx (p := z62.toInt) (q := 1000000) e65 rfl (by decide)
                      refine xputi E hs hQ 94 (by decide) cl92_94 rfl 6 (by decide) q348 rfl rfl (Nat.le_of_ble_eq_true rfl) dX5_advance_174 (fun H locs S68 eS68 hQ => ?_)
                      have hI := invX_up_94 hI eS68 ⟨y92_94_2, y92_94_3, y92_94_4, y92_94_5, z64, y92_94_7, y92_94_8, rfl, (ib_wk b29 (by decide) (by decide)), (ib_wk b32 (by decide) (by decide)), (ib_wk b28 (by decide) (by decide)), By92_94_7⟩
                      have c69 : S68 94 = .inr (5, [.ref (ad 1), .ref (ad 20), .int y92_94_2, .int y92_94_3, .int y92_94_4, .int y92_94_5, .int z64, .int y92_94_7, .int y92_94_8]) := up_at eS68 rfl
                      refine lv_aload_n hx hb dX5_advance_177 rfl (lv_at hl 0 rfl) ?_
                      refine lv_dup hx hb dX5_advance_178 rfl ?_
                      refine xget E hQ 94 (by decide) c69 rfl 5 (by decide) q347 rfl dX5_advance_179 ?_
                      refine lv_iconst (v := 1) hx hb dX5_advance_182 (by decide) ?_
                      refine lv_iadd hx hb dX5_advance_183 ?_
                      refine lv_topi (fun z70 e71 => ?_)
                      have t72 := ib_add e71 b28 (by decide : Bd 1 (1) (1)) (by decide) (by decide)
                      have b73 : Bd z70 (1) (1200) := ib_addb t72 b28 (by decide : Bd 1 (1) (1))
                      have t72 : z70.toInt = y92_94_5.toInt + 1 := fold_add t72 rfl (by decide)
                      refine xputi E hs hQ 94 (by decide) c69 rfl 5 (by decide) q347 rfl rfl (Nat.le_of_ble_eq_true rfl) dX5_advance_184 (fun H locs S74 eS74 hQ => ?_)
                      have hI := invX_up_94 hI eS74 ⟨y92_94_2, y92_94_3, y92_94_4, z70, z64, y92_94_7, y92_94_8, rfl, (ib_wk b29 (by decide) (by decide)), (ib_wk b32 (by decide) (by decide)), (ib_wk b73 (by decide) (by decide)), By92_94_7⟩
                      have c75 : S74 94 = .inr (5, [.ref (ad 1), .ref (ad 20), .int y92_94_2, .int y92_94_3, .int y92_94_4, .int z70, .int z64, .int y92_94_7, .int y92_94_8]) := up_at eS74 rfl
                      refine lv_goto (tgt := 92) hx hb dX5_advance_187 (by decide) ?_
                      exact ih92 _ _ _ _ y92_94_2 y92_94_3 y92_94_4 z70 z64 y92_94_7 y92_94_8 (ib_wk b29 (by decide) (by decide)) (ib_wk b53 (by decide) (by decide)) (ib_wk b32 (by decide) (by decide)) (ib_wk b73 (by decide) (by decide)) b66 By92_94_7 (by omega) hI (up_o (up_o hf92 eS68 (by decide)) eS74 (by decide)) c75 hQ (lv_sub hl [0] rfl)
                · have h76 := ib_ne k30
                  refine lv_aload_n hx hb dX5_advance_114 rfl (lv_at hl 0 rfl) ?_
                  refine xcVi E hs hQ hml hl.1 94 (gX5_isLong_94 l g ad hD S_92 hI ) mX5_isLong q605 (by decide) cl92_94 rfl rfl ⟨(Nat.le_of_ble_eq_true rfl), (Nat.le_of_ble_eq_true rfl)⟩ ⟨(Nat.le_of_ble_eq_true rfl), (Nat.le_of_ble_eq_true rfl)⟩ (Nat.le_of_ble_eq_true rfl) rfl dX5_advance_115 (fun r77 S77 H locs hp77 hQ _ => ?_)
                  obtain ⟨rfl, b77⟩ := hp77
                  refine lv_if_eq (tgt := 190) hx hb dX5_advance_118 (by decide) (fun k78 => ?_) (fun k78 => ?_)
                  · have h79 := ib_eq k78
                    have b80 : Bd r77 (0) (0) := ⟨(b77).1, ((rf_eq b77 (by decide : Bd 0 (0) (0)) h79).1).2⟩
                    exact xrv E hr hlk hQ (⟨hI, (o_trans (up_o (up_o (up_o (o_trans (up_o o_refl eS13 (by decide)) hf8 (by decide)) eS17 (by decide)) eS19 (by decide)) eS23 (by decide)) hf92 (by decide))⟩) dX5_advance_190
                  · have h81 := ib_ne k78
                    have b82 : Bd r77 (1) (1) := rf_nlo b77 (by decide : Bd 0 (0) (0)) h81
                    refine lv_aload_n hx hb dX5_advance_121 rfl (lv_at hl 0 rfl) ?_
                    refine xget E hQ 94 (by decide) cl92_94 rfl 0 (by decide) q342 rfl dX5_advance_122 ?_
                    refine lv_aload_n hx hb dX5_advance_125 rfl (lv_at hl 0 rfl) ?_
                    refine xget E hQ 94 (by decide) cl92_94 rfl 5 (by decide) q347 rfl dX5_advance_126 ?_
                    obtain ⟨f83, c84, b85⟩ := invX_1 hI
                    refine xbald E hQ 1 (by decide) c84 (ib_in b28 (by decide) (by decide)) dX5_advance_129 ?_
                    refine lv_topi (fun z86 e87 => ?_)
                    have b88 : Bd z86 (-128) (127) := (by rw [e87]; exact b85 _)
                    refine xcSi E hs hQ hml hl.1 (gX5_kindOf l g ad hD S_92 hI z86 b88) mX5_kindOf q602 rfl ⟨(Nat.le_of_ble_eq_true rfl), (Nat.le_of_ble_eq_true rfl)⟩ ⟨(Nat.le_of_ble_eq_true rfl), (Nat.le_of_ble_eq_true rfl)⟩ (Nat.le_of_ble_eq_true rfl) rfl dX5_advance_130 (fun r89 S89 H locs hp89 hQ => ?_)
                    obtain ⟨rfl, b89⟩ := hp89
                    refine lv_aload_n hx hb dX5_advance_133 rfl (lv_at hl 0 rfl) ?_
                    refine xget E hQ 94 (by decide) cl92_94 rfl 3 (by decide) q345 rfl dX5_advance_134 ?_
                    refine lv_icmp_ne (tgt := 190) hx hb dX5_advance_137 (by decide) (fun k90 => ?_) (fun k90 => ?_)
                    · have h91 := ib_ne k90
                      exact xrv E hr hlk hQ (⟨hI, (o_trans (up_o (up_o (up_o (o_trans (up_o o_refl eS13 (by decide)) hf8 (by decide)) eS17 (by decide)) eS19 (by decide)) eS23 (by decide)) hf92 (by decide))⟩) dX5_advance_190
                    · have h92 := ib_eq k90
                      have b93 : Bd y92_94_3 (1) (5) := ⟨((rf_eq b89 By92_94_3 h92).2).1, (By92_94_3).2⟩
                      refine lv_aload_n hx hb dX5_advance_140 rfl (lv_at hl 0 rfl) ?_
                      refine xget E hQ 94 (by decide) cl92_94 rfl 3 (by decide) q345 rfl dX5_advance_141 ?_
                      refine lv_iconst (v := 2) hx hb dX5_advance_144 (by decide) ?_
                      refine lv_icmp_ne (tgt := 177) hx hb dX5_advance_145 (by decide) (fun k94 => ?_) (fun k94 => ?_)
                      · have h95 := ib_ne k94
                        refine lv_aload_n hx hb dX5_advance_177 rfl (lv_at hl 0 rfl) ?_
                        refine lv_dup hx hb dX5_advance_178 rfl ?_
                        refine xget E hQ 94 (by decide) cl92_94 rfl 5 (by decide) q347 rfl dX5_advance_179 ?_
                        refine lv_iconst (v := 1) hx hb dX5_advance_182 (by decide) ?_
                        refine lv_iadd hx hb dX5_advance_183 ?_
                        refine lv_topi (fun z96 e97 => ?_)
                        have t98 := ib_add e97 b28 (by decide : Bd 1 (1) (1)) (by decide) (by decide)
                        have b99 : Bd z96 (1) (1200) := ib_addb t98 b28 (by decide : Bd 1 (1) (1))
                        have t98 : z96.toInt = y92_94_5.toInt + 1 := fold_add t98 rfl (by decide)
                        refine xputi E hs hQ 94 (by decide) cl92_94 rfl 5 (by decide) q347 rfl rfl (Nat.le_of_ble_eq_true rfl) dX5_advance_184 (fun H locs S100 eS100 hQ => ?_)
                        have hI := invX_up_94 hI eS100 ⟨y92_94_2, y92_94_3, y92_94_4, z96, y92_94_6, y92_94_7, y92_94_8, rfl, (ib_wk b29 (by decide) (by decide)), By92_94_4, (ib_wk b99 (by decide) (by decide)), By92_94_7⟩
                        have c101 : S100 94 = .inr (5, [.ref (ad 1), .ref (ad 20), .int y92_94_2, .int y92_94_3, .int y92_94_4, .int z96, .int y92_94_6, .int y92_94_7, .int y92_94_8]) := up_at eS100 rfl
                        refine lv_goto (tgt := 92) hx hb dX5_advance_187 (by decide) ?_
                        exact ih92 _ _ _ _ y92_94_2 y92_94_3 y92_94_4 z96 y92_94_6 y92_94_7 y92_94_8 (ib_wk b29 (by decide) (by decide)) (ib_wk b93 (by decide) (by decide)) By92_94_4 (ib_wk b99 (by decide) (by decide)) By92_94_6 By92_94_7 (by omega) hI (up_o hf92 eS100 (by decide)) c101 hQ (lv_sub hl [0] rfl)
                      · have h102 := ib_eq k94
                        have b103 : Bd y92_94_3 (2) (2) := ⟨((rf_eq b93 (by decide : Bd 2 (2) (2)) h102).1).1, ((rf_eq b93 (by decide : Bd 2 (2) (2)) h102).1).2⟩
                        refine lv_aload_n hx hb dX5_advance_148 rfl (lv_at hl 0 rfl) ?_
                        refine lv_aload_n hx hb dX5_advance_149 rfl (lv_at hl 0 rfl) ?_
                        refine xget E hQ 94 (by decide) cl92_94 rfl 6 (by decide) q348 rfl dX5_advance_150 ?_
                        refine lv_bipush (v := 10) hx hb dX5_advance_153 (by decide) ?_
                        refine lv_imul hx hb dX5_advance_155 ?_
                        refine lv_topi (fun z104 e105 => ?_)
                        refine lv_aload_n hx hb dX5_advance_156 rfl (lv_at hl 0 rfl) ?_
                        refine xget E hQ 94 (by decide) cl92_94 rfl 0 (by decide) q342 rfl dX5_advance_157 ?_
                        refine lv_aload_n hx hb dX5_advance_160 rfl (lv_at hl 0 rfl) ?_
                        refine xget E hQ 94 (by decide) cl92_94 rfl 5 (by decide) q347 rfl dX5_advance_161 ?_
                        refine xbald E hQ 1 (by decide) c84 (ib_in b28 (by decide) (by decide)) dX5_advance_164 ?_
                        refine lv_topi (fun z106 e107 => ?_)
                        have t108 : z106.toInt = z86.toInt := by rw [e107, e87]
                        have b109 : Bd z106 (-128) (127) := (by rw [Bd, t108]; exact b88)
                        refine lv_iadd hx hb dX5_advance_165 ?_
                        refine lv_topi (fun z110 e111 => ?_)
                        refine lv_bipush (v := 48) hx hb dX5_advance_166 (by decide) ?_
                        refine lv_isub hx hb dX5_advance_168 ?_
                        refine lv_topi (fun z112 e113 => ?_)
                        refine lv_ldc (v := 1000000) hx hb E.2.2.1 (E.2.2.2.1 _ q609) dX5_advance_169 ?_
                        refine va_mmin hx hb (hml.trans hl.1.symm) E.2.2.1 (E.2.2.2.1 _ q582) (E.2.2.2.1 _ q583) (E.2.2.2.1 _ q128) (E.2.2.2.1 _ q584) (Nat.le_of_ble_eq_true rfl) (Nat.le_of_ble_eq_true rfl) (Nat.le_of_ble_eq_true rfl) (Nat.le_of_ble_eq_true rfl) dX5_advance_171 ?_
                        refine lv_topi (fun z114 e115 => ?_)
                        have b116 : Bd z114 (-2147483648) (1000000) := ib_min e115 (ib_full z112) (by decide : Bd 1000000 (1000000) (1000000)) (by decide) (by decide) (by decide) (by decide)
                        have t117 := ib_minx (p := z112.toInt) (q := 1000000) e115 rfl (by decide)
                        refine xputi E hs hQ 94 (by decide) cl92_94 rfl 6 (by decide) q348 rfl rfl (Nat.le_of_ble_eq_true rfl) dX5_advance_174 (fun H locs S118 eS118 hQ => ?_)
                        have hI := invX_up_94 hI eS118 ⟨y92_94_2, y92_94_3, y92_94_4, y92_94_5, z114, y92_94_7, y92_94_8, rfl, (ib_wk b29 (by decide) (by decide)), By92_94_4, (ib_wk b28 (by decide) (by decide)), By92_94_7⟩
                        have c119 : S118 94 = .inr (5, [.ref (ad 1), .ref (ad 20), .int y92_94_2, .int y92_94_3, .int y92_94_4, .int y92_94_5, .int z114, .int y92_94_7, .int y92_94_8]) := up_at eS118 rfl
                        refine lv_aload_n hx hb dX5_advance_177 rfl (lv_at hl 0 rfl) ?_
                        refine lv_dup hx hb dX5_advance_178 rfl ?_
                        refine xget E hQ 94 (by decide) c119 rfl 5 (by decide) q347 rfl dX5_advance_179 ?_
                        refine lv_iconst (v := 1) hx hb dX5_advance_182 (by decide) ?_
                        refine lv_iadd hx hb dX5_advance_183 ?_
                        refine lv_topi (fun z120 e121 => ?_)
                        have t122 := ib_add e121 b28 (by decide : Bd 1 (1) (1)) (by decide) (by decide)
                        have b123 : Bd z120 (1) (1200) := ib_addb t122 b28 (by decide : Bd 1 (1) (1))
                        have t122 : z120.toInt = y92_94_5.toInt + 1 := fold_add t122 rfl (by decide)
                        refine xputi E hs hQ 94 (by decide) c119 rfl 5 (by decide) q347 rfl rfl (Nat.le_of_ble_eq_true rfl) dX5_advance_184 (fun H locs S124 eS124 hQ => ?_)
                        have hI := invX_up_94 hI eS124 ⟨y92_94_2, y92_94_3, y92_94_4, z120, z114, y92_94_7, y92_94_8, rfl, (ib_wk b29 (by decide) (by decide)), By92_94_4, (ib_wk b123 (by decide) (by decide)), By92_94_7⟩
                        have c125 : S124 94 = .inr (5, [.ref (ad 1), .ref (ad 20), .int y92_94_2, .int y92_94_3, .int y92_94_4, .int z120, .int z114, .int y92_94_7, .int y92_94_8]) := up_at eS124 rfl
                        refine lv_goto (tgt := 92) hx hb dX5_advance_187 (by decide) ?_
                        exact ih92 _ _ _ _ y92_94_2 y92_94_3 y92_94_4 z120 z114 y92_94_7 y92_94_8 (ib_wk b29 (by decide) (by decide)) (ib_wk b103 (by decide) (by decide)) By92_94_4 (ib_wk b123 (by decide) (by decide)) b116 By92_94_7 (by omega) hI (up_o (up_o hf92 eS118 (by decide)) eS124 (by decide)) c125 hQ (lv_sub hl [0] rfl)
          obtain ⟨n92, hn92⟩ := fu_n ((-1) * y8_94_4.toInt + 1200)
          exact loop92 n92 _ _ _ _ y8_94_2 0 y8_94_4 y8_94_4 0 y8_94_7 y8_94_8 By8_94_2 (ib_wk (by decide : Bd 0 (0) (0)) (by decide) (by decide)) By8_94_4 By8_94_4 (ib_wk (by decide : Bd 0 (0) (0)) (by decide) (by decide)) By8_94_7 (by have : (0 : Int32).toInt = 0 := (by decide); omega) hI o_refl c24 hQ (lv_sub hl [0] rfl)
        · have h126 := ib_nle k21
          have b127 : Bd y8_94_4 (0) (1199) := ⟨(By8_94_4).1, ((rf_lt By8_94_4 By8_94_2 h126).1).2⟩
          have b128 : Bd y8_94_2 (1) (1200) := ⟨((rf_lt By8_94_4 By8_94_2 h126).2).1, (By8_94_2).2⟩
          refine lv_aload_n hx hb dX5_advance_73 rfl (lv_at hl 0 rfl) ?_
          refine xget E hQ 94 (by decide) c20 rfl 0 (by decide) q342 rfl dX5_advance_74 ?_
          refine lv_aload_n hx hb dX5_advance_77 rfl (lv_at hl 0 rfl) ?_
          refine xget E hQ 94 (by decide) c20 rfl 4 (by decide) q346 rfl dX5_advance_78 ?_
          obtain ⟨f129, c130, b131⟩ := invX_1 hI
          refine xbald E hQ 1 (by decide) c130 (ib_in b127 (by decide) (by decide)) dX5_advance_81 ?_
          refine lv_topi (fun z132 e133 => ?_)
          have b134 : Bd z132 (-128) (127) := (by rw [e133]; exact b131 _)
          refine xcSi E hs hQ hml hl.1 (gX5_kindOf l g ad hD S19 hI z132 b134) mX5_kindOf q602 rfl ⟨(Nat.le_of_ble_eq_true rfl), (Nat.le_of_ble_eq_true rfl)⟩ ⟨(Nat.le_of_ble_eq_true rfl), (Nat.le_of_ble_eq_true rfl)⟩ (Nat.le_of_ble_eq_true rfl) rfl dX5_advance_82 (fun r135 S135 H locs hp135 hQ => ?_)
          obtain ⟨rfl, b135⟩ := hp135
          refine lv_goto (tgt := 89) hx hb dX5_advance_85 (by decide) ?_
          refine xputi E hs hQ 94 (by decide) c20 rfl 3 (by decide) q345 rfl rfl (Nat.le_of_ble_eq_true rfl) dX5_advance_89 (fun H locs S136 eS136 hQ => ?_)
          have hI := invX_up_94 hI eS136 ⟨y8_94_2, r135, y8_94_4, y8_94_4, 0, y8_94_7, y8_94_8, rfl, (ib_wk b128 (by decide) (by decide)), (ib_wk b127 (by decide) (by decide)), (ib_wk b127 (by decide) (by decide)), By8_94_7⟩
          have c137 : S136 94 = .inr (5, [.ref (ad 1), .ref (ad 20), .int y8_94_2, .int r135, .int y8_94_4, .int y8_94_4, .int 0, .int y8_94_7, .int y8_94_8]) := up_at eS136 rfl
          have loop92 : ∀ (n : Nat) (S_92 : SS) (H : Heap) (locs : List Loc) (ls : Array Slot) (y92_94_2 : Int32) (y92_94_3 : Int32) (y92_94_4 : Int32) (y92_94_5 : Int32) (y92_94_6 : Int32) (y92_94_7 : Int32) (y92_94_8 : Int32), Bd y92_94_2 (0) (1200) → Bd y92_94_3 (0) (5) → Bd y92_94_4 (0) (1200) → Bd y92_94_5 (0) (1200) → Bd y92_94_6 (-2147483648) (1000000) → Bd y92_94_7 (0) (3) → (-1) * y92_94_5.toInt + 1200 < ((n : Nat) : Int) → InvX g ad S_92 → (∀ j, j ∉ ([94] : List Nat) → S_92 j = S136 j) → S_92 94 = .inr (5, [.ref (ad 1), .ref (ad 20), .int y92_94_2, .int y92_94_3, .int y92_94_4, .int y92_94_5, .int y92_94_6, .int y92_94_7, .int y92_94_8]) → Hp g ad 122 S_92 (FA ad 122) s.heap H locs → lv_has ls 1 [(0, .ref (ad 94))] → W p l e (Rm 1) s m [.ref (ad 94)].toArray below meth c H locs 0 0 (MQ below (va_Qv (fun S' => InvX g ad S' ∧ (∀ j, j ∉ ([94] : List Nat) → S' j = S j)) (QB g ad 122) (FA ad 122)) [.ref (ad 94)].toArray s 0 0 (FA ad 122)) (F0 m 92 ls []) := by
            intro n
            induction n with
            | zero => intro S_92 H locs ls y92_94_2 y92_94_3 y92_94_4 y92_94_5 y92_94_6 y92_94_7 y92_94_8 By92_94_2 By92_94_3 By92_94_4 By92_94_5 By92_94_6 By92_94_7 hn92_ hI hf92 cl92_94 hQ hl; exfalso; have := (By92_94_5).2; omega
            | succ n92_ ih92 =>
              intro S_92 H locs ls y92_94_2 y92_94_3 y92_94_4 y92_94_5 y92_94_6 y92_94_7 y92_94_8 By92_94_2 By92_94_3 By92_94_4 By92_94_5 By92_94_6 By92_94_7 hn92_ hI hf92 cl92_94 hQ hl
              refine lv_aload_n hx hb dX5_advance_92 rfl (lv_at hl 0 rfl) ?_
              refine xget E hQ 94 (by decide) cl92_94 rfl 5 (by decide) q347 rfl dX5_advance_93 ?_
              refine lv_aload_n hx hb dX5_advance_96 rfl (lv_at hl 0 rfl) ?_
              refine xget E hQ 94 (by decide) cl92_94 rfl 2 (by decide) q344 rfl dX5_advance_97 ?_
              refine lv_icmp_ge (tgt := 190) hx hb dX5_advance_100 (by decide) (fun k138 => ?_) (fun k138 => ?_)
              · have h139 := ib_le k138
                exact xrv E hr hlk hQ (⟨hI, (o_trans (up_o (up_o (up_o (o_trans (up_o o_refl eS13 (by decide)) hf8 (by decide)) eS17 (by decide)) eS19 (by decide)) eS136 (by decide)) hf92 (by decide))⟩) dX5_advance_190
              · have h140 := ib_nle k138
                have b141 : Bd y92_94_5 (0) (1199) := ⟨(By92_94_5).1, ((rf_lt By92_94_5 By92_94_2 h140).1).2⟩
                have b142 : Bd y92_94_2 (1) (1200) := ⟨((rf_lt By92_94_5 By92_94_2 h140).2).1, (By92_94_2).2⟩
                refine lv_aload_n hx hb dX5_advance_103 rfl (lv_at hl 0 rfl) ?_
                refine xget E hQ 94 (by decide) cl92_94 rfl 5 (by decide) q347 rfl dX5_advance_104 ?_
                refine lv_aload_n hx hb dX5_advance_107 rfl (lv_at hl 0 rfl) ?_
                refine xget E hQ 94 (by decide) cl92_94 rfl 4 (by decide) q346 rfl dX5_advance_108 ?_
                refine lv_icmp_eq (tgt := 121) hx hb dX5_advance_111 (by decide) (fun k143 => ?_) (fun k143 => ?_)
                · have h144 := ib_eq k143
                  have b145 : Bd y92_94_4 (0) (1199) := ⟨(By92_94_4).1, ((rf_eq b141 By92_94_4 h144).2).2⟩
                  refine lv_aload_n hx hb dX5_advance_121 rfl (lv_at hl 0 rfl) ?_
                  refine xget E hQ 94 (by decide) cl92_94 rfl 0 (by decide) q342 rfl dX5_advance_122 ?_
                  refine lv_aload_n hx hb dX5_advance_125 rfl (lv_at hl 0 rfl) ?_
                  refine xget E hQ 94 (by decide) cl92_94 rfl 5 (by decide) q347 rfl dX5_advance_126 ?_
                  have c146 : S_92 1 = .inl (g.2 1, 1200, .inl f129) := ((hf92 1 (by decide)).trans (up_ne eS136 (by decide) c130))
                  refine xbald E hQ 1 (by decide) c146 (ib_in b141 (by decide) (by decide)) dX5_advance_129 ?_
                  refine lv_topi (fun z147 e148 => ?_)
                  have b149 : Bd z147 (-128) (127) := (by rw [e148]; exact b131 _)
                  refine xcSi E hs hQ hml hl.1 (gX5_kindOf l g ad hD S_92 hI z147 b149) mX5_kindOf q602 rfl ⟨(Nat.le_of_ble_eq_true rfl), (Nat.le_of_ble_eq_true rfl)⟩ ⟨(Nat.le_of_ble_eq_true rfl), (Nat.le_of_ble_eq_true rfl)⟩ (Nat.le_of_ble_eq_true rfl) rfl dX5_advance_130 (fun r150 S150 H locs hp150 hQ => ?_)
                  obtain ⟨rfl, b150⟩ := hp150
                  refine lv_aload_n hx hb dX5_advance_133 rfl (lv_at hl 0 rfl) ?_
                  refine xget E hQ 94 (by decide) cl92_94 rfl 3 (by decide) q345 rfl dX5_advance_134 ?_
                  refine lv_icmp_ne (tgt := 190) hx hb dX5_advance_137 (by decide) (fun k151 => ?_) (fun k151 => ?_)
                  · have h152 := ib_ne k151
                    exact xrv E hr hlk hQ (⟨hI, (o_trans (up_o (up_o (up_o (o_trans (up_o o_refl eS13 (by decide)) hf8 (by decide)) eS17 (by decide)) eS19 (by decide)) eS136 (by decide)) hf92 (by decide))⟩) dX5_advance_190
                  · have h153 := ib_eq k151
                    have b154 : Bd y92_94_3 (1) (5) := ⟨((rf_eq b150 By92_94_3 h153).2).1, (By92_94_3).2⟩
                    refine lv_aload_n hx hb dX5_advance_140 rfl (lv_at hl 0 rfl) ?_
                    refine xget E hQ 94 (by decide) cl92_94 rfl 3 (by decide) q345 rfl dX5_advance_141 ?_
                    refine lv_iconst (v := 2) hx hb dX5_advance_144 (by decide) ?_
                    refine lv_icmp_ne (tgt := 177) hx hb dX5_advance_145 (by decide) (fun k155 => ?_) (fun k155 => ?_)
                    · have h156 := ib_ne k155
                      refine lv_aload_n hx hb dX5_advance_177 rfl (lv_at hl 0 rfl) ?_
                      refine lv_dup hx hb dX5_advance_178 rfl ?_
                      refine xget E hQ 94 (by decide) cl92_94 rfl 5 (by decide) q347 rfl dX5_advance_179 ?_
                      refine lv_iconst (v := 1) hx hb dX5_advance_182 (by decide) ?_
                      refine lv_iadd hx hb dX5_advance_183 ?_
                      refine lv_topi (fun z157 e158 => ?_)
                      have t159 := ib_add e158 b141 (by decide : Bd 1 (1) (1)) (by decide) (by decide)
                      have b160 : Bd z157 (1) (1200) := ib_addb t159 b141 (by decide : Bd 1 (1) (1))
                      have t159 : z157.toInt = y92_94_5.toInt + 1 := fold_add t159 rfl (by decide)
                      refine xputi E hs hQ 94 (by decide) cl92_94 rfl 5 (by decide) q347 rfl rfl (Nat.le_of_ble_eq_true rfl) dX5_advance_184 (fun H locs S161 eS161 hQ => ?_)
                      have hI := invX_up_94 hI eS161 ⟨y92_94_2, y92_94_3, y92_94_4, z157, y92_94_6, y92_94_7, y92_94_8, rfl, (ib_wk b142 (by decide) (by decide)), (ib_wk b145 (by decide) (by decide)), (ib_wk b160 (by decide) (by decide)), By92_94_7⟩
                      have c162 : S161 94 = .inr (5, [.ref (ad 1), .ref (ad 20), .int y92_94_2, .int y92_94_3, .int y92_94_4, .int z157, .int y92_94_6, .int y92_94_7, .int y92_94_8]) := up_at eS161 rfl
                      refine lv_goto (tgt := 92) hx hb dX5_advance_187 (by decide) ?_
                      exact ih92 _ _ _ _ y92_94_2 y92_94_3 y92_94_4 z157 y92_94_6 y92_94_7 y92_94_8 (ib_wk b142 (by decide) (by decide)) (ib_wk b154 (by decide) (by decide)) (ib_wk b145 (by decide) (by decide)) (ib_wk b160 (by decide) (by decide)) By92_94_6 By92_94_7 (by omega) hI (up_o hf92 eS161 (by decide)) c162 hQ (lv_sub hl [0] rfl)
                    · have h163 := ib_eq k155
                      have b164 : Bd y92_94_3 (2) (2) := ⟨((rf_eq b154 (by decide : Bd 2 (2) (2)) h163).1).1, ((rf_eq b154 (by decide : Bd 2 (2) (2)) h163).1).2⟩
                      refine lv_aload_n hx hb dX5_advance_148 rfl (lv_at hl 0 rfl) ?_
                      refine lv_aload_n hx hb dX5_advance_149 rfl (lv_at hl 0 rfl) ?_
                      refine xget E hQ 94 (by decide) cl92_94 rfl 6 (by decide) q348 rfl dX5_advance_150 ?_
                      refine lv_bipush (v := 10) hx hb dX5_advance_153 (by decide) ?_
                      refine lv_imul hx hb dX5_advance_155 ?_
                      refine lv_topi (fun z165 e166 => ?_)
                      refine lv_aload_n hx hb dX5_advance_156 rfl (lv_at hl 0 rfl) ?_
                      refine xget E hQ 94 (by decide) cl92_94 rfl 0 (by decide) q342 rfl dX5_advance_157 ?_
                      refine lv_aload_n hx hb dX5_advance_160 rfl (lv_at hl 0 rfl) ?_
                      refine xget E hQ 94 (by decide) cl92_94 rfl 5 (by decide) q347 rfl dX5_advance_161 ?_
                      refine xbald E hQ 1 (by decide) c146 (ib_in b141 (by decide) (by decide)) dX5_advance_164 ?_
                      refine lv_topi (fun z167 e168 => ?_)
                      have t169 : z167.toInt = z147.toInt := by rw [e168, e148]
                      have b170 : Bd z167 (-128) (127) := (by rw [Bd, t169]; exact b149)
                      refine lv_iadd hx hb dX5_advance_165 ?_
                      refine lv_topi (fun z171 e172 => ?_)
                      refine lv_bipush (v := 48) hx hb dX5_advance_166 (by decide) ?_
                      refine lv_isub hx hb dX5_advance_168 ?_
                      refine lv_topi (fun z173 e174 => ?_)
                      refine lv_ldc (v := 1000000) hx hb E.2.2.1 (E.2.2.2.1 _ q609) dX5_advance_169 ?_
                      refine va_mmin hx hb (hml.trans hl.1.symm) E.2.2.1 (E.2.2.2.1 _ q582) (E.2.2.2.1 _ q583) (E.2.2.2.1 _ q128) (E.2.2.2.1 _ q584) (Nat.le_of_ble_eq_true rfl) (Nat.le_of_ble_eq_true rfl) (Nat.le_of_ble_eq_true rfl) (Nat.le_of_ble_eq_true rfl) dX5_advance_171 ?_
                      refine lv_topi (fun z175 e176 => ?_)
                      have b177 : Bd z175 (-2147483648) (1000000) := ib_min e176 (ib_full z173) (by decide : Bd 1000000 (1000000) (1000000)) (by decide) (by decide) (by decide) (by decide)
                      have t178 := ib_minx (p := z173.toInt) (q := 1000000) e176 rfl (by decide)
                      refine xputi E hs hQ 94 (by decide) cl92_94 rfl 6 (by decide) q348 rfl rfl (Nat.le_of_ble_eq_true rfl) dX5_advance_174 (fun H locs S179 eS179 hQ => ?_)
                      have hI := invX_up_94 hI eS179 ⟨y92_94_2, y92_94_3, y92_94_4, y92_94_5, z175, y92_94_7, y92_94_8, rfl, (ib_wk b142 (by decide) (by decide)), (ib_wk b145 (by decide) (by decide)), (ib_wk b141 (by decide) (by decide)), By92_94_7⟩
                      have c180 : S179 94 = .inr (5, [.ref (ad 1), .ref (ad 20), .int y92_94_2, .int y92_94_3, .int y92_94_4, .int y92_94_5, .int z175, .int y92_94_7, .int y92_94_8]) := up_at eS179 rfl
                      refine lv_aload_n hx hb dX5_advance_177 rfl (lv_at hl 0 rfl) ?_
                      refine lv_dup hx hb dX5_advance_178 rfl ?_
                      refine xget E hQ 94 (by decide) c180 rfl 5 (by decide) q347 rfl dX5_advance_179 ?_
                      refine lv_iconst (v := 1) hx hb dX5_advance_182 (by decide) ?_
                      refine lv_iadd hx hb dX5_advance_183 ?_
                      refine lv_topi (fun z181 e182 => ?_)
                      have t183 := ib_add e182 b141 (by decide : Bd 1 (1) (1)) (by decide) (by decide)
                      have b184 : Bd z181 (1) (1200) := ib_addb t183 b141 (by decide : Bd 1 (1) (1))
                      have t183 : z181.toInt = y92_94_5.toInt + 1 := fold_add t183 rfl (by decide)
                      refine xputi E hs hQ 94 (by decide) c180 rfl 5 (by decide) q347 rfl rfl (Nat.le_of_ble_eq_true rfl) dX5_advance_184 (fun H locs S185 eS185 hQ => ?_)
                      have hI := invX_up_94 hI eS185 ⟨y92_94_2, y92_94_3, y92_94_4, z181, z175, y92_94_7, y92_94_8, rfl, (ib_wk b142 (by decide) (by decide)), (ib_wk b145 (by decide) (by decide)), (ib_wk b184 (by decide) (by decide)), By92_94_7⟩
                      have c186 : S185 94 = .inr (5, [.ref (ad 1), .ref (ad 20), .int y92_94_2, .int y92_94_3, .int y92_94_4, .int z181, .int z175, .int y92_94_7, .int y92_94_8]) := up_at eS185 rfl
                      refine lv_goto (tgt := 92) hx hb dX5_advance_187 (by decide) ?_
                      exact ih92 _ _ _ _ y92_94_2 y92_94_3 y92_94_4 z181 z175 y92_94_7 y92_94_8 (ib_wk b142 (by decide) (by decide)) (ib_wk b164 (by decide) (by decide)) (ib_wk b145 (by decide) (by decide)) (ib_wk b184 (by decide) (by decide)) b177 By92_94_7 (by omega) hI (up_o (up_o hf92 eS179 (by decide)) eS185 (by decide)) c186 hQ (lv_sub hl [0] rfl)
                · have h187 := ib_ne k143
                  refine lv_aload_n hx hb dX5_advance_114 rfl (lv_at hl 0 rfl) ?_
                  refine xcVi E hs hQ hml hl.1 94 (gX5_isLong_94 l g ad hD S_92 hI ) mX5_isLong q605 (by decide) cl92_94 rfl rfl ⟨(Nat.le_of_ble_eq_true rfl), (Nat.le_of_ble_eq_true rfl)⟩ ⟨(Nat.le_of_ble_eq_true rfl), (Nat.le_of_ble_eq_true rfl)⟩ (Nat.le_of_ble_eq_true rfl) rfl dX5_advance_115 (fun r188 S188 H locs hp188 hQ _ => ?_)
                  obtain ⟨rfl, b188⟩ := hp188
                  refine lv_if_eq (tgt := 190) hx hb dX5_advance_118 (by decide) (fun k189 => ?_) (fun k189 => ?_)
                  · have h190 := ib_eq k189
                    have b191 : Bd r188 (0) (0) := ⟨(b188).1, ((rf_eq b188 (by decide : Bd 0 (0) (0)) h190).1).2⟩
                    exact xrv E hr hlk hQ (⟨hI, (o_trans (up_o (up_o (up_o (o_trans (up_o o_refl eS13 (by decide)) hf8 (by decide)) eS17 (by decide)) eS19 (by decide)) eS136 (by decide)) hf92 (by decide))⟩) dX5_advance_190
                  · have h192 := ib_ne k189
                    have b193 : Bd r188 (1) (1) := rf_nlo b188 (by decide : Bd 0 (0) (0)) h192
                    refine lv_aload_n hx hb dX5_advance_121 rfl (lv_at hl 0 rfl) ?_
                    refine xget E hQ 94 (by decide) cl92_94 rfl 0 (by decide) q342 rfl dX5_advance_122 ?_
                    refine lv_aload_n hx hb dX5_advance_125 rfl (lv_at hl 0 rfl) ?_
                    refine xget E hQ 94 (by decide) cl92_94 rfl 5 (by decide) q347 rfl dX5_advance_126 ?_
                    have c194 : S_92 1 = .inl (g.2 1, 1200, .inl f129) := ((hf92 1 (by decide)).trans (up_ne eS136 (by decide) c130))
                    refine xbald E hQ 1 (by decide) c194 (ib_in b141 (by decide) (by decide)) dX5_advance_129 ?_
                    refine lv_topi (fun z195 e196 => ?_)
                    have b197 : Bd z195 (-128) (127) := (by rw [e196]; exact b131 _)
                    refine xcSi E hs hQ hml hl.1 (gX5_kindOf l g ad hD S_92 hI z195 b197) mX5_kindOf q602 rfl ⟨(Nat.le_of_ble_eq_true rfl), (Nat.le_of_ble_eq_true rfl)⟩ ⟨(Nat.le_of_ble_eq_true rfl), (Nat.le_of_ble_eq_true rfl)⟩ (Nat.le_of_ble_eq_true rfl) rfl dX5_advance_130 (fun r198 S198 H locs hp198 hQ => ?_)
                    obtain ⟨rfl, b198⟩ := hp198
                    refine lv_aload_n hx hb dX5_advance_133 rfl (lv_at hl 0 rfl) ?_
                    refine xget E hQ 94 (by decide) cl92_94 rfl 3 (by decide) q345 rfl dX5_advance_134 ?_
                    refine lv_icmp_ne (tgt := 190) hx hb dX5_advance_137 (by decide) (fun k199 => ?_) (fun k199 => ?_)
                    · have h200 := ib_ne k199
                      exact xrv E hr hlk hQ (⟨hI, (o_trans (up_o (up_o (up_o (o_trans (up_o o_refl eS13 (by decide)) hf8 (by decide)) eS17 (by decide)) eS19 (by decide)) eS136 (by decide)) hf92 (by decide))⟩) dX5_advance_190
                    · have h201 := ib_eq k199
                      have b202 : Bd y92_94_3 (1) (5) := ⟨((rf_eq b198 By92_94_3 h201).2).1, (By92_94_3).2⟩
                      refine lv_aload_n hx hb dX5_advance_140 rfl (lv_at hl 0 rfl) ?_
                      refine xget E hQ 94 (by decide) cl92_94 rfl 3 (by decide) q345 rfl dX5_advance_141 ?_
                      refine lv_iconst (v := 2) hx hb dX5_advance_144 (by decide) ?_
                      refine lv_icmp_ne (tgt := 177) hx hb dX5_advance_145 (by decide) (fun k203 => ?_) (fun k203 => ?_)
                      · have h204 := ib_ne k203
                        refine lv_aload_n hx hb dX5_advance_177 rfl (lv_at hl 0 rfl) ?_
                        refine lv_dup hx hb dX5_advance_178 rfl ?_
                        refine xget E hQ 94 (by decide) cl92_94 rfl 5 (by decide) q347 rfl dX5_advance_179 ?_
                        refine lv_iconst (v := 1) hx hb dX5_advance_182 (by decide) ?_
                        refine lv_iadd hx hb dX5_advance_183 ?_
                        refine lv_topi (fun z205 e206 => ?_)
                        have t207 := ib_add e206 b141 (by decide : Bd 1 (1) (1)) (by decide) (by decide)
                        have b208 : Bd z205 (1) (1200) := ib_addb t207 b141 (by decide : Bd 1 (1) (1))
                        have t207 : z205.toInt = y92_94_5.toInt + 1 := fold_add t207 rfl (by decide)
                        refine xputi E hs hQ 94 (by decide) cl92_94 rfl 5 (by decide) q347 rfl rfl (Nat.le_of_ble_eq_true rfl) dX5_advance_184 (fun H locs S209 eS209 hQ => ?_)
                        have hI := invX_up_94 hI eS209 ⟨y92_94_2, y92_94_3, y92_94_4, z205, y92_94_6, y92_94_7, y92_94_8, rfl, (ib_wk b142 (by decide) (by decide)), By92_94_4, (ib_wk b208 (by decide) (by decide)), By92_94_7⟩
                        have c210 : S209 94 = .inr (5, [.ref (ad 1), .ref (ad 20), .int y92_94_2, .int y92_94_3, .int y92_94_4, .int z205, .int y92_94_6, .int y92_94_7, .int y92_94_8]) := up_at eS209 rfl
                        refine lv_goto (tgt := 92) hx hb dX5_advance_187 (by decide) ?_
                        exact ih92 _ _ _ _ y92_94_2 y92_94_3 y92_94_4 z205 y92_94_6 y92_94_7 y92_94_8 (ib_wk b142 (by decide) (by decide)) (ib_wk b202 (by decide) (by decide)) By92_94_4 (ib_wk b208 (by decide) (by decide)) By92_94_6 By92_94_7 (by omega) hI (up_o hf92 eS209 (by decide)) c210 hQ (lv_sub hl [0] rfl)
                      · have h211 := ib_eq k203
                        have b212 : Bd y92_94_3 (2) (2) := ⟨((rf_eq b202 (by decide : Bd 2 (2) (2)) h211).1).1, ((rf_eq b202 (by decide : Bd 2 (2) (2)) h211).1).2⟩
                        refine lv_aload_n hx hb dX5_advance_148 rfl (lv_at hl 0 rfl) ?_
                        refine lv_aload_n hx hb dX5_advance_149 rfl (lv_at hl 0 rfl) ?_
                        refine xget E hQ 94 (by decide) cl92_94 rfl 6 (by decide) q348 rfl dX5_advance_150 ?_
                        refine lv_bipush (v := 10) hx hb dX5_advance_153 (by decide) ?_
                        refine lv_imul hx hb dX5_advance_155 ?_
                        refine lv_topi (fun z213 e214 => ?_)
                        refine lv_aload_n hx hb dX5_advance_156 rfl (lv_at hl 0 rfl) ?_
                        refine xget E hQ 94 (by decide) cl92_94 rfl 0 (by decide) q342 rfl dX5_advance_157 ?_
                        refine lv_aload_n hx hb dX5_advance_160 rfl (lv_at hl 0 rfl) ?_
                        refine xget E hQ 94 (by decide) cl92_94 rfl 5 (by decide) q347 rfl dX5_advance_161 ?_
                        refine xbald E hQ 1 (by decide) c194 (ib_in b141 (by decide) (by decide)) dX5_advance_164 ?_
                        refine lv_topi (fun z215 e216 => ?_)
                        have t217 : z215.toInt = z195.toInt := by rw [e216, e196]
                        have b218 : Bd z215 (-128) (127) := (by rw [Bd, t217]; exact b197)
                        refine lv_iadd hx hb dX5_advance_165 ?_
                        refine lv_topi (fun z219 e220 => ?_)
                        refine lv_bipush (v := 48) hx hb dX5_advance_166 (by decide) ?_
                        refine lv_isub hx hb dX5_advance_168 ?_
                        refine lv_topi (fun z221 e222 => ?_)
                        refine lv_ldc (v := 1000000) hx hb E.2.2.1 (E.2.2.2.1 _ q609) dX5_advance_169 ?_
                        refine va_mmin hx hb (hml.trans hl.1.symm) E.2.2.1 (E.2.2.2.1 _ q582) (E.2.2.2.1 _ q583) (E.2.2.2.1 _ q128) (E.2.2.2.1 _ q584) (Nat.le_of_ble_eq_true rfl) (Nat.le_of_ble_eq_true rfl) (Nat.le_of_ble_eq_true rfl) (Nat.le_of_ble_eq_true rfl) dX5_advance_171 ?_
                        refine lv_topi (fun z223 e224 => ?_)
                        have b225 : Bd z223 (-2147483648) (1000000) := ib_min e224 (ib_full z221) (by decide : Bd 1000000 (1000000) (1000000)) (by decide) (by decide) (by decide) (by decide)
                        have t226 := ib_minx (p := z221.toInt) (q := 1000000) e224 rfl (by decide)
                        refine xputi E hs hQ 94 (by decide) cl92_94 rfl 6 (by decide) q348 rfl rfl (Nat.le_of_ble_eq_true rfl) dX5_advance_174 (fun H locs S227 eS227 hQ => ?_)
                        have hI := invX_up_94 hI eS227 ⟨y92_94_2, y92_94_3, y92_94_4, y92_94_5, z223, y92_94_7, y92_94_8, rfl, (ib_wk b142 (by decide) (by decide)), By92_94_4, (ib_wk b141 (by decide) (by decide)), By92_94_7⟩
                        have c228 : S227 94 = .inr (5, [.ref (ad 1), .ref (ad 20), .int y92_94_2, .int y92_94_3, .int y92_94_4, .int y92_94_5, .int z223, .int y92_94_7, .int y92_94_8]) := up_at eS227 rfl
                        refine lv_aload_n hx hb dX5_advance_177 rfl (lv_at hl 0 rfl) ?_
                        refine lv_dup hx hb dX5_advance_178 rfl ?_
                        refine xget E hQ 94 (by decide) c228 rfl 5 (by decide) q347 rfl dX5_advance_179 ?_
                        refine lv_iconst (v := 1) hx hb dX5_advance_182 (by decide) ?_
                        refine lv_iadd hx hb dX5_advance_183 ?_
                        refine lv_topi (fun z229 e230 => ?_)
                        have t231 := ib_add e230 b141 (by decide : Bd 1 (1) (1)) (by decide) (by decide)
                        have b232 : Bd z229 (1) (1200) := ib_addb t231 b141 (by decide : Bd 1 (1) (1))
                        have t231 : z229.toInt = y92_94_5.toInt + 1 := fold_add t231 rfl (by decide)
                        refine xputi E hs hQ 94 (by decide) c228 rfl 5 (by decide) q347 rfl rfl (Nat.le_of_ble_eq_true rfl) dX5_advance_184 (fun H locs S233 eS233 hQ => ?_)
                        have hI := invX_up_94 hI eS233 ⟨y92_94_2, y92_94_3, y92_94_4, z229, z223, y92_94_7, y92_94_8, rfl, (ib_wk b142 (by decide) (by decide)), By92_94_4, (ib_wk b232 (by decide) (by decide)), By92_94_7⟩
                        have c234 : S233 94 = .inr (5, [.ref (ad 1), .ref (ad 20), .int y92_94_2, .int y92_94_3, .int y92_94_4, .int z229, .int z223, .int y92_94_7, .int y92_94_8]) := up_at eS233 rfl
                        refine lv_goto (tgt := 92) hx hb dX5_advance_187 (by decide) ?_
                        exact ih92 _ _ _ _ y92_94_2 y92_94_3 y92_94_4 z229 z223 y92_94_7 y92_94_8 (ib_wk b142 (by decide) (by decide)) (ib_wk b212 (by decide) (by decide)) By92_94_4 (ib_wk b232 (by decide) (by decide)) b225 By92_94_7 (by omega) hI (up_o (up_o hf92 eS227 (by decide)) eS233 (by decide)) c234 hQ (lv_sub hl [0] rfl)
          obtain ⟨n92, hn92⟩ := fu_n ((-1) * y8_94_4.toInt + 1200)
          exact loop92 n92 _ _ _ _ y8_94_2 r135 y8_94_4 y8_94_4 0 y8_94_7 y8_94_8 (ib_wk b128 (by decide) (by decide)) (ib_wk b135 (by decide) (by decide)) (ib_wk b127 (by decide) (by decide)) (ib_wk b127 (by decide) (by decide)) (ib_wk (by decide : Bd 0 (0) (0)) (by decide) (by decide)) By8_94_7 (by have : (0 : Int32).toInt = 0 := (by decide); omega) hI o_refl c137 hQ (lv_sub hl [0] rfl)
      · have h235 := ib_nle k15
        have b236 : Bd y8_94_4 (0) (1199) := ⟨(By8_94_4).1, ((rf_lt By8_94_4 By8_94_2 h235).1).2⟩
        have b237 : Bd y8_94_2 (1) (1200) := ⟨((rf_lt By8_94_4 By8_94_2 h235).2).1, (By8_94_2).2⟩
        refine lv_aload_n hx hb dX5_advance_19 rfl (lv_at hl 0 rfl) ?_
        refine xget E hQ 94 (by decide) cl8_94 rfl 0 (by decide) q342 rfl dX5_advance_20 ?_
        refine lv_aload_n hx hb dX5_advance_23 rfl (lv_at hl 0 rfl) ?_
        refine xget E hQ 94 (by decide) cl8_94 rfl 4 (by decide) q346 rfl dX5_advance_24 ?_
        obtain ⟨f238, c239, b240⟩ := invX_1 hI
        refine xbald E hQ 1 (by decide) c239 (ib_in b236 (by decide) (by decide)) dX5_advance_27 ?_
        refine lv_topi (fun z241 e242 => ?_)
        have b243 : Bd z241 (-128) (127) := (by rw [e242]; exact b240 _)
        refine xcSi E hs hQ hml hl.1 (gX5_kindOf l g ad hD S_8 hI z241 b243) mX5_kindOf q602 rfl ⟨(Nat.le_of_ble_eq_true rfl), (Nat.le_of_ble_eq_true rfl)⟩ ⟨(Nat.le_of_ble_eq_true rfl), (Nat.le_of_ble_eq_true rfl)⟩ (Nat.le_of_ble_eq_true rfl) rfl dX5_advance_28 (fun r244 S244 H locs hp244 hQ => ?_)
        obtain ⟨rfl, b244⟩ := hp244
        refine lv_iconst (v := 5) hx hb dX5_advance_31 (by decide) ?_
        refine lv_icmp_ne (tgt := 48) hx hb dX5_advance_32 (by decide) (fun k245 => ?_) (fun k245 => ?_)
        · have h246 := ib_ne k245
          have b247 : Bd r244 (1) (4) := rf_nhi b244 (by decide : Bd 5 (5) (5)) h246
          refine lv_aload_n hx hb dX5_advance_48 rfl (lv_at hl 0 rfl) ?_
          refine lv_aload_n hx hb dX5_advance_49 rfl (lv_at hl 0 rfl) ?_
          refine xget E hQ 94 (by decide) cl8_94 rfl 4 (by decide) q346 rfl dX5_advance_50 ?_
          refine xputi E hs hQ 94 (by decide) cl8_94 rfl 5 (by decide) q347 rfl rfl (Nat.le_of_ble_eq_true rfl) dX5_advance_53 (fun H locs S248 eS248 hQ => ?_)
          have hI := invX_up_94 hI eS248 ⟨y8_94_2, y8_94_3, y8_94_4, y8_94_4, y8_94_6, y8_94_7, y8_94_8, rfl, (ib_wk b237 (by decide) (by decide)), (ib_wk b236 (by decide) (by decide)), (ib_wk b236 (by decide) (by decide)), By8_94_7⟩
          have c249 : S248 94 = .inr (5, [.ref (ad 1), .ref (ad 20), .int y8_94_2, .int y8_94_3, .int y8_94_4, .int y8_94_4, .int y8_94_6, .int y8_94_7, .int y8_94_8]) := up_at eS248 rfl
          refine lv_aload_n hx hb dX5_advance_56 rfl (lv_at hl 0 rfl) ?_
          refine lv_iconst (v := 0) hx hb dX5_advance_57 (by decide) ?_
          refine xputi E hs hQ 94 (by decide) c249 rfl 6 (by decide) q348 rfl rfl (Nat.le_of_ble_eq_true rfl) dX5_advance_58 (fun H locs S250 eS250 hQ => ?_)
          have hI := invX_up_94 hI eS250 ⟨y8_94_2, y8_94_3, y8_94_4, y8_94_4, 0, y8_94_7, y8_94_8, rfl, (ib_wk b237 (by decide) (by decide)), (ib_wk b236 (by decide) (by decide)), (ib_wk b236 (by decide) (by decide)), By8_94_7⟩
          have c251 : S250 94 = .inr (5, [.ref (ad 1), .ref (ad 20), .int y8_94_2, .int y8_94_3, .int y8_94_4, .int y8_94_4, .int 0, .int y8_94_7, .int y8_94_8]) := up_at eS250 rfl
          refine lv_aload_n hx hb dX5_advance_61 rfl (lv_at hl 0 rfl) ?_
          refine lv_aload_n hx hb dX5_advance_62 rfl (lv_at hl 0 rfl) ?_
          refine xget E hQ 94 (by decide) c251 rfl 4 (by decide) q346 rfl dX5_advance_63 ?_
          refine lv_aload_n hx hb dX5_advance_66 rfl (lv_at hl 0 rfl) ?_
          refine xget E hQ 94 (by decide) c251 rfl 2 (by decide) q344 rfl dX5_advance_67 ?_
          refine lv_icmp_ge (tgt := 88) hx hb dX5_advance_70 (by decide) (fun k252 => ?_) (fun k252 => ?_)
          · have h253 := ib_le k252
            have b254 : Bd y8_94_2 (1) (1199) := ⟨(b237).1, ((rf_le b237 b236 h253).1).2⟩
            have b255 : Bd y8_94_4 (1) (1199) := ⟨((rf_le b237 b236 h253).2).1, (b236).2⟩
            refine lv_iconst (v := 0) hx hb dX5_advance_88 (by decide) ?_
            refine xputi E hs hQ 94 (by decide) c251 rfl 3 (by decide) q345 rfl rfl (Nat.le_of_ble_eq_true rfl) dX5_advance_89 (fun H locs S256 eS256 hQ => ?_)
            have hI := invX_up_94 hI eS256 ⟨y8_94_2, 0, y8_94_4, y8_94_4, 0, y8_94_7, y8_94_8, rfl, (ib_wk b254 (by decide) (by decide)), (ib_wk b255 (by decide) (by decide)), (ib_wk b255 (by decide) (by decide)), By8_94_7⟩
            have c257 : S256 94 = .inr (5, [.ref (ad 1), .ref (ad 20), .int y8_94_2, .int 0, .int y8_94_4, .int y8_94_4, .int 0, .int y8_94_7, .int y8_94_8]) := up_at eS256 rfl
            have loop92 : ∀ (n : Nat) (S_92 : SS) (H : Heap) (locs : List Loc) (ls : Array Slot) (y92_94_2 : Int32) (y92_94_3 : Int32) (y92_94_4 : Int32) (y92_94_5 : Int32) (y92_94_6 : Int32) (y92_94_7 : Int32) (y92_94_8 : Int32), Bd y92_94_2 (0) (1200) → Bd y92_94_3 (0) (5) → Bd y92_94_4 (0) (1200) → Bd y92_94_5 (0) (1200) → Bd y92_94_6 (-2147483648) (1000000) → Bd y92_94_7 (0) (3) → (-1) * y92_94_5.toInt + 1200 < ((n : Nat) : Int) → InvX g ad S_92 → (∀ j, j ∉ ([94] : List Nat) → S_92 j = S256 j) → S_92 94 = .inr (5, [.ref (ad 1), .ref (ad 20), .int y92_94_2, .int y92_94_3, .int y92_94_4, .int y92_94_5, .int y92_94_6, .int y92_94_7, .int y92_94_8]) → Hp g ad 122 S_92 (FA ad 122) s.heap H locs → lv_has ls 1 [(0, .ref (ad 94))] → W p l e (Rm 1) s m [.ref (ad 94)].toArray below meth c H locs 0 0 (MQ below (va_Qv (fun S' => InvX g ad S' ∧ (∀ j, j ∉ ([94] : List Nat) → S' j = S j)) (QB g ad 122) (FA ad 122)) [.ref (ad 94)].toArray s 0 0 (FA ad 122)) (F0 m 92 ls []) := by
              intro n
              induction n with
              | zero => intro S_92 H locs ls y92_94_2 y92_94_3 y92_94_4 y92_94_5 y92_94_6 y92_94_7 y92_94_8 By92_94_2 By92_94_3 By92_94_4 By92_94_5 By92_94_6 By92_94_7 hn92_ hI hf92 cl92_94 hQ hl; exfalso; have := (By92_94_5).2; omega
              | succ n92_ ih92 =>
                intro S_92 H locs ls y92_94_2 y92_94_3 y92_94_4 y92_94_5 y92_94_6 y92_94_7 y92_94_8 By92_94_2 By92_94_3 By92_94_4 By92_94_5 By92_94_6 By92_94_7 hn92_ hI hf92 cl92_94 hQ hl
                refine lv_aload_n hx hb dX5_advance_92 rfl (lv_at hl 0 rfl) ?_
                refine xget E hQ 94 (by decide) cl92_94 rfl 5 (by decide) q347 rfl dX5_advance_93 ?_
                refine lv_aload_n hx hb dX5_advance_96 rfl (lv_at hl 0 rfl) ?_
                refine xget E hQ 94 (by decide) cl92_94 rfl 2 (by decide) q344 rfl dX5_advance_97 ?_
                refine lv_icmp_ge (tgt := 190) hx hb dX5_advance_100 (by decide) (fun k258 => ?_) (fun k258 => ?_)
                · have h259 := ib_le k258
                  exact xrv E hr hlk hQ (⟨hI, (o_trans (up_o (up_o (up_o (o_trans (up_o o_refl eS13 (by decide)) hf8 (by decide)) eS248 (by decide)) eS250 (by decide)) eS256 (by decide)) hf92 (by decide))⟩) dX5_advance_190
                · have h260 := ib_nle k258
                  have b261 : Bd y92_94_5 (0) (1199) := ⟨(By92_94_5).1, ((rf_lt By92_94_5 By92_94_2 h260).1).2⟩
                  have b262 : Bd y92_94_2 (1) (1200) := ⟨((rf_lt By92_94_5 By92_94_2 h260).2).1, (By92_94_2).2⟩
                  refine lv_aload_n hx hb dX5_advance_103 rfl (lv_at hl 0 rfl) ?_
                  refine xget E hQ 94 (by decide) cl92_94 rfl 5 (by decide) q347 rfl dX5_advance_104 ?_
                  refine lv_aload_n hx hb dX5_advance_107 rfl (lv_at hl 0 rfl) ?_
                  refine xget E hQ 94 (by decide) cl92_94 rfl 4 (by decide) q346 rfl dX5_advance_108 ?_
                  refine lv_icmp_eq (tgt := 121) hx hb dX5_advance_111 (by decide) (fun k263 => ?_) (fun k263 => ?_)
                  · have h264 := ib_eq k263
                    have b265 : Bd y92_94_4 (0) (1199) := ⟨(By92_94_4).1, ((rf_eq b261 By92_94_4 h264).2).2⟩
                    refine lv_aload_n hx hb dX5_advance_121 rfl (lv_at hl 0 rfl) ?_
                    refine xget E hQ 94 (by decide) cl92_94 rfl 0 (by decide) q342 rfl dX5_advance_122 ?_
                    refine lv_aload_n hx hb dX5_advance_125 rfl (lv_at hl 0 rfl) ?_
                    refine xget E hQ 94 (by decide) cl92_94 rfl 5 (by decide) q347 rfl dX5_advance_126 ?_
                    have c266 : S_92 1 = .inl (g.2 1, 1200, .inl f238) := ((hf92 1 (by decide)).trans (up_ne eS256 (by decide) (up_ne eS250 (by decide) (up_ne eS248 (by decide) c239))))
                    refine xbald E hQ 1 (by decide) c266 (ib_in b261 (by decide) (by decide)) dX5_advance_129 ?_
                    refine lv_topi (fun z267 e268 => ?_)
                    have b269 : Bd z267 (-128) (127) := (by rw [e268]; exact b240 _)
                    refine xcSi E hs hQ hml hl.1 (gX5_kindOf l g ad hD S_92 hI z267 b269) mX5_kindOf q602 rfl ⟨(Nat.le_of_ble_eq_true rfl), (Nat.le_of_ble_eq_true rfl)⟩ ⟨(Nat.le_of_ble_eq_true rfl), (Nat.le_of_ble_eq_true rfl)⟩ (Nat.le_of_ble_eq_true rfl) rfl dX5_advance_130 (fun r270 S270 H locs hp270 hQ => ?_)
                    obtain ⟨rfl, b270⟩ := hp270
                    refine lv_aload_n hx hb dX5_advance_133 rfl (lv_at hl 0 rfl) ?_
                    refine xget E hQ 94 (by decide) cl92_94 rfl 3 (by decide) q345 rfl dX5_advance_134 ?_
                    refine lv_icmp_ne (tgt := 190) hx hb dX5_advance_137 (by decide) (fun k271 => ?_) (fun k271 => ?_)
                    · have h272 := ib_ne k271
                      exact xrv E hr hlk hQ (⟨hI, (o_trans (up_o (up_o (up_o (o_trans (up_o o_refl eS13 (by decide)) hf8 (by decide)) eS248 (by decide)) eS250 (by decide)) eS256 (by decide)) hf92 (by decide))⟩) dX5_advance_190
                    · have h273 := ib_eq k271
                      have b274 : Bd y92_94_3 (1) (5) := ⟨((rf_eq b270 By92_94_3 h273).2).1, (By92_94_3).2⟩
                      refine lv_aload_n hx hb dX5_advance_140 rfl (lv_at hl 0 rfl) ?_
                      refine xget E hQ 94 (by decide) cl92_94 rfl 3 (by decide) q345 rfl dX5_advance_141 ?_
                      refine lv_iconst (v := 2) hx hb dX5_advance_144 (by decide) ?_
                      refine lv_icmp_ne (tgt := 177) hx hb dX5_advance_145 (by decide) (fun k275 => ?_) (fun k275 => ?_)
                      · have h276 := ib_ne k275
                        refine lv_aload_n hx hb dX5_advance_177 rfl (lv_at hl 0 rfl) ?_
                        refine lv_dup hx hb dX5_advance_178 rfl ?_
                        refine xget E hQ 94 (by decide) cl92_94 rfl 5 (by decide) q347 rfl dX5_advance_179 ?_
                        refine lv_iconst (v := 1) hx hb dX5_advance_182 (by decide) ?_
                        refine lv_iadd hx hb dX5_advance_183 ?_
                        refine lv_topi (fun z277 e278 => ?_)
                        have t279 := ib_add e278 b261 (by decide : Bd 1 (1) (1)) (by decide) (by decide)
                        have b280 : Bd z277 (1) (1200) := ib_addb t279 b261 (by decide : Bd 1 (1) (1))
                        have t279 : z277.toInt = y92_94_5.toInt + 1 := fold_add t279 rfl (by decide)
                        refine xputi E hs hQ 94 (by decide) cl92_94 rfl 5 (by decide) q347 rfl rfl (Nat.le_of_ble_eq_true rfl) dX5_advance_184 (fun H locs S281 eS281 hQ => ?_)
                        have hI := invX_up_94 hI eS281 ⟨y92_94_2, y92_94_3, y92_94_4, z277, y92_94_6, y92_94_7, y92_94_8, rfl, (ib_wk b262 (by decide) (by decide)), (ib_wk b265 (by decide) (by decide)), (ib_wk b280 (by decide) (by decide)), By92_94_7⟩
                        have c282 : S281 94 = .inr (5, [.ref (ad 1), .ref (ad 20), .int y92_94_2, .int y92_94_3, .int y92_94_4, .int z277, .int y92_94_6, .int y92_94_7, .int y92_94_8]) := up_at eS281 rfl
                        refine lv_goto (tgt := 92) hx hb dX5_advance_187 (by decide) ?_
                        exact ih92 _ _ _ _ y92_94_2 y92_94_3 y92_94_4 z277 y92_94_6 y92_94_7 y92_94_8 (ib_wk b262 (by decide) (by decide)) (ib_wk b274 (by decide) (by decide)) (ib_wk b265 (by decide) (by decide)) (ib_wk b280 (by decide) (by decide)) By92_94_6 By92_94_7 (by omega) hI (up_o hf92 eS281 (by decide)) c282 hQ (lv_sub hl [0] rfl)
                      · have h283 := ib_eq k275
                        have b284 : Bd y92_94_3 (2) (2) := ⟨((rf_eq b274 (by decide : Bd 2 (2) (2)) h283).1).1, ((rf_eq b274 (by decide : Bd 2 (2) (2)) h283).1).2⟩
                        refine lv_aload_n hx hb dX5_advance_148 rfl (lv_at hl 0 rfl) ?_
                        refine lv_aload_n hx hb dX5_advance_149 rfl (lv_at hl 0 rfl) ?_
                        refine xget E hQ 94 (by decide) cl92_94 rfl 6 (by decide) q348 rfl dX5_advance_150 ?_
                        refine lv_bipush (v := 10) hx hb dX5_advance_153 (by decide) ?_
                        refine lv_imul hx hb dX5_advance_155 ?_
                        refine lv_topi (fun z285 e286 => ?_)
                        refine lv_aload_n hx hb dX5_advance_156 rfl (lv_at hl 0 rfl) ?_
                        refine xget E hQ 94 (by decide) cl92_94 rfl 0 (by decide) q342 rfl dX5_advance_157 ?_
                        refine lv_aload_n hx hb dX5_advance_160 rfl (lv_at hl 0 rfl) ?_
                        refine xget E hQ 94 (by decide) cl92_94 rfl 5 (by decide) q347 rfl dX5_advance_161 ?_
                        refine xbald E hQ 1 (by decide) c266 (ib_in b261 (by decide) (by decide)) dX5_advance_164 ?_
                        refine lv_topi (fun z287 e288 => ?_)
                        have t289 : z287.toInt = z267.toInt := by rw [e288, e268]
                        have b290 : Bd z287 (-128) (127) := (by rw [Bd, t289]; exact b269)
                        refine lv_iadd hx hb dX5_advance_165 ?_
                        refine lv_topi (fun z291 e292 => ?_)
                        refine lv_bipush (v := 48) hx hb dX5_advance_166 (by decide) ?_
                        refine lv_isub hx hb dX5_advance_168 ?_
                        refine lv_topi (fun z293 e294 => ?_)
                        refine lv_ldc (v := 1000000) hx hb E.2.2.1 (E.2.2.2.1 _ q609) dX5_advance_169 ?_
                        refine va_mmin hx hb (hml.trans hl.1.symm) E.2.2.1 (E.2.2.2.1 _ q582) (E.2.2.2.1 _ q583) (E.2.2.2.1 _ q128) (E.2.2.2.1 _ q584) (Nat.le_of_ble_eq_true rfl) (Nat.le_of_ble_eq_true rfl) (Nat.le_of_ble_eq_true rfl) (Nat.le_of_ble_eq_true rfl) dX5_advance_171 ?_
                        refine lv_topi (fun z295 e296 => ?_)
                        have b297 : Bd z295 (-2147483648) (1000000) := ib_min e296 (ib_full z293) (by decide : Bd 1000000 (1000000) (1000000)) (by decide) (by decide) (by decide) (by decide)
                        have t298 := ib_minx (p := z293.toInt) (q := 1000000) e296 rfl (by decide)
                        refine xputi E hs hQ 94 (by decide) cl92_94 rfl 6 (by decide) q348 rfl rfl (Nat.le_of_ble_eq_true rfl) dX5_advance_174 (fun H locs S299 eS299 hQ => ?_)
                        have hI := invX_up_94 hI eS299 ⟨y92_94_2, y92_94_3, y92_94_4, y92_94_5, z295, y92_94_7, y92_94_8, rfl, (ib_wk b262 (by decide) (by decide)), (ib_wk b265 (by decide) (by decide)), (ib_wk b261 (by decide) (by decide)), By92_94_7⟩
                        have c300 : S299 94 = .inr (5, [.ref (ad 1), .ref (ad 20), .int y92_94_2, .int y92_94_3, .int y92_94_4, .int y92_94_5, .int z295, .int y92_94_7, .int y92_94_8]) := up_at eS299 rfl
                        refine lv_aload_n hx hb dX5_advance_177 rfl (lv_at hl 0 rfl) ?_
                        refine lv_dup hx hb dX5_advance_178 rfl ?_
                        refine xget E hQ 94 (by decide) c300 rfl 5 (by decide) q347 rfl dX5_advance_179 ?_
                        refine lv_iconst (v := 1) hx hb dX5_advance_182 (by decide) ?_
                        refine lv_iadd hx hb dX5_advance_183 ?_
                        refine lv_topi (fun z301 e302 => ?_)
                        have t303 := ib_add e302 b261 (by decide : Bd 1 (1) (1)) (by decide) (by decide)
                        have b304 : Bd z301 (1) (1200) := ib_addb t303 b261 (by decide : Bd 1 (1) (1))
                        have t303 : z301.toInt = y92_94_5.toInt + 1 := fold_add t303 rfl (by decide)
                        refine xputi E hs hQ 94 (by decide) c300 rfl 5 (by decide) q347 rfl rfl (Nat.le_of_ble_eq_true rfl) dX5_advance_184 (fun H locs S305 eS305 hQ => ?_)
                        have hI := invX_up_94 hI eS305 ⟨y92_94_2, y92_94_3, y92_94_4, z301, z295, y92_94_7, y92_94_8, rfl, (ib_wk b262 (by decide) (by decide)), (ib_wk b265 (by decide) (by decide)), (ib_wk b304 (by decide) (by decide)), By92_94_7⟩
                        have c306 : S305 94 = .inr (5, [.ref (ad 1), .ref (ad 20), .int y92_94_2, .int y92_94_3, .int y92_94_4, .int z301, .int z295, .int y92_94_7, .int y92_94_8]) := up_at eS305 rfl
                        refine lv_goto (tgt := 92) hx hb dX5_advance_187 (by decide) ?_
                        exact ih92 _ _ _ _ y92_94_2 y92_94_3 y92_94_4 z301 z295 y92_94_7 y92_94_8 (ib_wk b262 (by decide) (by decide)) (ib_wk b284 (by decide) (by decide)) (ib_wk b265 (by decide) (by decide)) (ib_wk b304 (by decide) (by decide)) b297 By92_94_7 (by omega) hI (up_o (up_o hf92 eS299 (by decide)) eS305 (by decide)) c306 hQ (lv_sub hl [0] rfl)
                  · have h307 := ib_ne k263
                    refine lv_aload_n hx hb dX5_advance_114 rfl (lv_at hl 0 rfl) ?_
                    refine xcVi E hs hQ hml hl.1 94 (gX5_isLong_94 l g ad hD S_92 hI ) mX5_isLong q605 (by decide) cl92_94 rfl rfl ⟨(Nat.le_of_ble_eq_true rfl), (Nat.le_of_ble_eq_true rfl)⟩ ⟨(Nat.le_of_ble_eq_true rfl), (Nat.le_of_ble_eq_true rfl)⟩ (Nat.le_of_ble_eq_true rfl) rfl dX5_advance_115 (fun r308 S308 H locs hp308 hQ _ => ?_)
                    obtain ⟨rfl, b308⟩ := hp308
                    refine lv_if_eq (tgt := 190) hx hb dX5_advance_118 (by decide) (fun k309 => ?_) (fun k309 => ?_)
                    · have h310 := ib_eq k309
                      have b311 : Bd r308 (0) (0) := ⟨(b308).1, ((rf_eq b308 (by decide : Bd 0 (0) (0)) h310).1).2⟩
                      exact xrv E hr hlk hQ (⟨hI, (o_trans (up_o (up_o (up_o (o_trans (up_o o_refl eS13 (by decide)) hf8 (by decide)) eS248 (by decide)) eS250 (by decide)) eS256 (by decide)) hf92 (by decide))⟩) dX5_advance_190
                    · have h312 := ib_ne k309
                      have b313 : Bd r308 (1) (1) := rf_nlo b308 (by decide : Bd 0 (0) (0)) h312
                      refine lv_aload_n hx hb dX5_advance_121 rfl (lv_at hl 0 rfl) ?_
                      refine xget E hQ 94 (by decide) cl92_94 rfl 0 (by decide) q342 rfl dX5_advance_122 ?_
                      refine lv_aload_n hx hb dX5_advance_125 rfl (lv_at hl 0 rfl) ?_
                      refine xget E hQ 94 (by decide) cl92_94 rfl 5 (by decide) q347 rfl dX5_advance_126 ?_
                      have c314 : S_92 1 = .inl (g.2 1, 1200, .inl f238) := ((hf92 1 (by decide)).trans (up_ne eS256 (by decide) (up_ne eS250 (by decide) (up_ne eS248 (by decide) c239))))
                      refine xbald E hQ 1 (by decide) c314 (ib_in b261 (by decide) (by decide)) dX5_advance_129 ?_
                      refine lv_topi (fun z315 e316 => ?_)
                      have b317 : Bd z315 (-128) (127) := (by rw [e316]; exact b240 _)
                      refine xcSi E hs hQ hml hl.1 (gX5_kindOf l g ad hD S_92 hI z315 b317) mX5_kindOf q602 rfl ⟨(Nat.le_of_ble_eq_true rfl), (Nat.le_of_ble_eq_true rfl)⟩ ⟨(Nat.le_of_ble_eq_true rfl), (Nat.le_of_ble_eq_true rfl)⟩ (Nat.le_of_ble_eq_true rfl) rfl dX5_advance_130 (fun r318 S318 H locs hp318 hQ => ?_)
                      obtain ⟨rfl, b318⟩ := hp318
                      refine lv_aload_n hx hb dX5_advance_133 rfl (lv_at hl 0 rfl) ?_
                      refine xget E hQ 94 (by decide) cl92_94 rfl 3 (by decide) q345 rfl dX5_advance_134 ?_
                      refine lv_icmp_ne (tgt := 190) hx hb dX5_advance_137 (by decide) (fun k319 => ?_) (fun k319 => ?_)
                      · have h320 := ib_ne k319
                        exact xrv E hr hlk hQ (⟨hI, (o_trans (up_o (up_o (up_o (o_trans (up_o o_refl eS13 (by decide)) hf8 (by decide)) eS248 (by decide)) eS250 (by decide)) eS256 (by decide)) hf92 (by decide))⟩) dX5_advance_190
                      · have h321 := ib_eq k319
                        have b322 : Bd y92_94_3 (1) (5) := ⟨((rf_eq b318 By92_94_3 h321).2).1, (By92_94_3).2⟩
                        refine lv_aload_n hx hb dX5_advance_140 rfl (lv_at hl 0 rfl) ?_
                        refine xget E hQ 94 (by decide) cl92_94 rfl 3 (by decide) q345 rfl dX5_advance_141 ?_
                        refine lv_iconst (v := 2) hx hb dX5_advance_144 (by decide) ?_
                        refine lv_icmp_ne (tgt := 177) hx hb dX5_advance_145 (by decide) (fun k323 => ?_) (fun k323 => ?_)
                        · have h324 := ib_ne k323
                          refine lv_aload_n hx hb dX5_advance_177 rfl (lv_at hl 0 rfl) ?_
                          refine lv_dup hx hb dX5_advance_178 rfl ?_
                          refine xget E hQ 94 (by decide) cl92_94 rfl 5 (by decide) q347 rfl dX5_advance_179 ?_
                          refine lv_iconst (v := 1) hx hb dX5_advance_182 (by decide) ?_
                          refine lv_iadd hx hb dX5_advance_183 ?_
                          refine lv_topi (fun z325 e326 => ?_)
                          have t327 := ib_add e326 b261 (by decide : Bd 1 (1) (1)) (by decide) (by decide)
                          have b328 : Bd z325 (1) (1200) := ib_addb t327 b261 (by decide : Bd 1 (1) (1))
                          have t327 : z325.toInt = y92_94_5.toInt + 1 := fold_add t327 rfl (by decide)
                          refine xputi E hs hQ 94 (by decide) cl92_94 rfl 5 (by decide) q347 rfl rfl (Nat.le_of_ble_eq_true rfl) dX5_advance_184 (fun H locs S329 eS329 hQ => ?_)
                          have hI := invX_up_94 hI eS329 ⟨y92_94_2, y92_94_3, y92_94_4, z325, y92_94_6, y92_94_7, y92_94_8, rfl, (ib_wk b262 (by decide) (by decide)), By92_94_4, (ib_wk b328 (by decide) (by decide)), By92_94_7⟩
                          have c330 : S329 94 = .inr (5, [.ref (ad 1), .ref (ad 20), .int y92_94_2, .int y92_94_3, .int y92_94_4, .int z325, .int y92_94_6, .int y92_94_7, .int y92_94_8]) := up_at eS329 rfl
                          refine lv_goto (tgt := 92) hx hb dX5_advance_187 (by decide) ?_
                          exact ih92 _ _ _ _ y92_94_2 y92_94_3 y92_94_4 z325 y92_94_6 y92_94_7 y92_94_8 (ib_wk b262 (by decide) (by decide)) (ib_wk b322 (by decide) (by decide)) By92_94_4 (ib_wk b328 (by decide) (by decide)) By92_94_6 By92_94_7 (by omega) hI (up_o hf92 eS329 (by decide)) c330 hQ (lv_sub hl [0] rfl)
                        · have h331 := ib_eq k323
                          have b332 : Bd y92_94_3 (2) (2) := ⟨((rf_eq b322 (by decide : Bd 2 (2) (2)) h331).1).1, ((rf_eq b322 (by decide : Bd 2 (2) (2)) h331).1).2⟩
                          refine lv_aload_n hx hb dX5_advance_148 rfl (lv_at hl 0 rfl) ?_
                          refine lv_aload_n hx hb dX5_advance_149 rfl (lv_at hl 0 rfl) ?_
                          refine xget E hQ 94 (by decide) cl92_94 rfl 6 (by decide) q348 rfl dX5_advance_150 ?_
                          refine lv_bipush (v := 10) hx hb dX5_advance_153 (by decide) ?_
                          refine lv_imul hx hb dX5_advance_155 ?_
                          refine lv_topi (fun z333 e334 => ?_)
                          refine lv_aload_n hx hb dX5_advance_156 rfl (lv_at hl 0 rfl) ?_
                          refine xget E hQ 94 (by decide) cl92_94 rfl 0 (by decide) q342 rfl dX5_advance_157 ?_
                          refine lv_aload_n hx hb dX5_advance_160 rfl (lv_at hl 0 rfl) ?_
                          refine xget E hQ 94 (by decide) cl92_94 rfl 5 (by decide) q347 rfl dX5_advance_161 ?_
                          refine xbald E hQ 1 (by decide) c314 (ib_in b261 (by decide) (by decide)) dX5_advance_164 ?_
                          refine lv_topi (fun z335 e336 => ?_)
                          have t337 : z335.toInt = z315.toInt := by rw [e336, e316]
                          have b338 : Bd z335 (-128) (127) := (by rw [Bd, t337]; exact b317)
                          refine lv_iadd hx hb dX5_advance_165 ?_
                          refine lv_topi (fun z339 e340 => ?_)
                          refine lv_bipush (v := 48) hx hb dX5_advance_166 (by decide) ?_
                          refine lv_isub hx hb dX5_advance_168 ?_
                          refine lv_topi (fun z341 e342 => ?_)
                          refine lv_ldc (v := 1000000) hx hb E.2.2.1 (E.2.2.2.1 _ q609) dX5_advance_169 ?_
                          refine va_mmin hx hb (hml.trans hl.1.symm) E.2.2.1 (E.2.2.2.1 _ q582) (E.2.2.2.1 _ q583) (E.2.2.2.1 _ q128) (E.2.2.2.1 _ q584) (Nat.le_of_ble_eq_true rfl) (Nat.le_of_ble_eq_true rfl) (Nat.le_of_ble_eq_true rfl) (Nat.le_of_ble_eq_true rfl) dX5_advance_171 ?_
                          refine lv_topi (fun z343 e344 => ?_)
                          have b345 : Bd z343 (-2147483648) (1000000) := ib_min e344 (ib_full z341) (by decide : Bd 1000000 (1000000) (1000000)) (by decide) (by decide) (by decide) (by decide)
                          have t346 := ib_minx (p := z341.toInt) (q := 1000000) e344 rfl (by decide)
                          refine xputi E hs hQ 94 (by decide) cl92_94 rfl 6 (by decide) q348 rfl rfl (Nat.le_of_ble_eq_true rfl) dX5_advance_174 (fun H locs S347 eS347 hQ => ?_)
                          have hI := invX_up_94 hI eS347 ⟨y92_94_2, y92_94_3, y92_94_4, y92_94_5, z343, y92_94_7, y92_94_8, rfl, (ib_wk b262 (by decide) (by decide)), By92_94_4, (ib_wk b261 (by decide) (by decide)), By92_94_7⟩
                          have c348 : S347 94 = .inr (5, [.ref (ad 1), .ref (ad 20), .int y92_94_2, .int y92_94_3, .int y92_94_4, .int y92_94_5, .int z343, .int y92_94_7, .int y92_94_8]) := up_at eS347 rfl
                          refine lv_aload_n hx hb dX5_advance_177 rfl (lv_at hl 0 rfl) ?_
                          refine lv_dup hx hb dX5_advance_178 rfl ?_
                          refine xget E hQ 94 (by decide) c348 rfl 5 (by decide) q347 rfl dX5_advance_179 ?_
                          refine lv_iconst (v := 1) hx hb dX5_advance_182 (by decide) ?_
                          refine lv_iadd hx hb dX5_advance_183 ?_
                          refine lv_topi (fun z349 e350 => ?_)
                          have t351 := ib_add e350 b261 (by decide : Bd 1 (1) (1)) (by decide) (by decide)
                          have b352 : Bd z349 (1) (1200) := ib_addb t351 b261 (by decide : Bd 1 (1) (1))
                          have t351 : z349.toInt = y92_94_5.toInt + 1 := fold_add t351 rfl (by decide)
                          refine xputi E hs hQ 94 (by decide) c348 rfl 5 (by decide) q347 rfl rfl (Nat.le_of_ble_eq_true rfl) dX5_advance_184 (fun H locs S353 eS353 hQ => ?_)
                          have hI := invX_up_94 hI eS353 ⟨y92_94_2, y92_94_3, y92_94_4, z349, z343, y92_94_7, y92_94_8, rfl, (ib_wk b262 (by decide) (by decide)), By92_94_4, (ib_wk b352 (by decide) (by decide)), By92_94_7⟩
                          have c354 : S353 94 = .inr (5, [.ref (ad 1), .ref (ad 20), .int y92_94_2, .int y92_94_3, .int y92_94_4, .int z349, .int z343, .int y92_94_7, .int y92_94_8]) := up_at eS353 rfl
                          refine lv_goto (tgt := 92) hx hb dX5_advance_187 (by decide) ?_
                          exact ih92 _ _ _ _ y92_94_2 y92_94_3 y92_94_4 z349 z343 y92_94_7 y92_94_8 (ib_wk b262 (by decide) (by decide)) (ib_wk b332 (by decide) (by decide)) By92_94_4 (ib_wk b352 (by decide) (by decide)) b345 By92_94_7 (by omega) hI (up_o (up_o hf92 eS347 (by decide)) eS353 (by decide)) c354 hQ (lv_sub hl [0] rfl)
            obtain ⟨n92, hn92⟩ := fu_n ((-1) * y8_94_4.toInt + 1200)
            exact loop92 n92 _ _ _ _ y8_94_2 0 y8_94_4 y8_94_4 0 y8_94_7 y8_94_8 (ib_wk b254 (by decide) (by decide)) (ib_wk (by decide : Bd 0 (0) (0)) (by decide) (by decide)) (ib_wk b255 (by decide) (by decide)) (ib_wk b255 (by decide) (by decide)) (ib_wk (by decide : Bd 0 (0) (0)) (by decide) (by decide)) By8_94_7 (by have : (0 : Int32).toInt = 0 := (by decide); omega) hI o_refl c257 hQ (lv_sub hl [0] rfl)
          · have h355 := ib_nle k252
            refine lv_aload_n hx hb dX5_advance_73 rfl (lv_at hl 0 rfl) ?_
            refine xget E hQ 94 (by decide) c251 rfl 0 (by decide) q342 rfl dX5_advance_74 ?_
            refine lv_aload_n hx hb dX5_advance_77 rfl (lv_at hl 0 rfl) ?_
            refine xget E hQ 94 (by decide) c251 rfl 4 (by decide) q346 rfl dX5_advance_78 ?_
            have c356 : S250 1 = .inl (g.2 1, 1200, .inl f238) := (up_ne eS250 (by decide) (up_ne eS248 (by decide) c239))
            refine xbald E hQ 1 (by decide) c356 (ib_in b236 (by decide) (by decide)) dX5_advance_81 ?_
            refine lv_topi (fun z357 e358 => ?_)
            have t359 : z357.toInt = z241.toInt := by rw [e358, e242]
            have b360 : Bd z357 (-128) (127) := (by rw [Bd, t359]; exact b243)
            refine xcSi E hs hQ hml hl.1 (gX5_kindOf l g ad hD S250 hI z357 b360) mX5_kindOf q602 rfl ⟨(Nat.le_of_ble_eq_true rfl), (Nat.le_of_ble_eq_true rfl)⟩ ⟨(Nat.le_of_ble_eq_true rfl), (Nat.le_of_ble_eq_true rfl)⟩ (Nat.le_of_ble_eq_true rfl) rfl dX5_advance_82 (fun r361 S361 H locs hp361 hQ => ?_)
            obtain ⟨rfl, b361⟩ := hp361
            refine lv_goto (tgt := 89) hx hb dX5_advance_85 (by decide) ?_
            refine xputi E hs hQ 94 (by decide) c251 rfl 3 (by decide) q345 rfl rfl (Nat.le_of_ble_eq_true rfl) dX5_advance_89 (fun H locs S362 eS362 hQ => ?_)
            have hI := invX_up_94 hI eS362 ⟨y8_94_2, r361, y8_94_4, y8_94_4, 0, y8_94_7, y8_94_8, rfl, (ib_wk b237 (by decide) (by decide)), (ib_wk b236 (by decide) (by decide)), (ib_wk b236 (by decide) (by decide)), By8_94_7⟩
            have c363 : S362 94 = .inr (5, [.ref (ad 1), .ref (ad 20), .int y8_94_2, .int r361, .int y8_94_4, .int y8_94_4, .int 0, .int y8_94_7, .int y8_94_8]) := up_at eS362 rfl
            have loop92 : ∀ (n : Nat) (S_92 : SS) (H : Heap) (locs : List Loc) (ls : Array Slot) (y92_94_2 : Int32) (y92_94_3 : Int32) (y92_94_4 : Int32) (y92_94_5 : Int32) (y92_94_6 : Int32) (y92_94_7 : Int32) (y92_94_8 : Int32), Bd y92_94_2 (0) (1200) → Bd y92_94_3 (0) (5) → Bd y92_94_4 (0) (1200) → Bd y92_94_5 (0) (1200) → Bd y92_94_6 (-2147483648) (1000000) → Bd y92_94_7 (0) (3) → (-1) * y92_94_5.toInt + 1200 < ((n : Nat) : Int) → InvX g ad S_92 → (∀ j, j ∉ ([94] : List Nat) → S_92 j = S362 j) → S_92 94 = .inr (5, [.ref (ad 1), .ref (ad 20), .int y92_94_2, .int y92_94_3, .int y92_94_4, .int y92_94_5, .int y92_94_6, .int y92_94_7, .int y92_94_8]) → Hp g ad 122 S_92 (FA ad 122) s.heap H locs → lv_has ls 1 [(0, .ref (ad 94))] → W p l e (Rm 1) s m [.ref (ad 94)].toArray below meth c H locs 0 0 (MQ below (va_Qv (fun S' => InvX g ad S' ∧ (∀ j, j ∉ ([94] : List Nat) → S' j = S j)) (QB g ad 122) (FA ad 122)) [.ref (ad 94)].toArray s 0 0 (FA ad 122)) (F0 m 92 ls []) := by
              intro n
              induction n with
              | zero => intro S_92 H locs ls y92_94_2 y92_94_3 y92_94_4 y92_94_5 y92_94_6 y92_94_7 y92_94_8 By92_94_2 By92_94_3 By92_94_4 By92_94_5 By92_94_6 By92_94_7 hn92_ hI hf92 cl92_94 hQ hl; exfalso; have := (By92_94_5).2; omega
              | succ n92_ ih92 =>
                intro S_92 H locs ls y92_94_2 y92_94_3 y92_94_4 y92_94_5 y92_94_6 y92_94_7 y92_94_8 By92_94_2 By92_94_3 By92_94_4 By92_94_5 By92_94_6 By92_94_7 hn92_ hI hf92 cl92_94 hQ hl
                refine lv_aload_n hx hb dX5_advance_92 rfl (lv_at hl 0 rfl) ?_
                refine xget E hQ 94 (by decide) cl92_94 rfl 5 (by decide) q347 rfl dX5_advance_93 ?_
                refine lv_aload_n hx hb dX5_advance_96 rfl (lv_at hl 0 rfl) ?_
                refine xget E hQ 94 (by decide) cl92_94 rfl 2 (by decide) q344 rfl dX5_advance_97 ?_
                refine lv_icmp_ge (tgt := 190) hx hb dX5_advance_100 (by decide) (fun k364 => ?_) (fun k364 => ?_)
                · have h365 := ib_le k364
                  exact xrv E hr hlk hQ (⟨hI, (o_trans (up_o (up_o (up_o (o_trans (up_o o_refl eS13 (by decide)) hf8 (by decide)) eS248 (by decide)) eS250 (by decide)) eS362 (by decide)) hf92 (by decide))⟩) dX5_advance_190
                · have h366 := ib_nle k364
                  have b367 : Bd y92_94_5 (0) (1199) := ⟨(By92_94_5).1, ((rf_lt By92_94_5 By92_94_2 h366).1).2⟩
                  have b368 : Bd y92_94_2 (1) (1200) := ⟨((rf_lt By92_94_5 By92_94_2 h366).2).1, (By92_94_2).2⟩
                  refine lv_aload_n hx hb dX5_advance_103 rfl (lv_at hl 0 rfl) ?_
                  refine xget E hQ 94 (by decide) cl92_94 rfl 5 (by decide) q347 rfl dX5_advance_104 ?_
                  refine lv_aload_n hx hb dX5_advance_107 rfl (lv_at hl 0 rfl) ?_
                  refine xget E hQ 94 (by decide) cl92_94 rfl 4 (by decide) q346 rfl dX5_advance_108 ?_
                  refine lv_icmp_eq (tgt := 121) hx hb dX5_advance_111 (by decide) (fun k369 => ?_) (fun k369 => ?_)
                  · have h370 := ib_eq k369
                    have b371 : Bd y92_94_4 (0) (1199) := ⟨(By92_94_4).1, ((rf_eq b367 By92_94_4 h370).2).2⟩
                    refine lv_aload_n hx hb dX5_advance_121 rfl (lv_at hl 0 rfl) ?_
                    refine xget E hQ 94 (by decide) cl92_94 rfl 0 (by decide) q342 rfl dX5_advance_122 ?_
                    refine lv_aload_n hx hb dX5_advance_125 rfl (lv_at hl 0 rfl) ?_
                    refine xget E hQ 94 (by decide) cl92_94 rfl 5 (by decide) q347 rfl dX5_advance_126 ?_
                    have c372 : S_92 1 = .inl (g.2 1, 1200, .inl f238) := ((hf92 1 (by decide)).trans (up_ne eS362 (by decide) c356))
                    refine xbald E hQ 1 (by decide) c372 (ib_in b367 (by decide) (by decide)) dX5_advance_129 ?_
                    refine lv_topi (fun z373 e374 => ?_)
                    have b375 : Bd z373 (-128) (127) := (by rw [e374]; exact b240 _)
                    refine xcSi E hs hQ hml hl.1 (gX5_kindOf l g ad hD S_92 hI z373 b375) mX5_kindOf q602 rfl ⟨(Nat.le_of_ble_eq_true rfl), (Nat.le_of_ble_eq_true rfl)⟩ ⟨(Nat.le_of_ble_eq_true rfl), (Nat.le_of_ble_eq_true rfl)⟩ (Nat.le_of_ble_eq_true rfl) rfl dX5_advance_130 (fun r376 S376 H locs hp376 hQ => ?_)
                    obtain ⟨rfl, b376⟩ := hp376
                    refine lv_aload_n hx hb dX5_advance_133 rfl (lv_at hl 0 rfl) ?_
                    refine xget E hQ 94 (by decide) cl92_94 rfl 3 (by decide) q345 rfl dX5_advance_134 ?_
                    refine lv_icmp_ne (tgt := 190) hx hb dX5_advance_137 (by decide) (fun k377 => ?_) (fun k377 => ?_)
                    · have h378 := ib_ne k377
                      exact xrv E hr hlk hQ (⟨hI, (o_trans (up_o (up_o (up_o (o_trans (up_o o_refl eS13 (by decide)) hf8 (by decide)) eS248 (by decide)) eS250 (by decide)) eS362 (by decide)) hf92 (by decide))⟩) dX5_advance_190
                    · have h379 := ib_eq k377
                      have b380 : Bd y92_94_3 (1) (5) := ⟨((rf_eq b376 By92_94_3 h379).2).1, (By92_94_3).2⟩
                      refine lv_aload_n hx hb dX5_advance_140 rfl (lv_at hl 0 rfl) ?_
                      refine xget E hQ 94 (by decide) cl92_94 rfl 3 (by decide) q345 rfl dX5_advance_141 ?_
                      refine lv_iconst (v := 2) hx hb dX5_advance_144 (by decide) ?_
                      refine lv_icmp_ne (tgt := 177) hx hb dX5_advance_145 (by decide) (fun k381 => ?_) (fun k381 => ?_)
                      · have h382 := ib_ne k381
                        refine lv_aload_n hx hb dX5_advance_177 rfl (lv_at hl 0 rfl) ?_
                        refine lv_dup hx hb dX5_advance_178 rfl ?_
                        refine xget E hQ 94 (by decide) cl92_94 rfl 5 (by decide) q347 rfl dX5_advance_179 ?_
                        refine lv_iconst (v := 1) hx hb dX5_advance_182 (by decide) ?_
                        refine lv_iadd hx hb dX5_advance_183 ?_
                        refine lv_topi (fun z383 e384 => ?_)
                        have t385 := ib_add e384 b367 (by decide : Bd 1 (1) (1)) (by decide) (by decide)
                        have b386 : Bd z383 (1) (1200) := ib_addb t385 b367 (by decide : Bd 1 (1) (1))
                        have t385 : z383.toInt = y92_94_5.toInt + 1 := fold_add t385 rfl (by decide)
                        refine xputi E hs hQ 94 (by decide) cl92_94 rfl 5 (by decide) q347 rfl rfl (Nat.le_of_ble_eq_true rfl) dX5_advance_184 (fun H locs S387 eS387 hQ => ?_)
                        have hI := invX_up_94 hI eS387 ⟨y92_94_2, y92_94_3, y92_94_4, z383, y92_94_6, y92_94_7, y92_94_8, rfl, (ib_wk b368 (by decide) (by decide)), (ib_wk b371 (by decide) (by decide)), (ib_wk b386 (by decide) (by decide)), By92_94_7⟩
                        have c388 : S387 94 = .inr (5, [.ref (ad 1), .ref (ad 20), .int y92_94_2, .int y92_94_3, .int y92_94_4, .int z383, .int y92_94_6, .int y92_94_7, .int y92_94_8]) := up_at eS387 rfl
                        refine lv_goto (tgt := 92) hx hb dX5_advance_187 (by decide) ?_
                        exact ih92 _ _ _ _ y92_94_2 y92_94_3 y92_94_4 z383 y92_94_6 y92_94_7 y92_94_8 (ib_wk b368 (by decide) (by decide)) (ib_wk b380 (by decide) (by decide)) (ib_wk b371 (by decide) (by decide)) (ib_wk b386 (by decide) (by decide)) By92_94_6 By92_94_7 (by omega) hI (up_o hf92 eS387 (by decide)) c388 hQ (lv_sub hl [0] rfl)
                      · have h389 := ib_eq k381
                        have b390 : Bd y92_94_3 (2) (2) := ⟨((rf_eq b380 (by decide : Bd 2 (2) (2)) h389).1).1, ((rf_eq b380 (by decide : Bd 2 (2) (2)) h389).1).2⟩
                        refine lv_aload_n hx hb dX5_advance_148 rfl (lv_at hl 0 rfl) ?_
                        refine lv_aload_n hx hb dX5_advance_149 rfl (lv_at hl 0 rfl) ?_
                        refine xget E hQ 94 (by decide) cl92_94 rfl 6 (by decide) q348 rfl dX5_advance_150 ?_
                        refine lv_bipush (v := 10) hx hb dX5_advance_153 (by decide) ?_
                        refine lv_imul hx hb dX5_advance_155 ?_
                        refine lv_topi (fun z391 e392 => ?_)
                        refine lv_aload_n hx hb dX5_advance_156 rfl (lv_at hl 0 rfl) ?_
                        refine xget E hQ 94 (by decide) cl92_94 rfl 0 (by decide) q342 rfl dX5_advance_157 ?_
                        refine lv_aload_n hx hb dX5_advance_160 rfl (lv_at hl 0 rfl) ?_
                        refine xget E hQ 94 (by decide) cl92_94 rfl 5 (by decide) q347 rfl dX5_advance_161 ?_
                        refine xbald E hQ 1 (by decide) c372 (ib_in b367 (by decide) (by decide)) dX5_advance_164 ?_
                        refine lv_topi (fun z393 e394 => ?_)
                        have t395 : z393.toInt = z373.toInt := by rw [e394, e374]
                        have b396 : Bd z393 (-128) (127) := (by rw [Bd, t395]; exact b375)
                        refine lv_iadd hx hb dX5_advance_165 ?_
                        refine lv_topi (fun z397 e398 => ?_)
                        refine lv_bipush (v := 48) hx hb dX5_advance_166 (by decide) ?_
                        refine lv_isub hx hb dX5_advance_168 ?_
                        refine lv_topi (fun z399 e400 => ?_)
                        refine lv_ldc (v := 1000000) hx hb E.2.2.1 (E.2.2.2.1 _ q609) dX5_advance_169 ?_
                        refine va_mmin hx hb (hml.trans hl.1.symm) E.2.2.1 (E.2.2.2.1 _ q582) (E.2.2.2.1 _ q583) (E.2.2.2.1 _ q128) (E.2.2.2.1 _ q584) (Nat.le_of_ble_eq_true rfl) (Nat.le_of_ble_eq_true rfl) (Nat.le_of_ble_eq_true rfl) (Nat.le_of_ble_eq_true rfl) dX5_advance_171 ?_
                        refine lv_topi (fun z401 e402 => ?_)
                        have b403 : Bd z401 (-2147483648) (1000000) := ib_min e402 (ib_full z399) (by decide : Bd 1000000 (1000000) (1000000)) (by decide) (by decide) (by decide) (by decide)
                        have t404 := ib_minx (p := z399.toInt) (q := 1000000) e402 rfl (by decide)
                        refine xputi E hs hQ 94 (by decide) cl92_94 rfl 6 (by decide) q348 rfl rfl (Nat.le_of_ble_eq_true rfl) dX5_advance_174 (fun H locs S405 eS405 hQ => ?_)
                        have hI := invX_up_94 hI eS405 ⟨y92_94_2, y92_94_3, y92_94_4, y92_94_5, z401, y92_94_7, y92_94_8, rfl, (ib_wk b368 (by decide) (by decide)), (ib_wk b371 (by decide) (by decide)), (ib_wk b367 (by decide) (by decide)), By92_94_7⟩
                        have c406 : S405 94 = .inr (5, [.ref (ad 1), .ref (ad 20), .int y92_94_2, .int y92_94_3, .int y92_94_4, .int y92_94_5, .int z401, .int y92_94_7, .int y92_94_8]) := up_at eS405 rfl
                        refine lv_aload_n hx hb dX5_advance_177 rfl (lv_at hl 0 rfl) ?_
                        refine lv_dup hx hb dX5_advance_178 rfl ?_
                        refine xget E hQ 94 (by decide) c406 rfl 5 (by decide) q347 rfl dX5_advance_179 ?_
                        refine lv_iconst (v := 1) hx hb dX5_advance_182 (by decide) ?_
                        refine lv_iadd hx hb dX5_advance_183 ?_
                        refine lv_topi (fun z407 e408 => ?_)
                        have t409 := ib_add e408 b367 (by decide : Bd 1 (1) (1)) (by decide) (by decide)
                        have b410 : Bd z407 (1) (1200) := ib_addb t409 b367 (by decide : Bd 1 (1) (1))
                        have t409 : z407.toInt = y92_94_5.toInt + 1 := fold_add t409 rfl (by decide)
                        refine xputi E hs hQ 94 (by decide) c406 rfl 5 (by decide) q347 rfl rfl (Nat.le_of_ble_eq_true rfl) dX5_advance_184 (fun H locs S411 eS411 hQ => ?_)
                        have hI := invX_up_94 hI eS411 ⟨y92_94_2, y92_94_3, y92_94_4, z407, z401, y92_94_7, y92_94_8, rfl, (ib_wk b368 (by decide) (by decide)), (ib_wk b371 (by decide) (by decide)), (ib_wk b410 (by decide) (by decide)), By92_94_7⟩
                        have c412 : S411 94 = .inr (5, [.ref (ad 1), .ref (ad 20), .int y92_94_2, .int y92_94_3, .int y92_94_4, .int z407, .int z401, .int y92_94_7, .int y92_94_8]) := up_at eS411 rfl
                        refine lv_goto (tgt := 92) hx hb dX5_advance_187 (by decide) ?_
                        exact ih92 _ _ _ _ y92_94_2 y92_94_3 y92_94_4 z407 z401 y92_94_7 y92_94_8 (ib_wk b368 (by decide) (by decide)) (ib_wk b390 (by decide) (by decide)) (ib_wk b371 (by decide) (by decide)) (ib_wk b410 (by decide) (by decide)) b403 By92_94_7 (by omega) hI (up_o (up_o hf92 eS405 (by decide)) eS411 (by decide)) c412 hQ (lv_sub hl [0] rfl)
                  · have h413 := ib_ne k369
                    refine lv_aload_n hx hb dX5_advance_114 rfl (lv_at hl 0 rfl) ?_
                    refine xcVi E hs hQ hml hl.1 94 (gX5_isLong_94 l g ad hD S_92 hI ) mX5_isLong q605 (by decide) cl92_94 rfl rfl ⟨(Nat.le_of_ble_eq_true rfl), (Nat.le_of_ble_eq_true rfl)⟩ ⟨(Nat.le_of_ble_eq_true rfl), (Nat.le_of_ble_eq_true rfl)⟩ (Nat.le_of_ble_eq_true rfl) rfl dX5_advance_115 (fun r414 S414 H locs hp414 hQ _ => ?_)
                    obtain ⟨rfl, b414⟩ := hp414
                    refine lv_if_eq (tgt := 190) hx hb dX5_advance_118 (by decide) (fun k415 => ?_) (fun k415 => ?_)
                    · have h416 := ib_eq k415
                      have b417 : Bd r414 (0) (0) := ⟨(b414).1, ((rf_eq b414 (by decide : Bd 0 (0) (0)) h416).1).2⟩
                      exact xrv E hr hlk hQ (⟨hI, (o_trans (up_o (up_o (up_o (o_trans (up_o o_refl eS13 (by decide)) hf8 (by decide)) eS248 (by decide)) eS250 (by decide)) eS362 (by decide)) hf92 (by decide))⟩) dX5_advance_190
                    · have h418 := ib_ne k415
                      have b419 : Bd r414 (1) (1) := rf_nlo b414 (by decide : Bd 0 (0) (0)) h418
                      refine lv_aload_n hx hb dX5_advance_121 rfl (lv_at hl 0 rfl) ?_
                      refine xget E hQ 94 (by decide) cl92_94 rfl 0 (by decide) q342 rfl dX5_advance_122 ?_
                      refine lv_aload_n hx hb dX5_advance_125 rfl (lv_at hl 0 rfl) ?_
                      refine xget E hQ 94 (by decide) cl92_94 rfl 5 (by decide) q347 rfl dX5_advance_126 ?_
                      have c420 : S_92 1 = .inl (g.2 1, 1200, .inl f238) := ((hf92 1 (by decide)).trans (up_ne eS362 (by decide) c356))
                      refine xbald E hQ 1 (by decide) c420 (ib_in b367 (by decide) (by decide)) dX5_advance_129 ?_
                      refine lv_topi (fun z421 e422 => ?_)
                      have b423 : Bd z421 (-128) (127) := (by rw [e422]; exact b240 _)
                      refine xcSi E hs hQ hml hl.1 (gX5_kindOf l g ad hD S_92 hI z421 b423) mX5_kindOf q602 rfl ⟨(Nat.le_of_ble_eq_true rfl), (Nat.le_of_ble_eq_true rfl)⟩ ⟨(Nat.le_of_ble_eq_true rfl), (Nat.le_of_ble_eq_true rfl)⟩ (Nat.le_of_ble_eq_true rfl) rfl dX5_advance_130 (fun r424 S424 H locs hp424 hQ => ?_)
                      obtain ⟨rfl, b424⟩ := hp424
                      refine lv_aload_n hx hb dX5_advance_133 rfl (lv_at hl 0 rfl) ?_
                      refine xget E hQ 94 (by decide) cl92_94 rfl 3 (by decide) q345 rfl dX5_advance_134 ?_
                      refine lv_icmp_ne (tgt := 190) hx hb dX5_advance_137 (by decide) (fun k425 => ?_) (fun k425 => ?_)
                      · have h426 := ib_ne k425
                        exact xrv E hr hlk hQ (⟨hI, (o_trans (up_o (up_o (up_o (o_trans (up_o o_refl eS13 (by decide)) hf8 (by decide)) eS248 (by decide)) eS250 (by decide)) eS362 (by decide)) hf92 (by decide))⟩) dX5_advance_190
                      · have h427 := ib_eq k425
                        have b428 : Bd y92_94_3 (1) (5) := ⟨((rf_eq b424 By92_94_3 h427).2).1, (By92_94_3).2⟩
                        refine lv_aload_n hx hb dX5_advance_140 rfl (lv_at hl 0 rfl) ?_
                        refine xget E hQ 94 (by decide) cl92_94 rfl 3 (by decide) q345 rfl dX5_advance_141 ?_
                        refine lv_iconst (v := 2) hx hb dX5_advance_144 (by decide) ?_
                        refine lv_icmp_ne (tgt := 177) hx hb dX5_advance_145 (by decide) (fun k429 => ?_) (fun k429 => ?_)
                        · have h430 := ib_ne k429
                          refine lv_aload_n hx hb dX5_advance_177 rfl (lv_at hl 0 rfl) ?_
                          refine lv_dup hx hb dX5_advance_178 rfl ?_
                          refine xget E hQ 94 (by decide) cl92_94 rfl 5 (by decide) q347 rfl dX5_advance_179 ?_
                          refine lv_iconst (v := 1) hx hb dX5_advance_182 (by decide) ?_
                          refine lv_iadd hx hb dX5_advance_183 ?_
                          refine lv_topi (fun z431 e432 => ?_)
                          have t433 := ib_add e432 b367 (by decide : Bd 1 (1) (1)) (by decide) (by decide)
                          have b434 : Bd z431 (1) (1200) := ib_addb t433 b367 (by decide : Bd 1 (1) (1))
                          have t433 : z431.toInt = y92_94_5.toInt + 1 := fold_add t433 rfl (by decide)
                          refine xputi E hs hQ 94 (by decide) cl92_94 rfl 5 (by decide) q347 rfl rfl (Nat.le_of_ble_eq_true rfl) dX5_advance_184 (fun H locs S435 eS435 hQ => ?_)
                          have hI := invX_up_94 hI eS435 ⟨y92_94_2, y92_94_3, y92_94_4, z431, y92_94_6, y92_94_7, y92_94_8, rfl, (ib_wk b368 (by decide) (by decide)), By92_94_4, (ib_wk b434 (by decide) (by decide)), By92_94_7⟩
                          have c436 : S435 94 = .inr (5, [.ref (ad 1), .ref (ad 20), .int y92_94_2, .int y92_94_3, .int y92_94_4, .int z431, .int y92_94_6, .int y92_94_7, .int y92_94_8]) := up_at eS435 rfl
                          refine lv_goto (tgt := 92) hx hb dX5_advance_187 (by decide) ?_
                          exact ih92 _ _ _ _ y92_94_2 y92_94_3 y92_94_4 z431 y92_94_6 y92_94_7 y92_94_8 (ib_wk b368 (by decide) (by decide)) (ib_wk b428 (by decide) (by decide)) By92_94_4 (ib_wk b434 (by decide) (by decide)) By92_94_6 By92_94_7 (by omega) hI (up_o hf92 eS435 (by decide)) c436 hQ (lv_sub hl [0] rfl)
                        · have h437 := ib_eq k429
                          have b438 : Bd y92_94_3 (2) (2) := ⟨((rf_eq b428 (by decide : Bd 2 (2) (2)) h437).1).1, ((rf_eq b428 (by decide : Bd 2 (2) (2)) h437).1).2⟩
                          refine lv_aload_n hx hb dX5_advance_148 rfl (lv_at hl 0 rfl) ?_
                          refine lv_aload_n hx hb dX5_advance_149 rfl (lv_at hl 0 rfl) ?_
                          refine xget E hQ 94 (by decide) cl92_94 rfl 6 (by decide) q348 rfl dX5_advance_150 ?_
                          refine lv_bipush (v := 10) hx hb dX5_advance_153 (by decide) ?_
                          refine lv_imul hx hb dX5_advance_155 ?_
                          refine lv_topi (fun z439 e440 => ?_)
                          refine lv_aload_n hx hb dX5_advance_156 rfl (lv_at hl 0 rfl) ?_
                          refine xget E hQ 94 (by decide) cl92_94 rfl 0 (by decide) q342 rfl dX5_advance_157 ?_
                          refine lv_aload_n hx hb dX5_advance_160 rfl (lv_at hl 0 rfl) ?_
                          refine xget E hQ 94 (by decide) cl92_94 rfl 5 (by decide) q347 rfl dX5_advance_161 ?_
                          refine xbald E hQ 1 (by decide) c420 (ib_in b367 (by decide) (by decide)) dX5_advance_164 ?_
                          refine lv_topi (fun z441 e442 => ?_)
                          have t443 : z441.toInt = z421.toInt := by rw [e442, e422]
                          have b444 : Bd z441 (-128) (127) := (by rw [Bd, t443]; exact b423)
                          refine lv_iadd hx hb dX5_advance_165 ?_
                          refine lv_topi (fun z445 e446 => ?_)
                          refine lv_bipush (v := 48) hx hb dX5_advance_166 (by decide) ?_
                          refine lv_isub hx hb dX5_advance_168 ?_
                          refine lv_topi (fun z447 e448 => ?_)
                          refine lv_ldc (v := 1000000) hx hb E.2.2.1 (E.2.2.2.1 _ q609) dX5_advance_169 ?_
                          refine va_mmin hx hb (hml.trans hl.1.symm) E.2.2.1 (E.2.2.2.1 _ q582) (E.2.2.2.1 _ q583) (E.2.2.2.1 _ q128) (E.2.2.2.1 _ q584) (Nat.le_of_ble_eq_true rfl) (Nat.le_of_ble_eq_true rfl) (Nat.le_of_ble_eq_true rfl) (Nat.le_of_ble_eq_true rfl) dX5_advance_171 ?_
                          refine lv_topi (fun z449 e450 => ?_)
                          have b451 : Bd z449 (-2147483648) (1000000) := ib_min e450 (ib_full z447) (by decide : Bd 1000000 (1000000) (1000000)) (by decide) (by decide) (by decide) (by decide)
                          have t452 := ib_minx (p := z447.toInt) (q := 1000000) e450 rfl (by decide)
                          refine xputi E hs hQ 94 (by decide) cl92_94 rfl 6 (by decide) q348 rfl rfl (Nat.le_of_ble_eq_true rfl) dX5_advance_174 (fun H locs S453 eS453 hQ => ?_)
                          have hI := invX_up_94 hI eS453 ⟨y92_94_2, y92_94_3, y92_94_4, y92_94_5, z449, y92_94_7, y92_94_8, rfl, (ib_wk b368 (by decide) (by decide)), By92_94_4, (ib_wk b367 (by decide) (by decide)), By92_94_7⟩
                          have c454 : S453 94 = .inr (5, [.ref (ad 1), .ref (ad 20), .int y92_94_2, .int y92_94_3, .int y92_94_4, .int y92_94_5, .int z449, .int y92_94_7, .int y92_94_8]) := up_at eS453 rfl
                          refine lv_aload_n hx hb dX5_advance_177 rfl (lv_at hl 0 rfl) ?_
                          refine lv_dup hx hb dX5_advance_178 rfl ?_
                          refine xget E hQ 94 (by decide) c454 rfl 5 (by decide) q347 rfl dX5_advance_179 ?_
                          refine lv_iconst (v := 1) hx hb dX5_advance_182 (by decide) ?_
                          refine lv_iadd hx hb dX5_advance_183 ?_
                          refine lv_topi (fun z455 e456 => ?_)
                          have t457 := ib_add e456 b367 (by decide : Bd 1 (1) (1)) (by decide) (by decide)
                          have b458 : Bd z455 (1) (1200) := ib_addb t457 b367 (by decide : Bd 1 (1) (1))
                          have t457 : z455.toInt = y92_94_5.toInt + 1 := fold_add t457 rfl (by decide)
                          refine xputi E hs hQ 94 (by decide) c454 rfl 5 (by decide) q347 rfl rfl (Nat.le_of_ble_eq_true rfl) dX5_advance_184 (fun H locs S459 eS459 hQ => ?_)
                          have hI := invX_up_94 hI eS459 ⟨y92_94_2, y92_94_3, y92_94_4, z455, z449, y92_94_7, y92_94_8, rfl, (ib_wk b368 (by decide) (by decide)), By92_94_4, (ib_wk b458 (by decide) (by decide)), By92_94_7⟩
                          have c460 : S459 94 = .inr (5, [.ref (ad 1), .ref (ad 20), .int y92_94_2, .int y92_94_3, .int y92_94_4, .int z455, .int z449, .int y92_94_7, .int y92_94_8]) := up_at eS459 rfl
                          refine lv_goto (tgt := 92) hx hb dX5_advance_187 (by decide) ?_
                          exact ih92 _ _ _ _ y92_94_2 y92_94_3 y92_94_4 z455 z449 y92_94_7 y92_94_8 (ib_wk b368 (by decide) (by decide)) (ib_wk b438 (by decide) (by decide)) By92_94_4 (ib_wk b458 (by decide) (by decide)) b451 By92_94_7 (by omega) hI (up_o (up_o hf92 eS453 (by decide)) eS459 (by decide)) c460 hQ (lv_sub hl [0] rfl)
            obtain ⟨n92, hn92⟩ := fu_n ((-1) * y8_94_4.toInt + 1200)
            exact loop92 n92 _ _ _ _ y8_94_2 r361 y8_94_4 y8_94_4 0 y8_94_7 y8_94_8 (ib_wk b237 (by decide) (by decide)) (ib_wk b361 (by decide) (by decide)) (ib_wk b236 (by decide) (by decide)) (ib_wk b236 (by decide) (by decide)) (ib_wk (by decide : Bd 0 (0) (0)) (by decide) (by decide)) By8_94_7 (by have : (0 : Int32).toInt = 0 := (by decide); omega) hI o_refl c363 hQ (lv_sub hl [0] rfl)
        · have h461 := ib_eq k245
          have b462 : Bd r244 (5) (5) := ⟨((rf_eq b244 (by decide : Bd 5 (5) (5)) h461).1).1, (b244).2⟩
          refine lv_aload_n hx hb dX5_advance_35 rfl (lv_at hl 0 rfl) ?_
          refine lv_dup hx hb dX5_advance_36 rfl ?_
          refine xget E hQ 94 (by decide) cl8_94 rfl 4 (by decide) q346 rfl dX5_advance_37 ?_
          refine lv_iconst (v := 1) hx hb dX5_advance_40 (by decide) ?_
          refine lv_iadd hx hb dX5_advance_41 ?_
          refine lv_topi (fun z463 e464 => ?_)
          have t465 := ib_add e464 b236 (by decide : Bd 1 (1) (1)) (by decide) (by decide)
          have b466 : Bd z463 (1) (1200) := ib_addb t465 b236 (by decide : Bd 1 (1) (1))
          have t465 : z463.toInt = y8_94_4.toInt + 1 := fold_add t465 rfl (by decide)
          refine xputi E hs hQ 94 (by decide) cl8_94 rfl 4 (by decide) q346 rfl rfl (Nat.le_of_ble_eq_true rfl) dX5_advance_42 (fun H locs S467 eS467 hQ => ?_)
          have hI := invX_up_94 hI eS467 ⟨y8_94_2, y8_94_3, z463, y8_94_5, y8_94_6, y8_94_7, y8_94_8, rfl, (ib_wk b237 (by decide) (by decide)), (ib_wk b466 (by decide) (by decide)), By8_94_5, By8_94_7⟩
          have c468 : S467 94 = .inr (5, [.ref (ad 1), .ref (ad 20), .int y8_94_2, .int y8_94_3, .int z463, .int y8_94_5, .int y8_94_6, .int y8_94_7, .int y8_94_8]) := up_at eS467 rfl
          refine lv_goto (tgt := 8) hx hb dX5_advance_45 (by decide) ?_
          exact ih8 _ _ _ _ y8_94_2 y8_94_3 z463 y8_94_5 y8_94_6 y8_94_7 y8_94_8 (ib_wk b237 (by decide) (by decide)) (ib_wk b466 (by decide) (by decide)) By8_94_5 By8_94_7 (by omega) hI (up_o hf8 eS467 (by decide)) c468 hQ (lv_sub hl [0] rfl)
  obtain ⟨n8, hn8⟩ := fu_n ((-1) * v6.toInt + 1200)
  exact loop8 n8 _ _ _ _ v1 v3 v6 v6 v8 v9 v11 b2 b7 b7 b10 (by omega) hI o_refl c14 hQ (lv_sub hl [0] rfl)
set_option maxHeartbeats 4000000 in
set_option maxRecDepth 100000 in
theorem gX5_isWord_94 (l : Launch) (g : GG) (tt : TT) (ad : Nat → Nat) (hD : Dj ad 122) (S : SS) (hI : InvX g ad S) (i : Nat) (hi : i < 17) : Met l yX5_isWord (wG (.code yX5_isWord cX5_isWord 3 (some .boolean))) (Rm 4) (XPreT g tt ad 122 S [.ref (ad 94), .ref (tt.1 i)]) (va_Qi (fun r S' => S = S' ∧ Bd r (0) (1)) (QB g ad 122) (FA ad 122)) 0 0 (FA ad 122) := by
  refine xmetT cX5_isWord "EbbWreck$Reader" (by decide) rfl (Nat.le_of_ble_eq_true rfl) (fun p e s m below meth c E hT hr hlk hml hQ ls hl => ?_)
  have hx := E.1
  have hb := E.2.1
  have hs : Sp ad 122 (FA ad 122) := Sp.fa hD
  have hl : lv_has ls 3 [(0, .ref (ad 94)), (1, .ref (tt.1 i))] := hl
  refine lv_aload_n hx hb dX5_isWord_0 rfl (lv_at hl 0 rfl) ?_
  obtain ⟨v1, v3, v4, v6, v8, v9, v11, c12, b2, b5, b7, b10⟩ := invX_94 hI
  have c12 : S 94 = .inr (5, [.ref (ad 1), .ref (ad 20), .int v1, .int v3, .int v4, .int v6, .int v8, .int v9, .int v11]) := c12
  refine xget E hQ 94 (by decide) c12 rfl 3 (by decide) q345 rfl dX5_isWord_1 ?_
  refine lv_iconst (v := 1) hx hb dX5_isWord_4 (by decide) ?_
  refine lv_icmp_ne (tgt := 24) hx hb dX5_isWord_5 (by decide) (fun k13 => ?_) (fun k13 => ?_)
  · have h14 := ib_ne k13
    refine lv_iconst (v := 0) hx hb dX5_isWord_24 (by decide) ?_
    exact xrz E hr hlk hQ rfl (⟨rfl, (ib_wk (by decide : Bd 0 (0) (0)) (by decide) (by decide))⟩) dX5_isWord_25
  · have h15 := ib_eq k13
    have b16 : Bd v3 (1) (1) := ⟨((rf_eq (ib_full v3) (by decide : Bd 1 (1) (1)) h15).1).1, ((rf_eq (ib_full v3) (by decide : Bd 1 (1) (1)) h15).1).2⟩
    refine lv_aload_n hx hb dX5_isWord_8 rfl (lv_at hl 0 rfl) ?_
    refine xget E hQ 94 (by decide) c12 rfl 5 (by decide) q347 rfl dX5_isWord_9 ?_
    refine lv_aload_n hx hb dX5_isWord_12 rfl (lv_at hl 0 rfl) ?_
    refine xget E hQ 94 (by decide) c12 rfl 4 (by decide) q346 rfl dX5_isWord_13 ?_
    refine lv_isub hx hb dX5_isWord_16 ?_
    refine lv_topi (fun z17 e18 => ?_)
    have t19 := ib_sub e18 b7 b5 (by decide) (by decide)
    have b20 : Bd z17 (-1200) (1200) := ib_subb t19 b7 b5
    refine lv_aload_n hx hb dX5_isWord_17 rfl (lv_at hl 1 rfl) ?_
    refine xcTi E hs hQ hml hl.1 hT i (uLen l g tt ad 122 hD S i hi) mJ0_length_8abf5 q631 hi rfl ⟨(Nat.le_of_ble_eq_true rfl), (Nat.le_of_ble_eq_true rfl)⟩ ⟨(Nat.le_of_ble_eq_true rfl), (Nat.le_of_ble_eq_true rfl)⟩ (Nat.le_of_ble_eq_true rfl) rfl dX5_isWord_18 (fun r21 S21 H locs hp21 hQ => ?_)
    obtain ⟨rfl, t21⟩ := hp21
    have h721 := lnT_all i hi
    have b22 : Bd r21 (1) (7) := ⟨by omega, by omega⟩
    refine lv_icmp_eq (tgt := 26) hx hb dX5_isWord_21 (by decide) (fun k23 => ?_) (fun k23 => ?_)
    · have h24 := ib_eq k23
      have b25 : Bd z17 (1) (7) := ⟨((rf_eq b20 b22 h24).1).1, ((rf_eq b20 b22 h24).1).2⟩
      refine lv_iconst (v := 0) hx hb dX5_isWord_26 (by decide) ?_
      refine lv_istore_n (lv' := [(2, .int 0), (0, .ref (ad 94)), (1, .ref (tt.1 i))]) hx hb dX5_isWord_27 rfl hl (by decide) rfl (fun ls hl => ?_)
      have loop28 : ∀ (n : Nat) (H : Heap) (locs : List Loc) (ls : Array Slot) (x28_2 : Int32), Bd x28_2 (0) (7) → 0 ≤ v6.toInt + (-1) * x28_2.toInt → (-1) * x28_2.toInt + 7 < ((n : Nat) : Int) → Hp g ad 122 S (FA ad 122) s.heap H locs → lv_has ls 3 [(2, .int x28_2), (0, .ref (ad 94)), (1, .ref (tt.1 i))] → W p l e (Rm 4) s m [.ref (ad 94), .ref (tt.1 i)].toArray below meth c H locs 0 0 (MQ below (va_Qi (fun r S' => S = S' ∧ Bd r (0) (1)) (QB g ad 122) (FA ad 122)) [.ref (ad 94), .ref (tt.1 i)].toArray s 0 0 (FA ad 122)) (F0 m 28 ls []) := by
        intro n
        induction n with
        | zero => intro H locs ls x28_2 Bx28_2 C28_0 hn28_ hQ hl; exfalso; have := (Bx28_2).2; omega
        | succ n28_ ih28 =>
          intro H locs ls x28_2 Bx28_2 C28_0 hn28_ hQ hl
          refine lv_iload_n hx hb dX5_isWord_28 rfl (lv_at hl 0 rfl) ?_
          refine lv_aload_n hx hb dX5_isWord_29 rfl (lv_at hl 2 rfl) ?_
          refine xcTi E hs hQ hml hl.1 hT i (uLen l g tt ad 122 hD S i hi) mJ0_length_8abf5 q631 hi rfl ⟨(Nat.le_of_ble_eq_true rfl), (Nat.le_of_ble_eq_true rfl)⟩ ⟨(Nat.le_of_ble_eq_true rfl), (Nat.le_of_ble_eq_true rfl)⟩ (Nat.le_of_ble_eq_true rfl) rfl dX5_isWord_30 (fun r26 S26 H locs hp26 hQ => ?_)
          obtain ⟨rfl, t26⟩ := hp26
          have h726 := lnT_all i hi
          have b27 : Bd r26 (1) (7) := ⟨by omega, by omega⟩
          refine lv_icmp_ge (tgt := 63) hx hb dX5_isWord_33 (by decide) (fun k28 => ?_) (fun k28 => ?_)
          · have h29 := ib_le k28
            have b30 : Bd x28_2 (1) (7) := ⟨((rf_le b27 Bx28_2 h29).2).1, (Bx28_2).2⟩
            refine lv_iconst (v := 1) hx hb dX5_isWord_63 (by decide) ?_
            exact xrz E hr hlk hQ rfl (⟨rfl, (ib_wk (by decide : Bd 1 (1) (1)) (by decide) (by decide))⟩) dX5_isWord_64
          · have h31 := ib_nle k28
            have b32 : Bd x28_2 (0) (6) := ⟨(Bx28_2).1, ((rf_lt Bx28_2 b27 h31).1).2⟩
            refine lv_aload_n hx hb dX5_isWord_36 rfl (lv_at hl 1 rfl) ?_
            refine xget E hQ 94 (by decide) c12 rfl 0 (by decide) q342 rfl dX5_isWord_37 ?_
            refine lv_aload_n hx hb dX5_isWord_40 rfl (lv_at hl 1 rfl) ?_
            refine xget E hQ 94 (by decide) c12 rfl 4 (by decide) q346 rfl dX5_isWord_41 ?_
            refine lv_iload_n hx hb dX5_isWord_44 rfl (lv_at hl 0 rfl) ?_
            refine lv_iadd hx hb dX5_isWord_45 ?_
            refine lv_topi (fun z33 e34 => ?_)
            have t35 := ib_add e34 b5 b32 (by decide) (by decide)
            have b36 : Bd z33 (0) (1206) := ib_addb t35 b5 b32
            obtain ⟨f37, c38, b39⟩ := invX_1 hI
            refine xbald E hQ 1 (by decide) c38 (ib_inx (n := 1200) (by omega) (by omega)) dX5_isWord_46 ?_
            refine lv_topi (fun z40 e41 => ?_)
            have b42 : Bd z40 (-128) (127) := (by rw [e41]; exact b39 _)
            refine lv_aload_n hx hb dX5_isWord_47 rfl (lv_at hl 2 rfl) ?_
            refine lv_iload_n hx hb dX5_isWord_48 rfl (lv_at hl 0 rfl) ?_
            refine xcTi E hs hQ hml hl.1 hT i (uCharAt l g tt ad 122 hD S i hi x28_2 (by omega) (by omega)) mJ0_charAt_5068e q641 hi rfl ⟨(Nat.le_of_ble_eq_true rfl), (Nat.le_of_ble_eq_true rfl)⟩ ⟨(Nat.le_of_ble_eq_true rfl), (Nat.le_of_ble_eq_true rfl)⟩ (Nat.le_of_ble_eq_true rfl) rfl dX5_isWord_49 (fun r43 S43 H locs hp43 hQ => ?_)
            subst hp43
            refine lv_icmp_eq (tgt := 57) hx hb dX5_isWord_52 (by decide) (fun k44 => ?_) (fun k44 => ?_)
            · have h45 := ib_eq k44
              have b46 : Bd r43 (-128) (127) := ⟨((rf_eq b42 (ib_full r43) h45).2).1, ((rf_eq b42 (ib_full r43) h45).2).2⟩
              obtain ⟨z47, e48⟩ : ∃ z : Int32, z = x28_2 + 1 := ⟨_, rfl⟩
              have t49 := ib_add e48 b32 (by decide : Bd 1 (1) (1)) (by decide) (by decide)
              have b50 : Bd z47 (1) (7) := ib_addb t49 b32 (by decide : Bd 1 (1) (1))
              have t49 : z47.toInt = x28_2.toInt + 1 := fold_add t49 rfl (by decide)
              refine lv_iinc (v := z47) (lv' := [(2, .int z47), (0, .ref (ad 94)), (1, .ref (tt.1 i))]) hx hb dX5_isWord_57 hl (k := 0) rfl (by rw [e48]; rfl) (by decide) rfl (fun ls hl => ?_)
              refine lv_goto (tgt := 28) hx hb dX5_isWord_60 (by decide) ?_
              exact ih28 _ _ _ z47 (ib_wk b50 (by decide) (by decide)) (by omega) (by omega) hQ (lv_sub hl [0, 1, 2] rfl)
            · have h51 := ib_ne k44
              refine lv_iconst (v := 0) hx hb dX5_isWord_55 (by decide) ?_
              exact xrz E hr hlk hQ rfl (⟨rfl, (ib_wk (by decide : Bd 0 (0) (0)) (by decide) (by decide))⟩) dX5_isWord_56
      obtain ⟨n28, hn28⟩ := fu_n (7)
      exact loop28 n28 _ _ _ 0 (ib_wk (by decide : Bd 0 (0) (0)) (by decide) (by decide)) (by have : (0 : Int32).toInt = 0 := (by decide); omega) (by have : (0 : Int32).toInt = 0 := (by decide); omega) hQ (lv_sub hl [0, 1, 2] rfl)
    · have h52 := ib_ne k23
      refine lv_iconst (v := 0) hx hb dX5_isWord_24 (by decide) ?_
      exact xrz E hr hlk hQ rfl (⟨rfl, (ib_wk (by decide : Bd 0 (0) (0)) (by decide) (by decide))⟩) dX5_isWord_25
set_option maxHeartbeats 4000000 in
set_option maxRecDepth 100000 in
theorem gX5_expectWord_94 (l : Launch) (g : GG) (tt : TT) (ad : Nat → Nat) (hD : Dj ad 122) (S : SS) (hI : InvX g ad S) (i : Nat) (hi : i < 17) : Met l yX5_expectWord (wG (.code yX5_expectWord cX5_expectWord 2 none)) (Rm 5) (XPreT g tt ad 122 S [.ref (ad 94), .ref (tt.1 i)]) (va_Qv (fun S' => InvX g ad S' ∧ (∀ j, j ∉ ([94] : List Nat) → S' j = S j)) (QB g ad 122) (FA ad 122)) 0 0 (FA ad 122) := by
  refine xmetT cX5_expectWord "EbbWreck$Reader" (by decide) rfl (Nat.le_of_ble_eq_true rfl) (fun p e s m below meth c E hT hr hlk hml hQ ls hl => ?_)
  have hx := E.1
  have hb := E.2.1
  have hs : Sp ad 122 (FA ad 122) := Sp.fa hD
  have hl : lv_has ls 2 [(0, .ref (ad 94)), (1, .ref (tt.1 i))] := hl
  refine lv_aload_n hx hb dX5_expectWord_0 rfl (lv_at hl 0 rfl) ?_
  refine lv_aload_n hx hb dX5_expectWord_1 rfl (lv_at hl 1 rfl) ?_
  obtain ⟨v2, v4, v5, v7, v9, v10, v12, c13, b3, b6, b8, b11⟩ := invX_94 hI
  have c13 : S 94 = .inr (5, [.ref (ad 1), .ref (ad 20), .int v2, .int v4, .int v5, .int v7, .int v9, .int v10, .int v12]) := c13
  refine xcViT E hs hQ hml hl.1 hT 94 (gX5_isWord_94 l g tt ad hD S hI i hi) mX5_isWord q627 (by decide) c13 rfl rfl ⟨(Nat.le_of_ble_eq_true rfl), (Nat.le_of_ble_eq_true rfl)⟩ ⟨(Nat.le_of_ble_eq_true rfl), (Nat.le_of_ble_eq_true rfl)⟩ (Nat.le_of_ble_eq_true rfl) rfl dX5_expectWord_2 (fun r1 S1 H locs hp1 hQ _ => ?_)
  obtain ⟨rfl, b1⟩ := hp1
  refine lv_if_ne (tgt := 13) hx hb dX5_expectWord_5 (by decide) (fun k14 => ?_) (fun k14 => ?_)
  · have h15 := ib_ne k14
    have b16 : Bd r1 (1) (1) := rf_nlo b1 (by decide : Bd 0 (0) (0)) h15
    refine lv_aload_n hx hb dX5_expectWord_13 rfl (lv_at hl 0 rfl) ?_
    refine xcVi E hs hQ hml hl.1 94 (gX5_failed_94 l g ad hD S hI ) mX5_failed q610 (by decide) c13 rfl rfl ⟨(Nat.le_of_ble_eq_true rfl), (Nat.le_of_ble_eq_true rfl)⟩ ⟨(Nat.le_of_ble_eq_true rfl), (Nat.le_of_ble_eq_true rfl)⟩ (Nat.le_of_ble_eq_true rfl) rfl dX5_expectWord_14 (fun r17 S17 H locs hp17 hQ _ => ?_)
    obtain ⟨rfl, b17, g17_0⟩ := hp17
    have q18 : fld (S 94) 7 = v10.toInt := fld_of c13 rfl
    refine lv_if_ne (tgt := 24) hx hb dX5_expectWord_17 (by decide) (fun k19 => ?_) (fun k19 => ?_)
    · have h20 := ib_ne k19
      have b21 : Bd r17 (1) (1) := rf_nlo b17 (by decide : Bd 0 (0) (0)) h20
      clear g17_0
      exact xrv E hr hlk hQ (⟨hI, o_refl⟩) dX5_expectWord_24
    · have h22 := ib_eq k19
      have b23 : Bd r17 (0) (0) := ⟨(b17).1, ((rf_eq b17 (by decide : Bd 0 (0) (0)) h22).1).2⟩
      have g24 := g17_0.resolve_left (by omega)
      clear g17_0
      have b25 : Bd v10 (0) (0) := ⟨by omega, by omega⟩
      refine lv_aload_n hx hb dX5_expectWord_20 rfl (lv_at hl 0 rfl) ?_
      refine xcVv E hs hQ hml hl.1 94 (gX5_advance_94 l g ad hD S hI ) mX5_advance q598 (by decide) c13 rfl rfl ⟨(Nat.le_of_ble_eq_true rfl), (Nat.le_of_ble_eq_true rfl)⟩ ⟨(Nat.le_of_ble_eq_true rfl), (Nat.le_of_ble_eq_true rfl)⟩ (Nat.le_of_ble_eq_true rfl) rfl dX5_expectWord_21 (fun S26 H locs hp26 hQ _ => ?_)
      obtain ⟨hI, o26⟩ := hp26
      exact xrv E hr hlk hQ (⟨hI, (o_trans o_refl o26 (by decide))⟩) dX5_expectWord_24
  · have h27 := ib_eq k14
    have b28 : Bd r1 (0) (0) := ⟨(b1).1, ((rf_eq b1 (by decide : Bd 0 (0) (0)) h27).1).2⟩
    refine lv_aload_n hx hb dX5_expectWord_8 rfl (lv_at hl 0 rfl) ?_
    refine lv_iconst (v := 1) hx hb dX5_expectWord_9 (by decide) ?_
    refine xcVv E hs hQ hml hl.1 94 (gX5_fail_94 l g ad hD S hI 1 (ib_wk (by decide : Bd 1 (1) (1)) (by decide) (by decide))) mX5_fail q679 (by decide) c13 rfl rfl ⟨(Nat.le_of_ble_eq_true rfl), (Nat.le_of_ble_eq_true rfl)⟩ ⟨(Nat.le_of_ble_eq_true rfl), (Nat.le_of_ble_eq_true rfl)⟩ (Nat.le_of_ble_eq_true rfl) rfl dX5_expectWord_10 (fun S29 H locs hp29 hQ _ => ?_)
    obtain ⟨hI, o29, g29_0⟩ := hp29
    obtain ⟨v30, v32, v33, v35, v37, v38, v40, c41, b31, b34, b36, b39⟩ := invX_94 hI
    have c41 : S29 94 = .inr (5, [.ref (ad 1), .ref (ad 20), .int v30, .int v32, .int v33, .int v35, .int v37, .int v38, .int v40]) := c41
    have q42 : fld (S29 94) 7 = v38.toInt := fld_of c41 rfl
    have b43 : Bd v38 (1) (3) := ⟨by omega, by omega⟩
    refine lv_aload_n hx hb dX5_expectWord_13 rfl (lv_at hl 0 rfl) ?_
    refine xcVi E hs hQ hml hl.1 94 (gX5_failed_94 l g ad hD S29 hI ) mX5_failed q610 (by decide) c41 rfl rfl ⟨(Nat.le_of_ble_eq_true rfl), (Nat.le_of_ble_eq_true rfl)⟩ ⟨(Nat.le_of_ble_eq_true rfl), (Nat.le_of_ble_eq_true rfl)⟩ (Nat.le_of_ble_eq_true rfl) rfl dX5_expectWord_14 (fun r44 S44 H locs hp44 hQ _ => ?_)
    obtain ⟨rfl, b44, g44_0⟩ := hp44
    refine lv_if_ne (tgt := 24) hx hb dX5_expectWord_17 (by decide) (fun k45 => ?_) (fun k45 => ?_)
    · have h46 := ib_ne k45
      have b47 : Bd r44 (1) (1) := rf_nlo b44 (by decide : Bd 0 (0) (0)) h46
      clear g44_0
      exact xrv E hr hlk hQ (⟨hI, (o_trans o_refl o29 (by decide))⟩) dX5_expectWord_24
    · have h48 := ib_eq k45
      have b49 : Bd r44 (0) (0) := ⟨(b44).1, ((rf_eq b44 (by decide : Bd 0 (0) (0)) h48).1).2⟩
      have g50 := g44_0.resolve_left (by omega)
      clear g44_0
      exact (by omega : False).elim
set_option maxHeartbeats 4000000 in
set_option maxRecDepth 100000 in
theorem gX5_expectSign_94 (l : Launch) (g : GG) (ad : Nat → Nat) (hD : Dj ad 122) (S : SS) (hI : InvX g ad S) : Met l yX5_expectSign (wG (.code yX5_expectSign cX5_expectSign 1 none)) (Rm 2) (XPre g ad 122 S [.ref (ad 94)]) (va_Qv (fun S' => InvX g ad S' ∧ (∀ j, j ∉ ([94] : List Nat) → S' j = S j)) (QB g ad 122) (FA ad 122)) 0 0 (FA ad 122) := by
  refine xmet cX5_expectSign "EbbWreck$Reader" (by decide) rfl (Nat.le_of_ble_eq_true rfl) (fun p e s m below meth c E hr hlk hml hQ ls hl => ?_)
  have hx := E.1
  have hb := E.2.1
  have hs : Sp ad 122 (FA ad 122) := Sp.fa hD
  have hl : lv_has ls 1 [(0, .ref (ad 94))] := hl
  refine lv_aload_n hx hb dX5_expectSign_0 rfl (lv_at hl 0 rfl) ?_
  obtain ⟨v1, v3, v4, v6, v8, v9, v11, c12, b2, b5, b7, b10⟩ := invX_94 hI
  have c12 : S 94 = .inr (5, [.ref (ad 1), .ref (ad 20), .int v1, .int v3, .int v4, .int v6, .int v8, .int v9, .int v11]) := c12
  refine xget E hQ 94 (by decide) c12 rfl 3 (by decide) q345 rfl dX5_expectSign_1 ?_
  refine lv_iconst (v := 3) hx hb dX5_expectSign_4 (by decide) ?_
  refine lv_icmp_eq (tgt := 13) hx hb dX5_expectSign_5 (by decide) (fun k13 => ?_) (fun k13 => ?_)
  · have h14 := ib_eq k13
    have b15 : Bd v3 (3) (3) := ⟨((rf_eq (ib_full v3) (by decide : Bd 3 (3) (3)) h14).1).1, ((rf_eq (ib_full v3) (by decide : Bd 3 (3) (3)) h14).1).2⟩
    refine lv_aload_n hx hb dX5_expectSign_13 rfl (lv_at hl 0 rfl) ?_
    refine xcVi E hs hQ hml hl.1 94 (gX5_failed_94 l g ad hD S hI ) mX5_failed q610 (by decide) c12 rfl rfl ⟨(Nat.le_of_ble_eq_true rfl), (Nat.le_of_ble_eq_true rfl)⟩ ⟨(Nat.le_of_ble_eq_true rfl), (Nat.le_of_ble_eq_true rfl)⟩ (Nat.le_of_ble_eq_true rfl) rfl dX5_expectSign_14 (fun r16 S16 H locs hp16 hQ _ => ?_)
    obtain ⟨rfl, b16, g16_0⟩ := hp16
    have q17 : fld (S 94) 7 = v9.toInt := fld_of c12 rfl
    refine lv_if_ne (tgt := 24) hx hb dX5_expectSign_17 (by decide) (fun k18 => ?_) (fun k18 => ?_)
    · have h19 := ib_ne k18
      have b20 : Bd r16 (1) (1) := rf_nlo b16 (by decide : Bd 0 (0) (0)) h19
      clear g16_0
      exact xrv E hr hlk hQ (⟨hI, o_refl⟩) dX5_expectSign_24
    · have h21 := ib_eq k18
      have b22 : Bd r16 (0) (0) := ⟨(b16).1, ((rf_eq b16 (by decide : Bd 0 (0) (0)) h21).1).2⟩
      have g23 := g16_0.resolve_left (by omega)
      clear g16_0
      have b24 : Bd v9 (0) (0) := ⟨by omega, by omega⟩
      refine lv_aload_n hx hb dX5_expectSign_20 rfl (lv_at hl 0 rfl) ?_
      refine xcVv E hs hQ hml hl.1 94 (gX5_advance_94 l g ad hD S hI ) mX5_advance q598 (by decide) c12 rfl rfl ⟨(Nat.le_of_ble_eq_true rfl), (Nat.le_of_ble_eq_true rfl)⟩ ⟨(Nat.le_of_ble_eq_true rfl), (Nat.le_of_ble_eq_true rfl)⟩ (Nat.le_of_ble_eq_true rfl) rfl dX5_expectSign_21 (fun S25 H locs hp25 hQ _ => ?_)
      obtain ⟨hI, o25⟩ := hp25
      exact xrv E hr hlk hQ (⟨hI, (o_trans o_refl o25 (by decide))⟩) dX5_expectSign_24
  · have h26 := ib_ne k13
    refine lv_aload_n hx hb dX5_expectSign_8 rfl (lv_at hl 0 rfl) ?_
    refine lv_iconst (v := 1) hx hb dX5_expectSign_9 (by decide) ?_
    refine xcVv E hs hQ hml hl.1 94 (gX5_fail_94 l g ad hD S hI 1 (ib_wk (by decide : Bd 1 (1) (1)) (by decide) (by decide))) mX5_fail q679 (by decide) c12 rfl rfl ⟨(Nat.le_of_ble_eq_true rfl), (Nat.le_of_ble_eq_true rfl)⟩ ⟨(Nat.le_of_ble_eq_true rfl), (Nat.le_of_ble_eq_true rfl)⟩ (Nat.le_of_ble_eq_true rfl) rfl dX5_expectSign_10 (fun S27 H locs hp27 hQ _ => ?_)
    obtain ⟨hI, o27, g27_0⟩ := hp27
    obtain ⟨v28, v30, v31, v33, v35, v36, v38, c39, b29, b32, b34, b37⟩ := invX_94 hI
    have c39 : S27 94 = .inr (5, [.ref (ad 1), .ref (ad 20), .int v28, .int v30, .int v31, .int v33, .int v35, .int v36, .int v38]) := c39
    have q40 : fld (S27 94) 7 = v36.toInt := fld_of c39 rfl
    have b41 : Bd v36 (1) (3) := ⟨by omega, by omega⟩
    refine lv_aload_n hx hb dX5_expectSign_13 rfl (lv_at hl 0 rfl) ?_
    refine xcVi E hs hQ hml hl.1 94 (gX5_failed_94 l g ad hD S27 hI ) mX5_failed q610 (by decide) c39 rfl rfl ⟨(Nat.le_of_ble_eq_true rfl), (Nat.le_of_ble_eq_true rfl)⟩ ⟨(Nat.le_of_ble_eq_true rfl), (Nat.le_of_ble_eq_true rfl)⟩ (Nat.le_of_ble_eq_true rfl) rfl dX5_expectSign_14 (fun r42 S42 H locs hp42 hQ _ => ?_)
    obtain ⟨rfl, b42, g42_0⟩ := hp42
    refine lv_if_ne (tgt := 24) hx hb dX5_expectSign_17 (by decide) (fun k43 => ?_) (fun k43 => ?_)
    · have h44 := ib_ne k43
      have b45 : Bd r42 (1) (1) := rf_nlo b42 (by decide : Bd 0 (0) (0)) h44
      clear g42_0
      exact xrv E hr hlk hQ (⟨hI, (o_trans o_refl o27 (by decide))⟩) dX5_expectSign_24
    · have h46 := ib_eq k43
      have b47 : Bd r42 (0) (0) := ⟨(b42).1, ((rf_eq b42 (by decide : Bd 0 (0) (0)) h46).1).2⟩
      have g48 := g42_0.resolve_left (by omega)
      clear g42_0
      exact (by omega : False).elim
set_option maxHeartbeats 4000000 in
set_option maxRecDepth 100000 in
theorem gX5_expectNumber_0 (l : Launch) (g : GG) (ad : Nat → Nat) (hD : Dj ad 122) (S : SS) (hI : InvX g ad S) (a1 : Int32) (a2 : Int32) (ba1 : Bd a1 (3) (3)) (ba2 : Bd a2 (12) (12)) : Met l yX5_expectNumber (wG (.code yX5_expectNumber cX5_expectNumber 4 (some .int))) (Rm 2) (XPre g ad 122 S [.ref (ad 94), .int a1, .int a2]) (va_Qi (fun r S' => InvX g ad S' ∧ (∀ j, j ∉ ([94] : List Nat) → S' j = S j) ∧ Bd r (3) (12)) (QB g ad 122) (FA ad 122)) 0 0 (FA ad 122) := by
  refine xmet cX5_expectNumber "EbbWreck$Reader" (by decide) rfl (Nat.le_of_ble_eq_true rfl) (fun p e s m below meth c E hr hlk hml hQ ls hl => ?_)
  have hx := E.1
  have hb := E.2.1
  have hs : Sp ad 122 (FA ad 122) := Sp.fa hD
  have hl : lv_has ls 4 [(0, .ref (ad 94)), (1, .int a1), (2, .int a2)] := hl
  refine lv_aload_n hx hb dX5_expectNumber_0 rfl (lv_at hl 0 rfl) ?_
  obtain ⟨v1, v3, v4, v6, v8, v9, v11, c12, b2, b5, b7, b10⟩ := invX_94 hI
  have c12 : S 94 = .inr (5, [.ref (ad 1), .ref (ad 20), .int v1, .int v3, .int v4, .int v6, .int v8, .int v9, .int v11]) := c12
  refine xget E hQ 94 (by decide) c12 rfl 3 (by decide) q345 rfl dX5_expectNumber_1 ?_
  refine lv_iconst (v := 2) hx hb dX5_expectNumber_4 (by decide) ?_
  refine lv_icmp_eq (tgt := 16) hx hb dX5_expectNumber_5 (by decide) (fun k13 => ?_) (fun k13 => ?_)
  · have h14 := ib_eq k13
    have b15 : Bd v3 (2) (2) := ⟨((rf_eq (ib_full v3) (by decide : Bd 2 (2) (2)) h14).1).1, ((rf_eq (ib_full v3) (by decide : Bd 2 (2) (2)) h14).1).2⟩
    refine lv_aload_n hx hb dX5_expectNumber_16 rfl (lv_at hl 0 rfl) ?_
    refine xget E hQ 94 (by decide) c12 rfl 6 (by decide) q348 rfl dX5_expectNumber_17 ?_
    refine lv_iload_n hx hb dX5_expectNumber_20 rfl (lv_at hl 1 rfl) ?_
    refine lv_icmp_lt (tgt := 32) hx hb dX5_expectNumber_21 (by decide) (fun k16 => ?_) (fun k16 => ?_)
    · have h17 := ib_lt k16
      have b18 : Bd v8 (-2147483648) (2) := ⟨((ib_full v8)).1, ((rf_lt (ib_full v8) ba1 h17).1).2⟩
      refine lv_aload_n hx hb dX5_expectNumber_32 rfl (lv_at hl 0 rfl) ?_
      refine lv_iconst (v := 2) hx hb dX5_expectNumber_33 (by decide) ?_
      refine xcVv E hs hQ hml hl.1 94 (gX5_fail_94 l g ad hD S hI 2 (ib_wk (by decide : Bd 2 (2) (2)) (by decide) (by decide))) mX5_fail q679 (by decide) c12 rfl rfl ⟨(Nat.le_of_ble_eq_true rfl), (Nat.le_of_ble_eq_true rfl)⟩ ⟨(Nat.le_of_ble_eq_true rfl), (Nat.le_of_ble_eq_true rfl)⟩ (Nat.le_of_ble_eq_true rfl) rfl dX5_expectNumber_34 (fun S19 H locs hp19 hQ _ => ?_)
      obtain ⟨hI, o19, g19_0⟩ := hp19
      obtain ⟨v20, v22, v23, v25, v27, v28, v30, c31, b21, b24, b26, b29⟩ := invX_94 hI
      have c31 : S19 94 = .inr (5, [.ref (ad 1), .ref (ad 20), .int v20, .int v22, .int v23, .int v25, .int v27, .int v28, .int v30]) := c31
      have q32 : fld (S19 94) 7 = v28.toInt := fld_of c31 rfl
      have b33 : Bd v28 (1) (3) := ⟨by omega, by omega⟩
      refine lv_aload_n hx hb dX5_expectNumber_37 rfl (lv_at hl 0 rfl) ?_
      refine xcVi E hs hQ hml hl.1 94 (gX5_failed_94 l g ad hD S19 hI ) mX5_failed q610 (by decide) c31 rfl rfl ⟨(Nat.le_of_ble_eq_true rfl), (Nat.le_of_ble_eq_true rfl)⟩ ⟨(Nat.le_of_ble_eq_true rfl), (Nat.le_of_ble_eq_true rfl)⟩ (Nat.le_of_ble_eq_true rfl) rfl dX5_expectNumber_38 (fun r34 S34 H locs hp34 hQ _ => ?_)
      obtain ⟨rfl, b34, g34_0⟩ := hp34
      refine lv_if_eq (tgt := 46) hx hb dX5_expectNumber_41 (by decide) (fun k35 => ?_) (fun k35 => ?_)
      · have h36 := ib_eq k35
        have b37 : Bd r34 (0) (0) := ⟨(b34).1, ((rf_eq b34 (by decide : Bd 0 (0) (0)) h36).1).2⟩
        have g38 := g34_0.resolve_left (by omega)
        clear g34_0
        exact (by omega : False).elim
      · have h39 := ib_ne k35
        have b40 : Bd r34 (1) (1) := rf_nlo b34 (by decide : Bd 0 (0) (0)) h39
        clear g34_0
        refine lv_iload_n hx hb dX5_expectNumber_44 rfl (lv_at hl 1 rfl) ?_
        exact xri E hr hlk hQ (⟨hI, (o_trans o_refl o19 (by decide)), (ib_wk ba1 (by decide) (by decide))⟩) dX5_expectNumber_45
    · have h41 := ib_nlt k16
      have b42 : Bd v8 (3) (2147483647) := ⟨((rf_le ba1 (ib_full v8) h41).2).1, ((ib_full v8)).2⟩
      refine lv_aload_n hx hb dX5_expectNumber_24 rfl (lv_at hl 0 rfl) ?_
      refine xget E hQ 94 (by decide) c12 rfl 6 (by decide) q348 rfl dX5_expectNumber_25 ?_
      refine lv_iload_n hx hb dX5_expectNumber_28 rfl (lv_at hl 2 rfl) ?_
      refine lv_icmp_le (tgt := 37) hx hb dX5_expectNumber_29 (by decide) (fun k43 => ?_) (fun k43 => ?_)
      · have h44 := ib_le k43
        have b45 : Bd v8 (3) (12) := ⟨(b42).1, ((rf_le b42 ba2 h44).1).2⟩
        refine lv_aload_n hx hb dX5_expectNumber_37 rfl (lv_at hl 0 rfl) ?_
        refine xcVi E hs hQ hml hl.1 94 (gX5_failed_94 l g ad hD S hI ) mX5_failed q610 (by decide) c12 rfl rfl ⟨(Nat.le_of_ble_eq_true rfl), (Nat.le_of_ble_eq_true rfl)⟩ ⟨(Nat.le_of_ble_eq_true rfl), (Nat.le_of_ble_eq_true rfl)⟩ (Nat.le_of_ble_eq_true rfl) rfl dX5_expectNumber_38 (fun r46 S46 H locs hp46 hQ _ => ?_)
        obtain ⟨rfl, b46, g46_0⟩ := hp46
        have q47 : fld (S 94) 7 = v9.toInt := fld_of c12 rfl
        refine lv_if_eq (tgt := 46) hx hb dX5_expectNumber_41 (by decide) (fun k48 => ?_) (fun k48 => ?_)
        · have h49 := ib_eq k48
          have b50 : Bd r46 (0) (0) := ⟨(b46).1, ((rf_eq b46 (by decide : Bd 0 (0) (0)) h49).1).2⟩
          have g51 := g46_0.resolve_left (by omega)
          clear g46_0
          have b52 : Bd v9 (0) (0) := ⟨by omega, by omega⟩
          refine lv_aload_n hx hb dX5_expectNumber_46 rfl (lv_at hl 0 rfl) ?_
          refine xget E hQ 94 (by decide) c12 rfl 6 (by decide) q348 rfl dX5_expectNumber_47 ?_
          refine lv_istore_n (lv' := [(3, .int v8), (0, .ref (ad 94)), (1, .int a1), (2, .int a2)]) hx hb dX5_expectNumber_50 rfl hl (by decide) rfl (fun ls hl => ?_)
          refine lv_aload_n hx hb dX5_expectNumber_51 rfl (lv_at hl 1 rfl) ?_
          refine xcVv E hs hQ hml hl.1 94 (gX5_advance_94 l g ad hD S hI ) mX5_advance q598 (by decide) c12 rfl rfl ⟨(Nat.le_of_ble_eq_true rfl), (Nat.le_of_ble_eq_true rfl)⟩ ⟨(Nat.le_of_ble_eq_true rfl), (Nat.le_of_ble_eq_true rfl)⟩ (Nat.le_of_ble_eq_true rfl) rfl dX5_expectNumber_52 (fun S53 H locs hp53 hQ _ => ?_)
          obtain ⟨hI, o53⟩ := hp53
          refine lv_iload_n hx hb dX5_expectNumber_55 rfl (lv_at hl 0 rfl) ?_
          exact xri E hr hlk hQ (⟨hI, (o_trans o_refl o53 (by decide)), b45⟩) dX5_expectNumber_56
        · have h54 := ib_ne k48
          have b55 : Bd r46 (1) (1) := rf_nlo b46 (by decide : Bd 0 (0) (0)) h54
          clear g46_0
          refine lv_iload_n hx hb dX5_expectNumber_44 rfl (lv_at hl 1 rfl) ?_
          exact xri E hr hlk hQ (⟨hI, o_refl, (ib_wk ba1 (by decide) (by decide))⟩) dX5_expectNumber_45
      · have h56 := ib_nle k43
        have b57 : Bd v8 (13) (2147483647) := ⟨((rf_lt ba2 b42 h56).2).1, (b42).2⟩
        refine lv_aload_n hx hb dX5_expectNumber_32 rfl (lv_at hl 0 rfl) ?_
        refine lv_iconst (v := 2) hx hb dX5_expectNumber_33 (by decide) ?_
        refine xcVv E hs hQ hml hl.1 94 (gX5_fail_94 l g ad hD S hI 2 (ib_wk (by decide : Bd 2 (2) (2)) (by decide) (by decide))) mX5_fail q679 (by decide) c12 rfl rfl ⟨(Nat.le_of_ble_eq_true rfl), (Nat.le_of_ble_eq_true rfl)⟩ ⟨(Nat.le_of_ble_eq_true rfl), (Nat.le_of_ble_eq_true rfl)⟩ (Nat.le_of_ble_eq_true rfl) rfl dX5_expectNumber_34 (fun S58 H locs hp58 hQ _ => ?_)
        obtain ⟨hI, o58, g58_0⟩ := hp58
        obtain ⟨v59, v61, v62, v64, v66, v67, v69, c70, b60, b63, b65, b68⟩ := invX_94 hI
        have c70 : S58 94 = .inr (5, [.ref (ad 1), .ref (ad 20), .int v59, .int v61, .int v62, .int v64, .int v66, .int v67, .int v69]) := c70
        have q71 : fld (S58 94) 7 = v67.toInt := fld_of c70 rfl
        have b72 : Bd v67 (1) (3) := ⟨by omega, by omega⟩
        refine lv_aload_n hx hb dX5_expectNumber_37 rfl (lv_at hl 0 rfl) ?_
        refine xcVi E hs hQ hml hl.1 94 (gX5_failed_94 l g ad hD S58 hI ) mX5_failed q610 (by decide) c70 rfl rfl ⟨(Nat.le_of_ble_eq_true rfl), (Nat.le_of_ble_eq_true rfl)⟩ ⟨(Nat.le_of_ble_eq_true rfl), (Nat.le_of_ble_eq_true rfl)⟩ (Nat.le_of_ble_eq_true rfl) rfl dX5_expectNumber_38 (fun r73 S73 H locs hp73 hQ _ => ?_)
        obtain ⟨rfl, b73, g73_0⟩ := hp73
        refine lv_if_eq (tgt := 46) hx hb dX5_expectNumber_41 (by decide) (fun k74 => ?_) (fun k74 => ?_)
        · have h75 := ib_eq k74
          have b76 : Bd r73 (0) (0) := ⟨(b73).1, ((rf_eq b73 (by decide : Bd 0 (0) (0)) h75).1).2⟩
          have g77 := g73_0.resolve_left (by omega)
          clear g73_0
          exact (by omega : False).elim
        · have h78 := ib_ne k74
          have b79 : Bd r73 (1) (1) := rf_nlo b73 (by decide : Bd 0 (0) (0)) h78
          clear g73_0
          refine lv_iload_n hx hb dX5_expectNumber_44 rfl (lv_at hl 1 rfl) ?_
          exact xri E hr hlk hQ (⟨hI, (o_trans o_refl o58 (by decide)), (ib_wk ba1 (by decide) (by decide))⟩) dX5_expectNumber_45
  · have h80 := ib_ne k13
    refine lv_aload_n hx hb dX5_expectNumber_8 rfl (lv_at hl 0 rfl) ?_
    refine lv_iconst (v := 1) hx hb dX5_expectNumber_9 (by decide) ?_
    refine xcVv E hs hQ hml hl.1 94 (gX5_fail_94 l g ad hD S hI 1 (ib_wk (by decide : Bd 1 (1) (1)) (by decide) (by decide))) mX5_fail q679 (by decide) c12 rfl rfl ⟨(Nat.le_of_ble_eq_true rfl), (Nat.le_of_ble_eq_true rfl)⟩ ⟨(Nat.le_of_ble_eq_true rfl), (Nat.le_of_ble_eq_true rfl)⟩ (Nat.le_of_ble_eq_true rfl) rfl dX5_expectNumber_10 (fun S81 H locs hp81 hQ _ => ?_)
    obtain ⟨hI, o81, g81_0⟩ := hp81
    obtain ⟨v82, v84, v85, v87, v89, v90, v92, c93, b83, b86, b88, b91⟩ := invX_94 hI
    have c93 : S81 94 = .inr (5, [.ref (ad 1), .ref (ad 20), .int v82, .int v84, .int v85, .int v87, .int v89, .int v90, .int v92]) := c93
    have q94 : fld (S81 94) 7 = v90.toInt := fld_of c93 rfl
    have b95 : Bd v90 (1) (3) := ⟨by omega, by omega⟩
    refine lv_goto (tgt := 37) hx hb dX5_expectNumber_13 (by decide) ?_
    refine lv_aload_n hx hb dX5_expectNumber_37 rfl (lv_at hl 0 rfl) ?_
    refine xcVi E hs hQ hml hl.1 94 (gX5_failed_94 l g ad hD S81 hI ) mX5_failed q610 (by decide) c93 rfl rfl ⟨(Nat.le_of_ble_eq_true rfl), (Nat.le_of_ble_eq_true rfl)⟩ ⟨(Nat.le_of_ble_eq_true rfl), (Nat.le_of_ble_eq_true rfl)⟩ (Nat.le_of_ble_eq_true rfl) rfl dX5_expectNumber_38 (fun r96 S96 H locs hp96 hQ _ => ?_)
    obtain ⟨rfl, b96, g96_0⟩ := hp96
    refine lv_if_eq (tgt := 46) hx hb dX5_expectNumber_41 (by decide) (fun k97 => ?_) (fun k97 => ?_)
    · have h98 := ib_eq k97
      have b99 : Bd r96 (0) (0) := ⟨(b96).1, ((rf_eq b96 (by decide : Bd 0 (0) (0)) h98).1).2⟩
      have g100 := g96_0.resolve_left (by omega)
      clear g96_0
      exact (by omega : False).elim
    · have h101 := ib_ne k97
      have b102 : Bd r96 (1) (1) := rf_nlo b96 (by decide : Bd 0 (0) (0)) h101
      clear g96_0
      refine lv_iload_n hx hb dX5_expectNumber_44 rfl (lv_at hl 1 rfl) ?_
      exact xri E hr hlk hQ (⟨hI, (o_trans o_refl o81 (by decide)), (ib_wk ba1 (by decide) (by decide))⟩) dX5_expectNumber_45
set_option maxHeartbeats 4000000 in
set_option maxRecDepth 100000 in
theorem gX5_expectNumber_1 (l : Launch) (g : GG) (ad : Nat → Nat) (hD : Dj ad 122) (S : SS) (hI : InvX g ad S) (a1 : Int32) (a2 : Int32) (ba1 : Bd a1 (1) (1)) (ba2 : Bd a2 (12) (12)) : Met l yX5_expectNumber (wG (.code yX5_expectNumber cX5_expectNumber 4 (some .int))) (Rm 2) (XPre g ad 122 S [.ref (ad 94), .int a1, .int a2]) (va_Qi (fun r S' => InvX g ad S' ∧ (∀ j, j ∉ ([94] : List Nat) → S' j = S j) ∧ Bd r (1) (12)) (QB g ad 122) (FA ad 122)) 0 0 (FA ad 122) := by
  refine xmet cX5_expectNumber "EbbWreck$Reader" (by decide) rfl (Nat.le_of_ble_eq_true rfl) (fun p e s m below meth c E hr hlk hml hQ ls hl => ?_)
  have hx := E.1
  have hb := E.2.1
  have hs : Sp ad 122 (FA ad 122) := Sp.fa hD
  have hl : lv_has ls 4 [(0, .ref (ad 94)), (1, .int a1), (2, .int a2)] := hl
  refine lv_aload_n hx hb dX5_expectNumber_0 rfl (lv_at hl 0 rfl) ?_
  obtain ⟨v1, v3, v4, v6, v8, v9, v11, c12, b2, b5, b7, b10⟩ := invX_94 hI
  have c12 : S 94 = .inr (5, [.ref (ad 1), .ref (ad 20), .int v1, .int v3, .int v4, .int v6, .int v8, .int v9, .int v11]) := c12
  refine xget E hQ 94 (by decide) c12 rfl 3 (by decide) q345 rfl dX5_expectNumber_1 ?_
  refine lv_iconst (v := 2) hx hb dX5_expectNumber_4 (by decide) ?_
  refine lv_icmp_eq (tgt := 16) hx hb dX5_expectNumber_5 (by decide) (fun k13 => ?_) (fun k13 => ?_)
  · have h14 := ib_eq k13
    have b15 : Bd v3 (2) (2) := ⟨((rf_eq (ib_full v3) (by decide : Bd 2 (2) (2)) h14).1).1, ((rf_eq (ib_full v3) (by decide : Bd 2 (2) (2)) h14).1).2⟩
    refine lv_aload_n hx hb dX5_expectNumber_16 rfl (lv_at hl 0 rfl) ?_
    refine xget E hQ 94 (by decide) c12 rfl 6 (by decide) q348 rfl dX5_expectNumber_17 ?_
    refine lv_iload_n hx hb dX5_expectNumber_20 rfl (lv_at hl 1 rfl) ?_
    refine lv_icmp_lt (tgt := 32) hx hb dX5_expectNumber_21 (by decide) (fun k16 => ?_) (fun k16 => ?_)
    · have h17 := ib_lt k16
      have b18 : Bd v8 (-2147483648) (0) := ⟨((ib_full v8)).1, ((rf_lt (ib_full v8) ba1 h17).1).2⟩
      refine lv_aload_n hx hb dX5_expectNumber_32 rfl (lv_at hl 0 rfl) ?_
      refine lv_iconst (v := 2) hx hb dX5_expectNumber_33 (by decide) ?_
      refine xcVv E hs hQ hml hl.1 94 (gX5_fail_94 l g ad hD S hI 2 (ib_wk (by decide : Bd 2 (2) (2)) (by decide) (by decide))) mX5_fail q679 (by decide) c12 rfl rfl ⟨(Nat.le_of_ble_eq_true rfl), (Nat.le_of_ble_eq_true rfl)⟩ ⟨(Nat.le_of_ble_eq_true rfl), (Nat.le_of_ble_eq_true rfl)⟩ (Nat.le_of_ble_eq_true rfl) rfl dX5_expectNumber_34 (fun S19 H locs hp19 hQ _ => ?_)
      obtain ⟨hI, o19, g19_0⟩ := hp19
      obtain ⟨v20, v22, v23, v25, v27, v28, v30, c31, b21, b24, b26, b29⟩ := invX_94 hI
      have c31 : S19 94 = .inr (5, [.ref (ad 1), .ref (ad 20), .int v20, .int v22, .int v23, .int v25, .int v27, .int v28, .int v30]) := c31
      have q32 : fld (S19 94) 7 = v28.toInt := fld_of c31 rfl
      have b33 : Bd v28 (1) (3) := ⟨by omega, by omega⟩
      refine lv_aload_n hx hb dX5_expectNumber_37 rfl (lv_at hl 0 rfl) ?_
      refine xcVi E hs hQ hml hl.1 94 (gX5_failed_94 l g ad hD S19 hI ) mX5_failed q610 (by decide) c31 rfl rfl ⟨(Nat.le_of_ble_eq_true rfl), (Nat.le_of_ble_eq_true rfl)⟩ ⟨(Nat.le_of_ble_eq_true rfl), (Nat.le_of_ble_eq_true rfl)⟩ (Nat.le_of_ble_eq_true rfl) rfl dX5_expectNumber_38 (fun r34 S34 H locs hp34 hQ _ => ?_)
      obtain ⟨rfl, b34, g34_0⟩ := hp34
      refine lv_if_eq (tgt := 46) hx hb dX5_expectNumber_41 (by decide) (fun k35 => ?_) (fun k35 => ?_)
      · have h36 := ib_eq k35
        have b37 : Bd r34 (0) (0) := ⟨(b34).1, ((rf_eq b34 (by decide : Bd 0 (0) (0)) h36).1).2⟩
        have g38 := g34_0.resolve_left (by omega)
        clear g34_0
        exact (by omega : False).elim
      · have h39 := ib_ne k35
        have b40 : Bd r34 (1) (1) := rf_nlo b34 (by decide : Bd 0 (0) (0)) h39
        clear g34_0
        refine lv_iload_n hx hb dX5_expectNumber_44 rfl (lv_at hl 1 rfl) ?_
        exact xri E hr hlk hQ (⟨hI, (o_trans o_refl o19 (by decide)), (ib_wk ba1 (by decide) (by decide))⟩) dX5_expectNumber_45
    · have h41 := ib_nlt k16
      have b42 : Bd v8 (1) (2147483647) := ⟨((rf_le ba1 (ib_full v8) h41).2).1, ((ib_full v8)).2⟩
      refine lv_aload_n hx hb dX5_expectNumber_24 rfl (lv_at hl 0 rfl) ?_
      refine xget E hQ 94 (by decide) c12 rfl 6 (by decide) q348 rfl dX5_expectNumber_25 ?_
      refine lv_iload_n hx hb dX5_expectNumber_28 rfl (lv_at hl 2 rfl) ?_
      refine lv_icmp_le (tgt := 37) hx hb dX5_expectNumber_29 (by decide) (fun k43 => ?_) (fun k43 => ?_)
      · have h44 := ib_le k43
        have b45 : Bd v8 (1) (12) := ⟨(b42).1, ((rf_le b42 ba2 h44).1).2⟩
        refine lv_aload_n hx hb dX5_expectNumber_37 rfl (lv_at hl 0 rfl) ?_
        refine xcVi E hs hQ hml hl.1 94 (gX5_failed_94 l g ad hD S hI ) mX5_failed q610 (by decide) c12 rfl rfl ⟨(Nat.le_of_ble_eq_true rfl), (Nat.le_of_ble_eq_true rfl)⟩ ⟨(Nat.le_of_ble_eq_true rfl), (Nat.le_of_ble_eq_true rfl)⟩ (Nat.le_of_ble_eq_true rfl) rfl dX5_expectNumber_38 (fun r46 S46 H locs hp46 hQ _ => ?_)
        obtain ⟨rfl, b46, g46_0⟩ := hp46
        have q47 : fld (S 94) 7 = v9.toInt := fld_of c12 rfl
        refine lv_if_eq (tgt := 46) hx hb dX5_expectNumber_41 (by decide) (fun k48 => ?_) (fun k48 => ?_)
        · have h49 := ib_eq k48
          have b50 : Bd r46 (0) (0) := ⟨(b46).1, ((rf_eq b46 (by decide : Bd 0 (0) (0)) h49).1).2⟩
          have g51 := g46_0.resolve_left (by omega)
          clear g46_0
          have b52 : Bd v9 (0) (0) := ⟨by omega, by omega⟩
          refine lv_aload_n hx hb dX5_expectNumber_46 rfl (lv_at hl 0 rfl) ?_
          refine xget E hQ 94 (by decide) c12 rfl 6 (by decide) q348 rfl dX5_expectNumber_47 ?_
          refine lv_istore_n (lv' := [(3, .int v8), (0, .ref (ad 94)), (1, .int a1), (2, .int a2)]) hx hb dX5_expectNumber_50 rfl hl (by decide) rfl (fun ls hl => ?_)
          refine lv_aload_n hx hb dX5_expectNumber_51 rfl (lv_at hl 1 rfl) ?_
          refine xcVv E hs hQ hml hl.1 94 (gX5_advance_94 l g ad hD S hI ) mX5_advance q598 (by decide) c12 rfl rfl ⟨(Nat.le_of_ble_eq_true rfl), (Nat.le_of_ble_eq_true rfl)⟩ ⟨(Nat.le_of_ble_eq_true rfl), (Nat.le_of_ble_eq_true rfl)⟩ (Nat.le_of_ble_eq_true rfl) rfl dX5_expectNumber_52 (fun S53 H locs hp53 hQ _ => ?_)
          obtain ⟨hI, o53⟩ := hp53
          refine lv_iload_n hx hb dX5_expectNumber_55 rfl (lv_at hl 0 rfl) ?_
          exact xri E hr hlk hQ (⟨hI, (o_trans o_refl o53 (by decide)), b45⟩) dX5_expectNumber_56
        · have h54 := ib_ne k48
          have b55 : Bd r46 (1) (1) := rf_nlo b46 (by decide : Bd 0 (0) (0)) h54
          clear g46_0
          refine lv_iload_n hx hb dX5_expectNumber_44 rfl (lv_at hl 1 rfl) ?_
          exact xri E hr hlk hQ (⟨hI, o_refl, (ib_wk ba1 (by decide) (by decide))⟩) dX5_expectNumber_45
      · have h56 := ib_nle k43
        have b57 : Bd v8 (13) (2147483647) := ⟨((rf_lt ba2 b42 h56).2).1, (b42).2⟩
        refine lv_aload_n hx hb dX5_expectNumber_32 rfl (lv_at hl 0 rfl) ?_
        refine lv_iconst (v := 2) hx hb dX5_expectNumber_33 (by decide) ?_
        refine xcVv E hs hQ hml hl.1 94 (gX5_fail_94 l g ad hD S hI 2 (ib_wk (by decide : Bd 2 (2) (2)) (by decide) (by decide))) mX5_fail q679 (by decide) c12 rfl rfl ⟨(Nat.le_of_ble_eq_true rfl), (Nat.le_of_ble_eq_true rfl)⟩ ⟨(Nat.le_of_ble_eq_true rfl), (Nat.le_of_ble_eq_true rfl)⟩ (Nat.le_of_ble_eq_true rfl) rfl dX5_expectNumber_34 (fun S58 H locs hp58 hQ _ => ?_)
        obtain ⟨hI, o58, g58_0⟩ := hp58
        obtain ⟨v59, v61, v62, v64, v66, v67, v69, c70, b60, b63, b65, b68⟩ := invX_94 hI
        have c70 : S58 94 = .inr (5, [.ref (ad 1), .ref (ad 20), .int v59, .int v61, .int v62, .int v64, .int v66, .int v67, .int v69]) := c70
        have q71 : fld (S58 94) 7 = v67.toInt := fld_of c70 rfl
        have b72 : Bd v67 (1) (3) := ⟨by omega, by omega⟩
        refine lv_aload_n hx hb dX5_expectNumber_37 rfl (lv_at hl 0 rfl) ?_
        refine xcVi E hs hQ hml hl.1 94 (gX5_failed_94 l g ad hD S58 hI ) mX5_failed q610 (by decide) c70 rfl rfl ⟨(Nat.le_of_ble_eq_true rfl), (Nat.le_of_ble_eq_true rfl)⟩ ⟨(Nat.le_of_ble_eq_true rfl), (Nat.le_of_ble_eq_true rfl)⟩ (Nat.le_of_ble_eq_true rfl) rfl dX5_expectNumber_38 (fun r73 S73 H locs hp73 hQ _ => ?_)
        obtain ⟨rfl, b73, g73_0⟩ := hp73
        refine lv_if_eq (tgt := 46) hx hb dX5_expectNumber_41 (by decide) (fun k74 => ?_) (fun k74 => ?_)
        · have h75 := ib_eq k74
          have b76 : Bd r73 (0) (0) := ⟨(b73).1, ((rf_eq b73 (by decide : Bd 0 (0) (0)) h75).1).2⟩
          have g77 := g73_0.resolve_left (by omega)
          clear g73_0
          exact (by omega : False).elim
        · have h78 := ib_ne k74
          have b79 : Bd r73 (1) (1) := rf_nlo b73 (by decide : Bd 0 (0) (0)) h78
          clear g73_0
          refine lv_iload_n hx hb dX5_expectNumber_44 rfl (lv_at hl 1 rfl) ?_
          exact xri E hr hlk hQ (⟨hI, (o_trans o_refl o58 (by decide)), (ib_wk ba1 (by decide) (by decide))⟩) dX5_expectNumber_45
  · have h80 := ib_ne k13
    refine lv_aload_n hx hb dX5_expectNumber_8 rfl (lv_at hl 0 rfl) ?_
    refine lv_iconst (v := 1) hx hb dX5_expectNumber_9 (by decide) ?_
    refine xcVv E hs hQ hml hl.1 94 (gX5_fail_94 l g ad hD S hI 1 (ib_wk (by decide : Bd 1 (1) (1)) (by decide) (by decide))) mX5_fail q679 (by decide) c12 rfl rfl ⟨(Nat.le_of_ble_eq_true rfl), (Nat.le_of_ble_eq_true rfl)⟩ ⟨(Nat.le_of_ble_eq_true rfl), (Nat.le_of_ble_eq_true rfl)⟩ (Nat.le_of_ble_eq_true rfl) rfl dX5_expectNumber_10 (fun S81 H locs hp81 hQ _ => ?_)
    obtain ⟨hI, o81, g81_0⟩ := hp81
    obtain ⟨v82, v84, v85, v87, v89, v90, v92, c93, b83, b86, b88, b91⟩ := invX_94 hI
    have c93 : S81 94 = .inr (5, [.ref (ad 1), .ref (ad 20), .int v82, .int v84, .int v85, .int v87, .int v89, .int v90, .int v92]) := c93
    have q94 : fld (S81 94) 7 = v90.toInt := fld_of c93 rfl
    have b95 : Bd v90 (1) (3) := ⟨by omega, by omega⟩
    refine lv_goto (tgt := 37) hx hb dX5_expectNumber_13 (by decide) ?_
    refine lv_aload_n hx hb dX5_expectNumber_37 rfl (lv_at hl 0 rfl) ?_
    refine xcVi E hs hQ hml hl.1 94 (gX5_failed_94 l g ad hD S81 hI ) mX5_failed q610 (by decide) c93 rfl rfl ⟨(Nat.le_of_ble_eq_true rfl), (Nat.le_of_ble_eq_true rfl)⟩ ⟨(Nat.le_of_ble_eq_true rfl), (Nat.le_of_ble_eq_true rfl)⟩ (Nat.le_of_ble_eq_true rfl) rfl dX5_expectNumber_38 (fun r96 S96 H locs hp96 hQ _ => ?_)
    obtain ⟨rfl, b96, g96_0⟩ := hp96
    refine lv_if_eq (tgt := 46) hx hb dX5_expectNumber_41 (by decide) (fun k97 => ?_) (fun k97 => ?_)
    · have h98 := ib_eq k97
      have b99 : Bd r96 (0) (0) := ⟨(b96).1, ((rf_eq b96 (by decide : Bd 0 (0) (0)) h98).1).2⟩
      have g100 := g96_0.resolve_left (by omega)
      clear g96_0
      exact (by omega : False).elim
    · have h101 := ib_ne k97
      have b102 : Bd r96 (1) (1) := rf_nlo b96 (by decide : Bd 0 (0) (0)) h101
      clear g96_0
      refine lv_iload_n hx hb dX5_expectNumber_44 rfl (lv_at hl 1 rfl) ?_
      exact xri E hr hlk hQ (⟨hI, (o_trans o_refl o81 (by decide)), (ib_wk ba1 (by decide) (by decide))⟩) dX5_expectNumber_45
set_option maxHeartbeats 4000000 in
set_option maxRecDepth 100000 in
theorem gX5_expectNumber_2 (l : Launch) (g : GG) (ad : Nat → Nat) (hD : Dj ad 122) (S : SS) (hI : InvX g ad S) (a1 : Int32) (a2 : Int32) (ba1 : Bd a1 (0) (0)) (ba2 : Bd a2 (6) (6)) : Met l yX5_expectNumber (wG (.code yX5_expectNumber cX5_expectNumber 4 (some .int))) (Rm 2) (XPre g ad 122 S [.ref (ad 94), .int a1, .int a2]) (va_Qi (fun r S' => InvX g ad S' ∧ (∀ j, j ∉ ([94] : List Nat) → S' j = S j) ∧ Bd r (0) (6)) (QB g ad 122) (FA ad 122)) 0 0 (FA ad 122) := by
  refine xmet cX5_expectNumber "EbbWreck$Reader" (by decide) rfl (Nat.le_of_ble_eq_true rfl) (fun p e s m below meth c E hr hlk hml hQ ls hl => ?_)
  have hx := E.1
  have hb := E.2.1
  have hs : Sp ad 122 (FA ad 122) := Sp.fa hD
  have hl : lv_has ls 4 [(0, .ref (ad 94)), (1, .int a1), (2, .int a2)] := hl
  refine lv_aload_n hx hb dX5_expectNumber_0 rfl (lv_at hl 0 rfl) ?_
  obtain ⟨v1, v3, v4, v6, v8, v9, v11, c12, b2, b5, b7, b10⟩ := invX_94 hI
  have c12 : S 94 = .inr (5, [.ref (ad 1), .ref (ad 20), .int v1, .int v3, .int v4, .int v6, .int v8, .int v9, .int v11]) := c12
  refine xget E hQ 94 (by decide) c12 rfl 3 (by decide) q345 rfl dX5_expectNumber_1 ?_
  refine lv_iconst (v := 2) hx hb dX5_expectNumber_4 (by decide) ?_
  refine lv_icmp_eq (tgt := 16) hx hb dX5_expectNumber_5 (by decide) (fun k13 => ?_) (fun k13 => ?_)
  · have h14 := ib_eq k13
    have b15 : Bd v3 (2) (2) := ⟨((rf_eq (ib_full v3) (by decide : Bd 2 (2) (2)) h14).1).1, ((rf_eq (ib_full v3) (by decide : Bd 2 (2) (2)) h14).1).2⟩
    refine lv_aload_n hx hb dX5_expectNumber_16 rfl (lv_at hl 0 rfl) ?_
    refine xget E hQ 94 (by decide) c12 rfl 6 (by decide) q348 rfl dX5_expectNumber_17 ?_
    refine lv_iload_n hx hb dX5_expectNumber_20 rfl (lv_at hl 1 rfl) ?_
    refine lv_icmp_lt (tgt := 32) hx hb dX5_expectNumber_21 (by decide) (fun k16 => ?_) (fun k16 => ?_)
    · have h17 := ib_lt k16
      have b18 : Bd v8 (-2147483648) (-1) := ⟨((ib_full v8)).1, ((rf_lt (ib_full v8) ba1 h17).1).2⟩
      refine lv_aload_n hx hb dX5_expectNumber_32 rfl (lv_at hl 0 rfl) ?_
      refine lv_iconst (v := 2) hx hb dX5_expectNumber_33 (by decide) ?_
      refine xcVv E hs hQ hml hl.1 94 (gX5_fail_94 l g ad hD S hI 2 (ib_wk (by decide : Bd 2 (2) (2)) (by decide) (by decide))) mX5_fail q679 (by decide) c12 rfl rfl ⟨(Nat.le_of_ble_eq_true rfl), (Nat.le_of_ble_eq_true rfl)⟩ ⟨(Nat.le_of_ble_eq_true rfl), (Nat.le_of_ble_eq_true rfl)⟩ (Nat.le_of_ble_eq_true rfl) rfl dX5_expectNumber_34 (fun S19 H locs hp19 hQ _ => ?_)
      obtain ⟨hI, o19, g19_0⟩ := hp19
      obtain ⟨v20, v22, v23, v25, v27, v28, v30, c31, b21, b24, b26, b29⟩ := invX_94 hI
      have c31 : S19 94 = .inr (5, [.ref (ad 1), .ref (ad 20), .int v20, .int v22, .int v23, .int v25, .int v27, .int v28, .int v30]) := c31
      have q32 : fld (S19 94) 7 = v28.toInt := fld_of c31 rfl
      have b33 : Bd v28 (1) (3) := ⟨by omega, by omega⟩
      refine lv_aload_n hx hb dX5_expectNumber_37 rfl (lv_at hl 0 rfl) ?_
      refine xcVi E hs hQ hml hl.1 94 (gX5_failed_94 l g ad hD S19 hI ) mX5_failed q610 (by decide) c31 rfl rfl ⟨(Nat.le_of_ble_eq_true rfl), (Nat.le_of_ble_eq_true rfl)⟩ ⟨(Nat.le_of_ble_eq_true rfl), (Nat.le_of_ble_eq_true rfl)⟩ (Nat.le_of_ble_eq_true rfl) rfl dX5_expectNumber_38 (fun r34 S34 H locs hp34 hQ _ => ?_)
      obtain ⟨rfl, b34, g34_0⟩ := hp34
      refine lv_if_eq (tgt := 46) hx hb dX5_expectNumber_41 (by decide) (fun k35 => ?_) (fun k35 => ?_)
      · have h36 := ib_eq k35
        have b37 : Bd r34 (0) (0) := ⟨(b34).1, ((rf_eq b34 (by decide : Bd 0 (0) (0)) h36).1).2⟩
        have g38 := g34_0.resolve_left (by omega)
        clear g34_0
        exact (by omega : False).elim
      · have h39 := ib_ne k35
        have b40 : Bd r34 (1) (1) := rf_nlo b34 (by decide : Bd 0 (0) (0)) h39
        clear g34_0
        refine lv_iload_n hx hb dX5_expectNumber_44 rfl (lv_at hl 1 rfl) ?_
        exact xri E hr hlk hQ (⟨hI, (o_trans o_refl o19 (by decide)), (ib_wk ba1 (by decide) (by decide))⟩) dX5_expectNumber_45
    · have h41 := ib_nlt k16
      have b42 : Bd v8 (0) (2147483647) := ⟨((rf_le ba1 (ib_full v8) h41).2).1, ((ib_full v8)).2⟩
      refine lv_aload_n hx hb dX5_expectNumber_24 rfl (lv_at hl 0 rfl) ?_
      refine xget E hQ 94 (by decide) c12 rfl 6 (by decide) q348 rfl dX5_expectNumber_25 ?_
      refine lv_iload_n hx hb dX5_expectNumber_28 rfl (lv_at hl 2 rfl) ?_
      refine lv_icmp_le (tgt := 37) hx hb dX5_expectNumber_29 (by decide) (fun k43 => ?_) (fun k43 => ?_)
      · have h44 := ib_le k43
        have b45 : Bd v8 (0) (6) := ⟨(b42).1, ((rf_le b42 ba2 h44).1).2⟩
        refine lv_aload_n hx hb dX5_expectNumber_37 rfl (lv_at hl 0 rfl) ?_
        refine xcVi E hs hQ hml hl.1 94 (gX5_failed_94 l g ad hD S hI ) mX5_failed q610 (by decide) c12 rfl rfl ⟨(Nat.le_of_ble_eq_true rfl), (Nat.le_of_ble_eq_true rfl)⟩ ⟨(Nat.le_of_ble_eq_true rfl), (Nat.le_of_ble_eq_true rfl)⟩ (Nat.le_of_ble_eq_true rfl) rfl dX5_expectNumber_38 (fun r46 S46 H locs hp46 hQ _ => ?_)
        obtain ⟨rfl, b46, g46_0⟩ := hp46
        have q47 : fld (S 94) 7 = v9.toInt := fld_of c12 rfl
        refine lv_if_eq (tgt := 46) hx hb dX5_expectNumber_41 (by decide) (fun k48 => ?_) (fun k48 => ?_)
        · have h49 := ib_eq k48
          have b50 : Bd r46 (0) (0) := ⟨(b46).1, ((rf_eq b46 (by decide : Bd 0 (0) (0)) h49).1).2⟩
          have g51 := g46_0.resolve_left (by omega)
          clear g46_0
          have b52 : Bd v9 (0) (0) := ⟨by omega, by omega⟩
          refine lv_aload_n hx hb dX5_expectNumber_46 rfl (lv_at hl 0 rfl) ?_
          refine xget E hQ 94 (by decide) c12 rfl 6 (by decide) q348 rfl dX5_expectNumber_47 ?_
          refine lv_istore_n (lv' := [(3, .int v8), (0, .ref (ad 94)), (1, .int a1), (2, .int a2)]) hx hb dX5_expectNumber_50 rfl hl (by decide) rfl (fun ls hl => ?_)
          refine lv_aload_n hx hb dX5_expectNumber_51 rfl (lv_at hl 1 rfl) ?_
          refine xcVv E hs hQ hml hl.1 94 (gX5_advance_94 l g ad hD S hI ) mX5_advance q598 (by decide) c12 rfl rfl ⟨(Nat.le_of_ble_eq_true rfl), (Nat.le_of_ble_eq_true rfl)⟩ ⟨(Nat.le_of_ble_eq_true rfl), (Nat.le_of_ble_eq_true rfl)⟩ (Nat.le_of_ble_eq_true rfl) rfl dX5_expectNumber_52 (fun S53 H locs hp53 hQ _ => ?_)
          obtain ⟨hI, o53⟩ := hp53
          refine lv_iload_n hx hb dX5_expectNumber_55 rfl (lv_at hl 0 rfl) ?_
          exact xri E hr hlk hQ (⟨hI, (o_trans o_refl o53 (by decide)), b45⟩) dX5_expectNumber_56
        · have h54 := ib_ne k48
          have b55 : Bd r46 (1) (1) := rf_nlo b46 (by decide : Bd 0 (0) (0)) h54
          clear g46_0
          refine lv_iload_n hx hb dX5_expectNumber_44 rfl (lv_at hl 1 rfl) ?_
          exact xri E hr hlk hQ (⟨hI, o_refl, (ib_wk ba1 (by decide) (by decide))⟩) dX5_expectNumber_45
      · have h56 := ib_nle k43
        have b57 : Bd v8 (7) (2147483647) := ⟨((rf_lt ba2 b42 h56).2).1, (b42).2⟩
        refine lv_aload_n hx hb dX5_expectNumber_32 rfl (lv_at hl 0 rfl) ?_
        refine lv_iconst (v := 2) hx hb dX5_expectNumber_33 (by decide) ?_
        refine xcVv E hs hQ hml hl.1 94 (gX5_fail_94 l g ad hD S hI 2 (ib_wk (by decide : Bd 2 (2) (2)) (by decide) (by decide))) mX5_fail q679 (by decide) c12 rfl rfl ⟨(Nat.le_of_ble_eq_true rfl), (Nat.le_of_ble_eq_true rfl)⟩ ⟨(Nat.le_of_ble_eq_true rfl), (Nat.le_of_ble_eq_true rfl)⟩ (Nat.le_of_ble_eq_true rfl) rfl dX5_expectNumber_34 (fun S58 H locs hp58 hQ _ => ?_)
        obtain ⟨hI, o58, g58_0⟩ := hp58
        obtain ⟨v59, v61, v62, v64, v66, v67, v69, c70, b60, b63, b65, b68⟩ := invX_94 hI
        have c70 : S58 94 = .inr (5, [.ref (ad 1), .ref (ad 20), .int v59, .int v61, .int v62, .int v64, .int v66, .int v67, .int v69]) := c70
        have q71 : fld (S58 94) 7 = v67.toInt := fld_of c70 rfl
        have b72 : Bd v67 (1) (3) := ⟨by omega, by omega⟩
        refine lv_aload_n hx hb dX5_expectNumber_37 rfl (lv_at hl 0 rfl) ?_
        refine xcVi E hs hQ hml hl.1 94 (gX5_failed_94 l g ad hD S58 hI ) mX5_failed q610 (by decide) c70 rfl rfl ⟨(Nat.le_of_ble_eq_true rfl), (Nat.le_of_ble_eq_true rfl)⟩ ⟨(Nat.le_of_ble_eq_true rfl), (Nat.le_of_ble_eq_true rfl)⟩ (Nat.le_of_ble_eq_true rfl) rfl dX5_expectNumber_38 (fun r73 S73 H locs hp73 hQ _ => ?_)
        obtain ⟨rfl, b73, g73_0⟩ := hp73
        refine lv_if_eq (tgt := 46) hx hb dX5_expectNumber_41 (by decide) (fun k74 => ?_) (fun k74 => ?_)
        · have h75 := ib_eq k74
          have b76 : Bd r73 (0) (0) := ⟨(b73).1, ((rf_eq b73 (by decide : Bd 0 (0) (0)) h75).1).2⟩
          have g77 := g73_0.resolve_left (by omega)
          clear g73_0
          exact (by omega : False).elim
        · have h78 := ib_ne k74
          have b79 : Bd r73 (1) (1) := rf_nlo b73 (by decide : Bd 0 (0) (0)) h78
          clear g73_0
          refine lv_iload_n hx hb dX5_expectNumber_44 rfl (lv_at hl 1 rfl) ?_
          exact xri E hr hlk hQ (⟨hI, (o_trans o_refl o58 (by decide)), (ib_wk ba1 (by decide) (by decide))⟩) dX5_expectNumber_45
  · have h80 := ib_ne k13
    refine lv_aload_n hx hb dX5_expectNumber_8 rfl (lv_at hl 0 rfl) ?_
    refine lv_iconst (v := 1) hx hb dX5_expectNumber_9 (by decide) ?_
    refine xcVv E hs hQ hml hl.1 94 (gX5_fail_94 l g ad hD S hI 1 (ib_wk (by decide : Bd 1 (1) (1)) (by decide) (by decide))) mX5_fail q679 (by decide) c12 rfl rfl ⟨(Nat.le_of_ble_eq_true rfl), (Nat.le_of_ble_eq_true rfl)⟩ ⟨(Nat.le_of_ble_eq_true rfl), (Nat.le_of_ble_eq_true rfl)⟩ (Nat.le_of_ble_eq_true rfl) rfl dX5_expectNumber_10 (fun S81 H locs hp81 hQ _ => ?_)
    obtain ⟨hI, o81, g81_0⟩ := hp81
    obtain ⟨v82, v84, v85, v87, v89, v90, v92, c93, b83, b86, b88, b91⟩ := invX_94 hI
    have c93 : S81 94 = .inr (5, [.ref (ad 1), .ref (ad 20), .int v82, .int v84, .int v85, .int v87, .int v89, .int v90, .int v92]) := c93
    have q94 : fld (S81 94) 7 = v90.toInt := fld_of c93 rfl
    have b95 : Bd v90 (1) (3) := ⟨by omega, by omega⟩
    refine lv_goto (tgt := 37) hx hb dX5_expectNumber_13 (by decide) ?_
    refine lv_aload_n hx hb dX5_expectNumber_37 rfl (lv_at hl 0 rfl) ?_
    refine xcVi E hs hQ hml hl.1 94 (gX5_failed_94 l g ad hD S81 hI ) mX5_failed q610 (by decide) c93 rfl rfl ⟨(Nat.le_of_ble_eq_true rfl), (Nat.le_of_ble_eq_true rfl)⟩ ⟨(Nat.le_of_ble_eq_true rfl), (Nat.le_of_ble_eq_true rfl)⟩ (Nat.le_of_ble_eq_true rfl) rfl dX5_expectNumber_38 (fun r96 S96 H locs hp96 hQ _ => ?_)
    obtain ⟨rfl, b96, g96_0⟩ := hp96
    refine lv_if_eq (tgt := 46) hx hb dX5_expectNumber_41 (by decide) (fun k97 => ?_) (fun k97 => ?_)
    · have h98 := ib_eq k97
      have b99 : Bd r96 (0) (0) := ⟨(b96).1, ((rf_eq b96 (by decide : Bd 0 (0) (0)) h98).1).2⟩
      have g100 := g96_0.resolve_left (by omega)
      clear g96_0
      exact (by omega : False).elim
    · have h101 := ib_ne k97
      have b102 : Bd r96 (1) (1) := rf_nlo b96 (by decide : Bd 0 (0) (0)) h101
      clear g96_0
      refine lv_iload_n hx hb dX5_expectNumber_44 rfl (lv_at hl 1 rfl) ?_
      exact xri E hr hlk hQ (⟨hI, (o_trans o_refl o81 (by decide)), (ib_wk ba1 (by decide) (by decide))⟩) dX5_expectNumber_45
set_option maxHeartbeats 4000000 in
set_option maxRecDepth 100000 in
theorem gX5_expectNumber_3 (l : Launch) (g : GG) (ad : Nat → Nat) (hD : Dj ad 122) (S : SS) (hI : InvX g ad S) (a1 : Int32) (a2 : Int32) (ba1 : Bd a1 (0) (0)) (ba2 : Bd a2 (100) (100)) : Met l yX5_expectNumber (wG (.code yX5_expectNumber cX5_expectNumber 4 (some .int))) (Rm 2) (XPre g ad 122 S [.ref (ad 94), .int a1, .int a2]) (va_Qi (fun r S' => InvX g ad S' ∧ (∀ j, j ∉ ([94] : List Nat) → S' j = S j) ∧ Bd r (0) (100)) (QB g ad 122) (FA ad 122)) 0 0 (FA ad 122) := by
  refine xmet cX5_expectNumber "EbbWreck$Reader" (by decide) rfl (Nat.le_of_ble_eq_true rfl) (fun p e s m below meth c E hr hlk hml hQ ls hl => ?_)
  have hx := E.1
  have hb := E.2.1
  have hs : Sp ad 122 (FA ad 122) := Sp.fa hD
  have hl : lv_has ls 4 [(0, .ref (ad 94)), (1, .int a1), (2, .int a2)] := hl
  refine lv_aload_n hx hb dX5_expectNumber_0 rfl (lv_at hl 0 rfl) ?_
  obtain ⟨v1, v3, v4, v6, v8, v9, v11, c12, b2, b5, b7, b10⟩ := invX_94 hI
  have c12 : S 94 = .inr (5, [.ref (ad 1), .ref (ad 20), .int v1, .int v3, .int v4, .int v6, .int v8, .int v9, .int v11]) := c12
  refine xget E hQ 94 (by decide) c12 rfl 3 (by decide) q345 rfl dX5_expectNumber_1 ?_
  refine lv_iconst (v := 2) hx hb dX5_expectNumber_4 (by decide) ?_
  refine lv_icmp_eq (tgt := 16) hx hb dX5_expectNumber_5 (by decide) (fun k13 => ?_) (fun k13 => ?_)
  · have h14 := ib_eq k13
    have b15 : Bd v3 (2) (2) := ⟨((rf_eq (ib_full v3) (by decide : Bd 2 (2) (2)) h14).1).1, ((rf_eq (ib_full v3) (by decide : Bd 2 (2) (2)) h14).1).2⟩
    refine lv_aload_n hx hb dX5_expectNumber_16 rfl (lv_at hl 0 rfl) ?_
    refine xget E hQ 94 (by decide) c12 rfl 6 (by decide) q348 rfl dX5_expectNumber_17 ?_
    refine lv_iload_n hx hb dX5_expectNumber_20 rfl (lv_at hl 1 rfl) ?_
    refine lv_icmp_lt (tgt := 32) hx hb dX5_expectNumber_21 (by decide) (fun k16 => ?_) (fun k16 => ?_)
    · have h17 := ib_lt k16
      have b18 : Bd v8 (-2147483648) (-1) := ⟨((ib_full v8)).1, ((rf_lt (ib_full v8) ba1 h17).1).2⟩
      refine lv_aload_n hx hb dX5_expectNumber_32 rfl (lv_at hl 0 rfl) ?_
      refine lv_iconst (v := 2) hx hb dX5_expectNumber_33 (by decide) ?_
      refine xcVv E hs hQ hml hl.1 94 (gX5_fail_94 l g ad hD S hI 2 (ib_wk (by decide : Bd 2 (2) (2)) (by decide) (by decide))) mX5_fail q679 (by decide) c12 rfl rfl ⟨(Nat.le_of_ble_eq_true rfl), (Nat.le_of_ble_eq_true rfl)⟩ ⟨(Nat.le_of_ble_eq_true rfl), (Nat.le_of_ble_eq_true rfl)⟩ (Nat.le_of_ble_eq_true rfl) rfl dX5_expectNumber_34 (fun S19 H locs hp19 hQ _ => ?_)
      obtain ⟨hI, o19, g19_0⟩ := hp19
      obtain ⟨v20, v22, v23, v25, v27, v28, v30, c31, b21, b24, b26, b29⟩ := invX_94 hI
      have c31 : S19 94 = .inr (5, [.ref (ad 1), .ref (ad 20), .int v20, .int v22, .int v23, .int v25, .int v27, .int v28, .int v30]) := c31
      have q32 : fld (S19 94) 7 = v28.toInt := fld_of c31 rfl
      have b33 : Bd v28 (1) (3) := ⟨by omega, by omega⟩
      refine lv_aload_n hx hb dX5_expectNumber_37 rfl (lv_at hl 0 rfl) ?_
      refine xcVi E hs hQ hml hl.1 94 (gX5_failed_94 l g ad hD S19 hI ) mX5_failed q610 (by decide) c31 rfl rfl ⟨(Nat.le_of_ble_eq_true rfl), (Nat.le_of_ble_eq_true rfl)⟩ ⟨(Nat.le_of_ble_eq_true rfl), (Nat.le_of_ble_eq_true rfl)⟩ (Nat.le_of_ble_eq_true rfl) rfl dX5_expectNumber_38 (fun r34 S34 H locs hp34 hQ _ => ?_)
      obtain ⟨rfl, b34, g34_0⟩ := hp34
      refine lv_if_eq (tgt := 46) hx hb dX5_expectNumber_41 (by decide) (fun k35 => ?_) (fun k35 => ?_)
      · have h36 := ib_eq k35
        have b37 : Bd r34 (0) (0) := ⟨(b34).1, ((rf_eq b34 (by decide : Bd 0 (0) (0)) h36).1).2⟩
        have g38 := g34_0.resolve_left (by omega)
        clear g34_0
        exact (by omega : False).elim
      · have h39 := ib_ne k35
        have b40 : Bd r34 (1) (1) := rf_nlo b34 (by decide : Bd 0 (0) (0)) h39
        clear g34_0
        refine lv_iload_n hx hb dX5_expectNumber_44 rfl (lv_at hl 1 rfl) ?_
        exact xri E hr hlk hQ (⟨hI, (o_trans o_refl o19 (by decide)), (ib_wk ba1 (by decide) (by decide))⟩) dX5_expectNumber_45
    · have h41 := ib_nlt k16
      have b42 : Bd v8 (0) (2147483647) := ⟨((rf_le ba1 (ib_full v8) h41).2).1, ((ib_full v8)).2⟩
      refine lv_aload_n hx hb dX5_expectNumber_24 rfl (lv_at hl 0 rfl) ?_
      refine xget E hQ 94 (by decide) c12 rfl 6 (by decide) q348 rfl dX5_expectNumber_25 ?_
      refine lv_iload_n hx hb dX5_expectNumber_28 rfl (lv_at hl 2 rfl) ?_
      refine lv_icmp_le (tgt := 37) hx hb dX5_expectNumber_29 (by decide) (fun k43 => ?_) (fun k43 => ?_)
      · have h44 := ib_le k43
        have b45 : Bd v8 (0) (100) := ⟨(b42).1, ((rf_le b42 ba2 h44).1).2⟩
        refine lv_aload_n hx hb dX5_expectNumber_37 rfl (lv_at hl 0 rfl) ?_
        refine xcVi E hs hQ hml hl.1 94 (gX5_failed_94 l g ad hD S hI ) mX5_failed q610 (by decide) c12 rfl rfl ⟨(Nat.le_of_ble_eq_true rfl), (Nat.le_of_ble_eq_true rfl)⟩ ⟨(Nat.le_of_ble_eq_true rfl), (Nat.le_of_ble_eq_true rfl)⟩ (Nat.le_of_ble_eq_true rfl) rfl dX5_expectNumber_38 (fun r46 S46 H locs hp46 hQ _ => ?_)
        obtain ⟨rfl, b46, g46_0⟩ := hp46
        have q47 : fld (S 94) 7 = v9.toInt := fld_of c12 rfl
        refine lv_if_eq (tgt := 46) hx hb dX5_expectNumber_41 (by decide) (fun k48 => ?_) (fun k48 => ?_)
        · have h49 := ib_eq k48
          have b50 : Bd r46 (0) (0) := ⟨(b46).1, ((rf_eq b46 (by decide : Bd 0 (0) (0)) h49).1).2⟩
          have g51 := g46_0.resolve_left (by omega)
          clear g46_0
          have b52 : Bd v9 (0) (0) := ⟨by omega, by omega⟩
          refine lv_aload_n hx hb dX5_expectNumber_46 rfl (lv_at hl 0 rfl) ?_
          refine xget E hQ 94 (by decide) c12 rfl 6 (by decide) q348 rfl dX5_expectNumber_47 ?_
          refine lv_istore_n (lv' := [(3, .int v8), (0, .ref (ad 94)), (1, .int a1), (2, .int a2)]) hx hb dX5_expectNumber_50 rfl hl (by decide) rfl (fun ls hl => ?_)
          refine lv_aload_n hx hb dX5_expectNumber_51 rfl (lv_at hl 1 rfl) ?_
          refine xcVv E hs hQ hml hl.1 94 (gX5_advance_94 l g ad hD S hI ) mX5_advance q598 (by decide) c12 rfl rfl ⟨(Nat.le_of_ble_eq_true rfl), (Nat.le_of_ble_eq_true rfl)⟩ ⟨(Nat.le_of_ble_eq_true rfl), (Nat.le_of_ble_eq_true rfl)⟩ (Nat.le_of_ble_eq_true rfl) rfl dX5_expectNumber_52 (fun S53 H locs hp53 hQ _ => ?_)
          obtain ⟨hI, o53⟩ := hp53
          refine lv_iload_n hx hb dX5_expectNumber_55 rfl (lv_at hl 0 rfl) ?_
          exact xri E hr hlk hQ (⟨hI, (o_trans o_refl o53 (by decide)), b45⟩) dX5_expectNumber_56
        · have h54 := ib_ne k48
          have b55 : Bd r46 (1) (1) := rf_nlo b46 (by decide : Bd 0 (0) (0)) h54
          clear g46_0
          refine lv_iload_n hx hb dX5_expectNumber_44 rfl (lv_at hl 1 rfl) ?_
          exact xri E hr hlk hQ (⟨hI, o_refl, (ib_wk ba1 (by decide) (by decide))⟩) dX5_expectNumber_45
      · have h56 := ib_nle k43
        have b57 : Bd v8 (101) (2147483647) := ⟨((rf_lt ba2 b42 h56).2).1, (b42).2⟩
        refine lv_aload_n hx hb dX5_expectNumber_32 rfl (lv_at hl 0 rfl) ?_
        refine lv_iconst (v := 2) hx hb dX5_expectNumber_33 (by decide) ?_
        refine xcVv E hs hQ hml hl.1 94 (gX5_fail_94 l g ad hD S hI 2 (ib_wk (by decide : Bd 2 (2) (2)) (by decide) (by decide))) mX5_fail q679 (by decide) c12 rfl rfl ⟨(Nat.le_of_ble_eq_true rfl), (Nat.le_of_ble_eq_true rfl)⟩ ⟨(Nat.le_of_ble_eq_true rfl), (Nat.le_of_ble_eq_true rfl)⟩ (Nat.le_of_ble_eq_true rfl) rfl dX5_expectNumber_34 (fun S58 H locs hp58 hQ _ => ?_)
        obtain ⟨hI, o58, g58_0⟩ := hp58
        obtain ⟨v59, v61, v62, v64, v66, v67, v69, c70, b60, b63, b65, b68⟩ := invX_94 hI
        have c70 : S58 94 = .inr (5, [.ref (ad 1), .ref (ad 20), .int v59, .int v61, .int v62, .int v64, .int v66, .int v67, .int v69]) := c70
        have q71 : fld (S58 94) 7 = v67.toInt := fld_of c70 rfl
        have b72 : Bd v67 (1) (3) := ⟨by omega, by omega⟩
        refine lv_aload_n hx hb dX5_expectNumber_37 rfl (lv_at hl 0 rfl) ?_
        refine xcVi E hs hQ hml hl.1 94 (gX5_failed_94 l g ad hD S58 hI ) mX5_failed q610 (by decide) c70 rfl rfl ⟨(Nat.le_of_ble_eq_true rfl), (Nat.le_of_ble_eq_true rfl)⟩ ⟨(Nat.le_of_ble_eq_true rfl), (Nat.le_of_ble_eq_true rfl)⟩ (Nat.le_of_ble_eq_true rfl) rfl dX5_expectNumber_38 (fun r73 S73 H locs hp73 hQ _ => ?_)
        obtain ⟨rfl, b73, g73_0⟩ := hp73
        refine lv_if_eq (tgt := 46) hx hb dX5_expectNumber_41 (by decide) (fun k74 => ?_) (fun k74 => ?_)
        · have h75 := ib_eq k74
          have b76 : Bd r73 (0) (0) := ⟨(b73).1, ((rf_eq b73 (by decide : Bd 0 (0) (0)) h75).1).2⟩
          have g77 := g73_0.resolve_left (by omega)
          clear g73_0
          exact (by omega : False).elim
        · have h78 := ib_ne k74
          have b79 : Bd r73 (1) (1) := rf_nlo b73 (by decide : Bd 0 (0) (0)) h78
          clear g73_0
          refine lv_iload_n hx hb dX5_expectNumber_44 rfl (lv_at hl 1 rfl) ?_
          exact xri E hr hlk hQ (⟨hI, (o_trans o_refl o58 (by decide)), (ib_wk ba1 (by decide) (by decide))⟩) dX5_expectNumber_45
  · have h80 := ib_ne k13
    refine lv_aload_n hx hb dX5_expectNumber_8 rfl (lv_at hl 0 rfl) ?_
    refine lv_iconst (v := 1) hx hb dX5_expectNumber_9 (by decide) ?_
    refine xcVv E hs hQ hml hl.1 94 (gX5_fail_94 l g ad hD S hI 1 (ib_wk (by decide : Bd 1 (1) (1)) (by decide) (by decide))) mX5_fail q679 (by decide) c12 rfl rfl ⟨(Nat.le_of_ble_eq_true rfl), (Nat.le_of_ble_eq_true rfl)⟩ ⟨(Nat.le_of_ble_eq_true rfl), (Nat.le_of_ble_eq_true rfl)⟩ (Nat.le_of_ble_eq_true rfl) rfl dX5_expectNumber_10 (fun S81 H locs hp81 hQ _ => ?_)
    obtain ⟨hI, o81, g81_0⟩ := hp81
    obtain ⟨v82, v84, v85, v87, v89, v90, v92, c93, b83, b86, b88, b91⟩ := invX_94 hI
    have c93 : S81 94 = .inr (5, [.ref (ad 1), .ref (ad 20), .int v82, .int v84, .int v85, .int v87, .int v89, .int v90, .int v92]) := c93
    have q94 : fld (S81 94) 7 = v90.toInt := fld_of c93 rfl
    have b95 : Bd v90 (1) (3) := ⟨by omega, by omega⟩
    refine lv_goto (tgt := 37) hx hb dX5_expectNumber_13 (by decide) ?_
    refine lv_aload_n hx hb dX5_expectNumber_37 rfl (lv_at hl 0 rfl) ?_
    refine xcVi E hs hQ hml hl.1 94 (gX5_failed_94 l g ad hD S81 hI ) mX5_failed q610 (by decide) c93 rfl rfl ⟨(Nat.le_of_ble_eq_true rfl), (Nat.le_of_ble_eq_true rfl)⟩ ⟨(Nat.le_of_ble_eq_true rfl), (Nat.le_of_ble_eq_true rfl)⟩ (Nat.le_of_ble_eq_true rfl) rfl dX5_expectNumber_38 (fun r96 S96 H locs hp96 hQ _ => ?_)
    obtain ⟨rfl, b96, g96_0⟩ := hp96
    refine lv_if_eq (tgt := 46) hx hb dX5_expectNumber_41 (by decide) (fun k97 => ?_) (fun k97 => ?_)
    · have h98 := ib_eq k97
      have b99 : Bd r96 (0) (0) := ⟨(b96).1, ((rf_eq b96 (by decide : Bd 0 (0) (0)) h98).1).2⟩
      have g100 := g96_0.resolve_left (by omega)
      clear g96_0
      exact (by omega : False).elim
    · have h101 := ib_ne k97
      have b102 : Bd r96 (1) (1) := rf_nlo b96 (by decide : Bd 0 (0) (0)) h101
      clear g96_0
      refine lv_iload_n hx hb dX5_expectNumber_44 rfl (lv_at hl 1 rfl) ?_
      exact xri E hr hlk hQ (⟨hI, (o_trans o_refl o81 (by decide)), (ib_wk ba1 (by decide) (by decide))⟩) dX5_expectNumber_45
set_option maxHeartbeats 4000000 in
set_option maxRecDepth 100000 in
theorem gX5_expectNumber_4 (l : Launch) (g : GG) (ad : Nat → Nat) (hD : Dj ad 122) (S : SS) (hI : InvX g ad S) (a1 : Int32) (a2 : Int32) (ba1 : Bd a1 (0) (0)) (ba2 : Bd a2 (3) (3)) : Met l yX5_expectNumber (wG (.code yX5_expectNumber cX5_expectNumber 4 (some .int))) (Rm 2) (XPre g ad 122 S [.ref (ad 94), .int a1, .int a2]) (va_Qi (fun r S' => InvX g ad S' ∧ (∀ j, j ∉ ([94] : List Nat) → S' j = S j) ∧ Bd r (0) (3)) (QB g ad 122) (FA ad 122)) 0 0 (FA ad 122) := by
  refine xmet cX5_expectNumber "EbbWreck$Reader" (by decide) rfl (Nat.le_of_ble_eq_true rfl) (fun p e s m below meth c E hr hlk hml hQ ls hl => ?_)
  have hx := E.1
  have hb := E.2.1
  have hs : Sp ad 122 (FA ad 122) := Sp.fa hD
  have hl : lv_has ls 4 [(0, .ref (ad 94)), (1, .int a1), (2, .int a2)] := hl
  refine lv_aload_n hx hb dX5_expectNumber_0 rfl (lv_at hl 0 rfl) ?_
  obtain ⟨v1, v3, v4, v6, v8, v9, v11, c12, b2, b5, b7, b10⟩ := invX_94 hI
  have c12 : S 94 = .inr (5, [.ref (ad 1), .ref (ad 20), .int v1, .int v3, .int v4, .int v6, .int v8, .int v9, .int v11]) := c12
  refine xget E hQ 94 (by decide) c12 rfl 3 (by decide) q345 rfl dX5_expectNumber_1 ?_
  refine lv_iconst (v := 2) hx hb dX5_expectNumber_4 (by decide) ?_
  refine lv_icmp_eq (tgt := 16) hx hb dX5_expectNumber_5 (by decide) (fun k13 => ?_) (fun k13 => ?_)
  · have h14 := ib_eq k13
    have b15 : Bd v3 (2) (2) := ⟨((rf_eq (ib_full v3) (by decide : Bd 2 (2) (2)) h14).1).1, ((rf_eq (ib_full v3) (by decide : Bd 2 (2) (2)) h14).1).2⟩
    refine lv_aload_n hx hb dX5_expectNumber_16 rfl (lv_at hl 0 rfl) ?_
    refine xget E hQ 94 (by decide) c12 rfl 6 (by decide) q348 rfl dX5_expectNumber_17 ?_
    refine lv_iload_n hx hb dX5_expectNumber_20 rfl (lv_at hl 1 rfl) ?_
    refine lv_icmp_lt (tgt := 32) hx hb dX5_expectNumber_21 (by decide) (fun k16 => ?_) (fun k16 => ?_)
    · have h17 := ib_lt k16
      have b18 : Bd v8 (-2147483648) (-1) := ⟨((ib_full v8)).1, ((rf_lt (ib_full v8) ba1 h17).1).2⟩
      refine lv_aload_n hx hb dX5_expectNumber_32 rfl (lv_at hl 0 rfl) ?_
      refine lv_iconst (v := 2) hx hb dX5_expectNumber_33 (by decide) ?_
      refine xcVv E hs hQ hml hl.1 94 (gX5_fail_94 l g ad hD S hI 2 (ib_wk (by decide : Bd 2 (2) (2)) (by decide) (by decide))) mX5_fail q679 (by decide) c12 rfl rfl ⟨(Nat.le_of_ble_eq_true rfl), (Nat.le_of_ble_eq_true rfl)⟩ ⟨(Nat.le_of_ble_eq_true rfl), (Nat.le_of_ble_eq_true rfl)⟩ (Nat.le_of_ble_eq_true rfl) rfl dX5_expectNumber_34 (fun S19 H locs hp19 hQ _ => ?_)
      obtain ⟨hI, o19, g19_0⟩ := hp19
      obtain ⟨v20, v22, v23, v25, v27, v28, v30, c31, b21, b24, b26, b29⟩ := invX_94 hI
      have c31 : S19 94 = .inr (5, [.ref (ad 1), .ref (ad 20), .int v20, .int v22, .int v23, .int v25, .int v27, .int v28, .int v30]) := c31
      have q32 : fld (S19 94) 7 = v28.toInt := fld_of c31 rfl
      have b33 : Bd v28 (1) (3) := ⟨by omega, by omega⟩
      refine lv_aload_n hx hb dX5_expectNumber_37 rfl (lv_at hl 0 rfl) ?_
      refine xcVi E hs hQ hml hl.1 94 (gX5_failed_94 l g ad hD S19 hI ) mX5_failed q610 (by decide) c31 rfl rfl ⟨(Nat.le_of_ble_eq_true rfl), (Nat.le_of_ble_eq_true rfl)⟩ ⟨(Nat.le_of_ble_eq_true rfl), (Nat.le_of_ble_eq_true rfl)⟩ (Nat.le_of_ble_eq_true rfl) rfl dX5_expectNumber_38 (fun r34 S34 H locs hp34 hQ _ => ?_)
      obtain ⟨rfl, b34, g34_0⟩ := hp34
      refine lv_if_eq (tgt := 46) hx hb dX5_expectNumber_41 (by decide) (fun k35 => ?_) (fun k35 => ?_)
      · have h36 := ib_eq k35
        have b37 : Bd r34 (0) (0) := ⟨(b34).1, ((rf_eq b34 (by decide : Bd 0 (0) (0)) h36).1).2⟩
        have g38 := g34_0.resolve_left (by omega)
        clear g34_0
        exact (by omega : False).elim
      · have h39 := ib_ne k35
        have b40 : Bd r34 (1) (1) := rf_nlo b34 (by decide : Bd 0 (0) (0)) h39
        clear g34_0
        refine lv_iload_n hx hb dX5_expectNumber_44 rfl (lv_at hl 1 rfl) ?_
        exact xri E hr hlk hQ (⟨hI, (o_trans o_refl o19 (by decide)), (ib_wk ba1 (by decide) (by decide))⟩) dX5_expectNumber_45
    · have h41 := ib_nlt k16
      have b42 : Bd v8 (0) (2147483647) := ⟨((rf_le ba1 (ib_full v8) h41).2).1, ((ib_full v8)).2⟩
      refine lv_aload_n hx hb dX5_expectNumber_24 rfl (lv_at hl 0 rfl) ?_
      refine xget E hQ 94 (by decide) c12 rfl 6 (by decide) q348 rfl dX5_expectNumber_25 ?_
      refine lv_iload_n hx hb dX5_expectNumber_28 rfl (lv_at hl 2 rfl) ?_
      refine lv_icmp_le (tgt := 37) hx hb dX5_expectNumber_29 (by decide) (fun k43 => ?_) (fun k43 => ?_)
      · have h44 := ib_le k43
        have b45 : Bd v8 (0) (3) := ⟨(b42).1, ((rf_le b42 ba2 h44).1).2⟩
        refine lv_aload_n hx hb dX5_expectNumber_37 rfl (lv_at hl 0 rfl) ?_
        refine xcVi E hs hQ hml hl.1 94 (gX5_failed_94 l g ad hD S hI ) mX5_failed q610 (by decide) c12 rfl rfl ⟨(Nat.le_of_ble_eq_true rfl), (Nat.le_of_ble_eq_true rfl)⟩ ⟨(Nat.le_of_ble_eq_true rfl), (Nat.le_of_ble_eq_true rfl)⟩ (Nat.le_of_ble_eq_true rfl) rfl dX5_expectNumber_38 (fun r46 S46 H locs hp46 hQ _ => ?_)
        obtain ⟨rfl, b46, g46_0⟩ := hp46
        have q47 : fld (S 94) 7 = v9.toInt := fld_of c12 rfl
        refine lv_if_eq (tgt := 46) hx hb dX5_expectNumber_41 (by decide) (fun k48 => ?_) (fun k48 => ?_)
        · have h49 := ib_eq k48
          have b50 : Bd r46 (0) (0) := ⟨(b46).1, ((rf_eq b46 (by decide : Bd 0 (0) (0)) h49).1).2⟩
          have g51 := g46_0.resolve_left (by omega)
          clear g46_0
          have b52 : Bd v9 (0) (0) := ⟨by omega, by omega⟩
          refine lv_aload_n hx hb dX5_expectNumber_46 rfl (lv_at hl 0 rfl) ?_
          refine xget E hQ 94 (by decide) c12 rfl 6 (by decide) q348 rfl dX5_expectNumber_47 ?_
          refine lv_istore_n (lv' := [(3, .int v8), (0, .ref (ad 94)), (1, .int a1), (2, .int a2)]) hx hb dX5_expectNumber_50 rfl hl (by decide) rfl (fun ls hl => ?_)
          refine lv_aload_n hx hb dX5_expectNumber_51 rfl (lv_at hl 1 rfl) ?_
          refine xcVv E hs hQ hml hl.1 94 (gX5_advance_94 l g ad hD S hI ) mX5_advance q598 (by decide) c12 rfl rfl ⟨(Nat.le_of_ble_eq_true rfl), (Nat.le_of_ble_eq_true rfl)⟩ ⟨(Nat.le_of_ble_eq_true rfl), (Nat.le_of_ble_eq_true rfl)⟩ (Nat.le_of_ble_eq_true rfl) rfl dX5_expectNumber_52 (fun S53 H locs hp53 hQ _ => ?_)
          obtain ⟨hI, o53⟩ := hp53
          refine lv_iload_n hx hb dX5_expectNumber_55 rfl (lv_at hl 0 rfl) ?_
          exact xri E hr hlk hQ (⟨hI, (o_trans o_refl o53 (by decide)), b45⟩) dX5_expectNumber_56
        · have h54 := ib_ne k48
          have b55 : Bd r46 (1) (1) := rf_nlo b46 (by decide : Bd 0 (0) (0)) h54
          clear g46_0
          refine lv_iload_n hx hb dX5_expectNumber_44 rfl (lv_at hl 1 rfl) ?_
          exact xri E hr hlk hQ (⟨hI, o_refl, (ib_wk ba1 (by decide) (by decide))⟩) dX5_expectNumber_45
      · have h56 := ib_nle k43
        have b57 : Bd v8 (4) (2147483647) := ⟨((rf_lt ba2 b42 h56).2).1, (b42).2⟩
        refine lv_aload_n hx hb dX5_expectNumber_32 rfl (lv_at hl 0 rfl) ?_
        refine lv_iconst (v := 2) hx hb dX5_expectNumber_33 (by decide) ?_
        refine xcVv E hs hQ hml hl.1 94 (gX5_fail_94 l g ad hD S hI 2 (ib_wk (by decide : Bd 2 (2) (2)) (by decide) (by decide))) mX5_fail q679 (by decide) c12 rfl rfl ⟨(Nat.le_of_ble_eq_true rfl), (Nat.le_of_ble_eq_true rfl)⟩ ⟨(Nat.le_of_ble_eq_true rfl), (Nat.le_of_ble_eq_true rfl)⟩ (Nat.le_of_ble_eq_true rfl) rfl dX5_expectNumber_34 (fun S58 H locs hp58 hQ _ => ?_)
        obtain ⟨hI, o58, g58_0⟩ := hp58
        obtain ⟨v59, v61, v62, v64, v66, v67, v69, c70, b60, b63, b65, b68⟩ := invX_94 hI
        have c70 : S58 94 = .inr (5, [.ref (ad 1), .ref (ad 20), .int v59, .int v61, .int v62, .int v64, .int v66, .int v67, .int v69]) := c70
        have q71 : fld (S58 94) 7 = v67.toInt := fld_of c70 rfl
        have b72 : Bd v67 (1) (3) := ⟨by omega, by omega⟩
        refine lv_aload_n hx hb dX5_expectNumber_37 rfl (lv_at hl 0 rfl) ?_
        refine xcVi E hs hQ hml hl.1 94 (gX5_failed_94 l g ad hD S58 hI ) mX5_failed q610 (by decide) c70 rfl rfl ⟨(Nat.le_of_ble_eq_true rfl), (Nat.le_of_ble_eq_true rfl)⟩ ⟨(Nat.le_of_ble_eq_true rfl), (Nat.le_of_ble_eq_true rfl)⟩ (Nat.le_of_ble_eq_true rfl) rfl dX5_expectNumber_38 (fun r73 S73 H locs hp73 hQ _ => ?_)
        obtain ⟨rfl, b73, g73_0⟩ := hp73
        refine lv_if_eq (tgt := 46) hx hb dX5_expectNumber_41 (by decide) (fun k74 => ?_) (fun k74 => ?_)
        · have h75 := ib_eq k74
          have b76 : Bd r73 (0) (0) := ⟨(b73).1, ((rf_eq b73 (by decide : Bd 0 (0) (0)) h75).1).2⟩
          have g77 := g73_0.resolve_left (by omega)
          clear g73_0
          exact (by omega : False).elim
        · have h78 := ib_ne k74
          have b79 : Bd r73 (1) (1) := rf_nlo b73 (by decide : Bd 0 (0) (0)) h78
          clear g73_0
          refine lv_iload_n hx hb dX5_expectNumber_44 rfl (lv_at hl 1 rfl) ?_
          exact xri E hr hlk hQ (⟨hI, (o_trans o_refl o58 (by decide)), (ib_wk ba1 (by decide) (by decide))⟩) dX5_expectNumber_45
  · have h80 := ib_ne k13
    refine lv_aload_n hx hb dX5_expectNumber_8 rfl (lv_at hl 0 rfl) ?_
    refine lv_iconst (v := 1) hx hb dX5_expectNumber_9 (by decide) ?_
    refine xcVv E hs hQ hml hl.1 94 (gX5_fail_94 l g ad hD S hI 1 (ib_wk (by decide : Bd 1 (1) (1)) (by decide) (by decide))) mX5_fail q679 (by decide) c12 rfl rfl ⟨(Nat.le_of_ble_eq_true rfl), (Nat.le_of_ble_eq_true rfl)⟩ ⟨(Nat.le_of_ble_eq_true rfl), (Nat.le_of_ble_eq_true rfl)⟩ (Nat.le_of_ble_eq_true rfl) rfl dX5_expectNumber_10 (fun S81 H locs hp81 hQ _ => ?_)
    obtain ⟨hI, o81, g81_0⟩ := hp81
    obtain ⟨v82, v84, v85, v87, v89, v90, v92, c93, b83, b86, b88, b91⟩ := invX_94 hI
    have c93 : S81 94 = .inr (5, [.ref (ad 1), .ref (ad 20), .int v82, .int v84, .int v85, .int v87, .int v89, .int v90, .int v92]) := c93
    have q94 : fld (S81 94) 7 = v90.toInt := fld_of c93 rfl
    have b95 : Bd v90 (1) (3) := ⟨by omega, by omega⟩
    refine lv_goto (tgt := 37) hx hb dX5_expectNumber_13 (by decide) ?_
    refine lv_aload_n hx hb dX5_expectNumber_37 rfl (lv_at hl 0 rfl) ?_
    refine xcVi E hs hQ hml hl.1 94 (gX5_failed_94 l g ad hD S81 hI ) mX5_failed q610 (by decide) c93 rfl rfl ⟨(Nat.le_of_ble_eq_true rfl), (Nat.le_of_ble_eq_true rfl)⟩ ⟨(Nat.le_of_ble_eq_true rfl), (Nat.le_of_ble_eq_true rfl)⟩ (Nat.le_of_ble_eq_true rfl) rfl dX5_expectNumber_38 (fun r96 S96 H locs hp96 hQ _ => ?_)
    obtain ⟨rfl, b96, g96_0⟩ := hp96
    refine lv_if_eq (tgt := 46) hx hb dX5_expectNumber_41 (by decide) (fun k97 => ?_) (fun k97 => ?_)
    · have h98 := ib_eq k97
      have b99 : Bd r96 (0) (0) := ⟨(b96).1, ((rf_eq b96 (by decide : Bd 0 (0) (0)) h98).1).2⟩
      have g100 := g96_0.resolve_left (by omega)
      clear g96_0
      exact (by omega : False).elim
    · have h101 := ib_ne k97
      have b102 : Bd r96 (1) (1) := rf_nlo b96 (by decide : Bd 0 (0) (0)) h101
      clear g96_0
      refine lv_iload_n hx hb dX5_expectNumber_44 rfl (lv_at hl 1 rfl) ?_
      exact xri E hr hlk hQ (⟨hI, (o_trans o_refl o81 (by decide)), (ib_wk ba1 (by decide) (by decide))⟩) dX5_expectNumber_45
set_option maxHeartbeats 4000000 in
set_option maxRecDepth 100000 in
theorem gX5_expectNumber_5 (l : Launch) (g : GG) (ad : Nat → Nat) (hD : Dj ad 122) (S : SS) (hI : InvX g ad S) (a1 : Int32) (a2 : Int32) (ba1 : Bd a1 (0) (0)) (ba2 : Bd a2 (999) (999)) : Met l yX5_expectNumber (wG (.code yX5_expectNumber cX5_expectNumber 4 (some .int))) (Rm 2) (XPre g ad 122 S [.ref (ad 94), .int a1, .int a2]) (va_Qi (fun r S' => InvX g ad S' ∧ (∀ j, j ∉ ([94] : List Nat) → S' j = S j) ∧ Bd r (0) (999)) (QB g ad 122) (FA ad 122)) 0 0 (FA ad 122) := by
  refine xmet cX5_expectNumber "EbbWreck$Reader" (by decide) rfl (Nat.le_of_ble_eq_true rfl) (fun p e s m below meth c E hr hlk hml hQ ls hl => ?_)
  have hx := E.1
  have hb := E.2.1
  have hs : Sp ad 122 (FA ad 122) := Sp.fa hD
  have hl : lv_has ls 4 [(0, .ref (ad 94)), (1, .int a1), (2, .int a2)] := hl
  refine lv_aload_n hx hb dX5_expectNumber_0 rfl (lv_at hl 0 rfl) ?_
  obtain ⟨v1, v3, v4, v6, v8, v9, v11, c12, b2, b5, b7, b10⟩ := invX_94 hI
  have c12 : S 94 = .inr (5, [.ref (ad 1), .ref (ad 20), .int v1, .int v3, .int v4, .int v6, .int v8, .int v9, .int v11]) := c12
  refine xget E hQ 94 (by decide) c12 rfl 3 (by decide) q345 rfl dX5_expectNumber_1 ?_
  refine lv_iconst (v := 2) hx hb dX5_expectNumber_4 (by decide) ?_
  refine lv_icmp_eq (tgt := 16) hx hb dX5_expectNumber_5 (by decide) (fun k13 => ?_) (fun k13 => ?_)
  · have h14 := ib_eq k13
    have b15 : Bd v3 (2) (2) := ⟨((rf_eq (ib_full v3) (by decide : Bd 2 (2) (2)) h14).1).1, ((rf_eq (ib_full v3) (by decide : Bd 2 (2) (2)) h14).1).2⟩
    refine lv_aload_n hx hb dX5_expectNumber_16 rfl (lv_at hl 0 rfl) ?_
    refine xget E hQ 94 (by decide) c12 rfl 6 (by decide) q348 rfl dX5_expectNumber_17 ?_
    refine lv_iload_n hx hb dX5_expectNumber_20 rfl (lv_at hl 1 rfl) ?_
    refine lv_icmp_lt (tgt := 32) hx hb dX5_expectNumber_21 (by decide) (fun k16 => ?_) (fun k16 => ?_)
    · have h17 := ib_lt k16
      have b18 : Bd v8 (-2147483648) (-1) := ⟨((ib_full v8)).1, ((rf_lt (ib_full v8) ba1 h17).1).2⟩
      refine lv_aload_n hx hb dX5_expectNumber_32 rfl (lv_at hl 0 rfl) ?_
      refine lv_iconst (v := 2) hx hb dX5_expectNumber_33 (by decide) ?_
      refine xcVv E hs hQ hml hl.1 94 (gX5_fail_94 l g ad hD S hI 2 (ib_wk (by decide : Bd 2 (2) (2)) (by decide) (by decide))) mX5_fail q679 (by decide) c12 rfl rfl ⟨(Nat.le_of_ble_eq_true rfl), (Nat.le_of_ble_eq_true rfl)⟩ ⟨(Nat.le_of_ble_eq_true rfl), (Nat.le_of_ble_eq_true rfl)⟩ (Nat.le_of_ble_eq_true rfl) rfl dX5_expectNumber_34 (fun S19 H locs hp19 hQ _ => ?_)
      obtain ⟨hI, o19, g19_0⟩ := hp19
      obtain ⟨v20, v22, v23, v25, v27, v28, v30, c31, b21, b24, b26, b29⟩ := invX_94 hI
      have c31 : S19 94 = .inr (5, [.ref (ad 1), .ref (ad 20), .int v20, .int v22, .int v23, .int v25, .int v27, .int v28, .int v30]) := c31
      have q32 : fld (S19 94) 7 = v28.toInt := fld_of c31 rfl
      have b33 : Bd v28 (1) (3) := ⟨by omega, by omega⟩
      refine lv_aload_n hx hb dX5_expectNumber_37 rfl (lv_at hl 0 rfl) ?_
      refine xcVi E hs hQ hml hl.1 94 (gX5_failed_94 l g ad hD S19 hI ) mX5_failed q610 (by decide) c31 rfl rfl ⟨(Nat.le_of_ble_eq_true rfl), (Nat.le_of_ble_eq_true rfl)⟩ ⟨(Nat.le_of_ble_eq_true rfl), (Nat.le_of_ble_eq_true rfl)⟩ (Nat.le_of_ble_eq_true rfl) rfl dX5_expectNumber_38 (fun r34 S34 H locs hp34 hQ _ => ?_)
      obtain ⟨rfl, b34, g34_0⟩ := hp34
      refine lv_if_eq (tgt := 46) hx hb dX5_expectNumber_41 (by decide) (fun k35 => ?_) (fun k35 => ?_)
      · have h36 := ib_eq k35
        have b37 : Bd r34 (0) (0) := ⟨(b34).1, ((rf_eq b34 (by decide : Bd 0 (0) (0)) h36).1).2⟩
        have g38 := g34_0.resolve_left (by omega)
        clear g34_0
        exact (by omega : False).elim
      · have h39 := ib_ne k35
        have b40 : Bd r34 (1) (1) := rf_nlo b34 (by decide : Bd 0 (0) (0)) h39
        clear g34_0
        refine lv_iload_n hx hb dX5_expectNumber_44 rfl (lv_at hl 1 rfl) ?_
        exact xri E hr hlk hQ (⟨hI, (o_trans o_refl o19 (by decide)), (ib_wk ba1 (by decide) (by decide))⟩) dX5_expectNumber_45
    · have h41 := ib_nlt k16
      have b42 : Bd v8 (0) (2147483647) := ⟨((rf_le ba1 (ib_full v8) h41).2).1, ((ib_full v8)).2⟩
      refine lv_aload_n hx hb dX5_expectNumber_24 rfl (lv_at hl 0 rfl) ?_
      refine xget E hQ 94 (by decide) c12 rfl 6 (by decide) q348 rfl dX5_expectNumber_25 ?_
      refine lv_iload_n hx hb dX5_expectNumber_28 rfl (lv_at hl 2 rfl) ?_
      refine lv_icmp_le (tgt := 37) hx hb dX5_expectNumber_29 (by decide) (fun k43 => ?_) (fun k43 => ?_)
      · have h44 := ib_le k43
        have b45 : Bd v8 (0) (999) := ⟨(b42).1, ((rf_le b42 ba2 h44).1).2⟩
        refine lv_aload_n hx hb dX5_expectNumber_37 rfl (lv_at hl 0 rfl) ?_
        refine xcVi E hs hQ hml hl.1 94 (gX5_failed_94 l g ad hD S hI ) mX5_failed q610 (by decide) c12 rfl rfl ⟨(Nat.le_of_ble_eq_true rfl), (Nat.le_of_ble_eq_true rfl)⟩ ⟨(Nat.le_of_ble_eq_true rfl), (Nat.le_of_ble_eq_true rfl)⟩ (Nat.le_of_ble_eq_true rfl) rfl dX5_expectNumber_38 (fun r46 S46 H locs hp46 hQ _ => ?_)
        obtain ⟨rfl, b46, g46_0⟩ := hp46
        have q47 : fld (S 94) 7 = v9.toInt := fld_of c12 rfl
        refine lv_if_eq (tgt := 46) hx hb dX5_expectNumber_41 (by decide) (fun k48 => ?_) (fun k48 => ?_)
        · have h49 := ib_eq k48
          have b50 : Bd r46 (0) (0) := ⟨(b46).1, ((rf_eq b46 (by decide : Bd 0 (0) (0)) h49).1).2⟩
          have g51 := g46_0.resolve_left (by omega)
          clear g46_0
          have b52 : Bd v9 (0) (0) := ⟨by omega, by omega⟩
          refine lv_aload_n hx hb dX5_expectNumber_46 rfl (lv_at hl 0 rfl) ?_
          refine xget E hQ 94 (by decide) c12 rfl 6 (by decide) q348 rfl dX5_expectNumber_47 ?_
          refine lv_istore_n (lv' := [(3, .int v8), (0, .ref (ad 94)), (1, .int a1), (2, .int a2)]) hx hb dX5_expectNumber_50 rfl hl (by decide) rfl (fun ls hl => ?_)
          refine lv_aload_n hx hb dX5_expectNumber_51 rfl (lv_at hl 1 rfl) ?_
          refine xcVv E hs hQ hml hl.1 94 (gX5_advance_94 l g ad hD S hI ) mX5_advance q598 (by decide) c12 rfl rfl ⟨(Nat.le_of_ble_eq_true rfl), (Nat.le_of_ble_eq_true rfl)⟩ ⟨(Nat.le_of_ble_eq_true rfl), (Nat.le_of_ble_eq_true rfl)⟩ (Nat.le_of_ble_eq_true rfl) rfl dX5_expectNumber_52 (fun S53 H locs hp53 hQ _ => ?_)
          obtain ⟨hI, o53⟩ := hp53
          refine lv_iload_n hx hb dX5_expectNumber_55 rfl (lv_at hl 0 rfl) ?_
          exact xri E hr hlk hQ (⟨hI, (o_trans o_refl o53 (by decide)), b45⟩) dX5_expectNumber_56
        · have h54 := ib_ne k48
          have b55 : Bd r46 (1) (1) := rf_nlo b46 (by decide : Bd 0 (0) (0)) h54
          clear g46_0
          refine lv_iload_n hx hb dX5_expectNumber_44 rfl (lv_at hl 1 rfl) ?_
          exact xri E hr hlk hQ (⟨hI, o_refl, (ib_wk ba1 (by decide) (by decide))⟩) dX5_expectNumber_45
      · have h56 := ib_nle k43
        have b57 : Bd v8 (1000) (2147483647) := ⟨((rf_lt ba2 b42 h56).2).1, (b42).2⟩
        refine lv_aload_n hx hb dX5_expectNumber_32 rfl (lv_at hl 0 rfl) ?_
        refine lv_iconst (v := 2) hx hb dX5_expectNumber_33 (by decide) ?_
        refine xcVv E hs hQ hml hl.1 94 (gX5_fail_94 l g ad hD S hI 2 (ib_wk (by decide : Bd 2 (2) (2)) (by decide) (by decide))) mX5_fail q679 (by decide) c12 rfl rfl ⟨(Nat.le_of_ble_eq_true rfl), (Nat.le_of_ble_eq_true rfl)⟩ ⟨(Nat.le_of_ble_eq_true rfl), (Nat.le_of_ble_eq_true rfl)⟩ (Nat.le_of_ble_eq_true rfl) rfl dX5_expectNumber_34 (fun S58 H locs hp58 hQ _ => ?_)
        obtain ⟨hI, o58, g58_0⟩ := hp58
        obtain ⟨v59, v61, v62, v64, v66, v67, v69, c70, b60, b63, b65, b68⟩ := invX_94 hI
        have c70 : S58 94 = .inr (5, [.ref (ad 1), .ref (ad 20), .int v59, .int v61, .int v62, .int v64, .int v66, .int v67, .int v69]) := c70
        have q71 : fld (S58 94) 7 = v67.toInt := fld_of c70 rfl
        have b72 : Bd v67 (1) (3) := ⟨by omega, by omega⟩
        refine lv_aload_n hx hb dX5_expectNumber_37 rfl (lv_at hl 0 rfl) ?_
        refine xcVi E hs hQ hml hl.1 94 (gX5_failed_94 l g ad hD S58 hI ) mX5_failed q610 (by decide) c70 rfl rfl ⟨(Nat.le_of_ble_eq_true rfl), (Nat.le_of_ble_eq_true rfl)⟩ ⟨(Nat.le_of_ble_eq_true rfl), (Nat.le_of_ble_eq_true rfl)⟩ (Nat.le_of_ble_eq_true rfl) rfl dX5_expectNumber_38 (fun r73 S73 H locs hp73 hQ _ => ?_)
        obtain ⟨rfl, b73, g73_0⟩ := hp73
        refine lv_if_eq (tgt := 46) hx hb dX5_expectNumber_41 (by decide) (fun k74 => ?_) (fun k74 => ?_)
        · have h75 := ib_eq k74
          have b76 : Bd r73 (0) (0) := ⟨(b73).1, ((rf_eq b73 (by decide : Bd 0 (0) (0)) h75).1).2⟩
          have g77 := g73_0.resolve_left (by omega)
          clear g73_0
          exact (by omega : False).elim
        · have h78 := ib_ne k74
          have b79 : Bd r73 (1) (1) := rf_nlo b73 (by decide : Bd 0 (0) (0)) h78
          clear g73_0
          refine lv_iload_n hx hb dX5_expectNumber_44 rfl (lv_at hl 1 rfl) ?_
          exact xri E hr hlk hQ (⟨hI, (o_trans o_refl o58 (by decide)), (ib_wk ba1 (by decide) (by decide))⟩) dX5_expectNumber_45
  · have h80 := ib_ne k13
    refine lv_aload_n hx hb dX5_expectNumber_8 rfl (lv_at hl 0 rfl) ?_
    refine lv_iconst (v := 1) hx hb dX5_expectNumber_9 (by decide) ?_
    refine xcVv E hs hQ hml hl.1 94 (gX5_fail_94 l g ad hD S hI 1 (ib_wk (by decide : Bd 1 (1) (1)) (by decide) (by decide))) mX5_fail q679 (by decide) c12 rfl rfl ⟨(Nat.le_of_ble_eq_true rfl), (Nat.le_of_ble_eq_true rfl)⟩ ⟨(Nat.le_of_ble_eq_true rfl), (Nat.le_of_ble_eq_true rfl)⟩ (Nat.le_of_ble_eq_true rfl) rfl dX5_expectNumber_10 (fun S81 H locs hp81 hQ _ => ?_)
    obtain ⟨hI, o81, g81_0⟩ := hp81
    obtain ⟨v82, v84, v85, v87, v89, v90, v92, c93, b83, b86, b88, b91⟩ := invX_94 hI
    have c93 : S81 94 = .inr (5, [.ref (ad 1), .ref (ad 20), .int v82, .int v84, .int v85, .int v87, .int v89, .int v90, .int v92]) := c93
    have q94 : fld (S81 94) 7 = v90.toInt := fld_of c93 rfl
    have b95 : Bd v90 (1) (3) := ⟨by omega, by omega⟩
    refine lv_goto (tgt := 37) hx hb dX5_expectNumber_13 (by decide) ?_
    refine lv_aload_n hx hb dX5_expectNumber_37 rfl (lv_at hl 0 rfl) ?_
    refine xcVi E hs hQ hml hl.1 94 (gX5_failed_94 l g ad hD S81 hI ) mX5_failed q610 (by decide) c93 rfl rfl ⟨(Nat.le_of_ble_eq_true rfl), (Nat.le_of_ble_eq_true rfl)⟩ ⟨(Nat.le_of_ble_eq_true rfl), (Nat.le_of_ble_eq_true rfl)⟩ (Nat.le_of_ble_eq_true rfl) rfl dX5_expectNumber_38 (fun r96 S96 H locs hp96 hQ _ => ?_)
    obtain ⟨rfl, b96, g96_0⟩ := hp96
    refine lv_if_eq (tgt := 46) hx hb dX5_expectNumber_41 (by decide) (fun k97 => ?_) (fun k97 => ?_)
    · have h98 := ib_eq k97
      have b99 : Bd r96 (0) (0) := ⟨(b96).1, ((rf_eq b96 (by decide : Bd 0 (0) (0)) h98).1).2⟩
      have g100 := g96_0.resolve_left (by omega)
      clear g96_0
      exact (by omega : False).elim
    · have h101 := ib_ne k97
      have b102 : Bd r96 (1) (1) := rf_nlo b96 (by decide : Bd 0 (0) (0)) h101
      clear g96_0
      refine lv_iload_n hx hb dX5_expectNumber_44 rfl (lv_at hl 1 rfl) ?_
      exact xri E hr hlk hQ (⟨hI, (o_trans o_refl o81 (by decide)), (ib_wk ba1 (by decide) (by decide))⟩) dX5_expectNumber_45
set_option maxHeartbeats 4000000 in
set_option maxRecDepth 100000 in
theorem gX5_expectNumber_6 (l : Launch) (g : GG) (ad : Nat → Nat) (hD : Dj ad 122) (S : SS) (hI : InvX g ad S) (a1 : Int32) (a2 : Int32) (ba1 : Bd a1 (0) (0)) (ba2 : Bd a2 (99) (99)) : Met l yX5_expectNumber (wG (.code yX5_expectNumber cX5_expectNumber 4 (some .int))) (Rm 2) (XPre g ad 122 S [.ref (ad 94), .int a1, .int a2]) (va_Qi (fun r S' => InvX g ad S' ∧ (∀ j, j ∉ ([94] : List Nat) → S' j = S j) ∧ Bd r (0) (99)) (QB g ad 122) (FA ad 122)) 0 0 (FA ad 122) := by
  refine xmet cX5_expectNumber "EbbWreck$Reader" (by decide) rfl (Nat.le_of_ble_eq_true rfl) (fun p e s m below meth c E hr hlk hml hQ ls hl => ?_)
  have hx := E.1
  have hb := E.2.1
  have hs : Sp ad 122 (FA ad 122) := Sp.fa hD
  have hl : lv_has ls 4 [(0, .ref (ad 94)), (1, .int a1), (2, .int a2)] := hl
  refine lv_aload_n hx hb dX5_expectNumber_0 rfl (lv_at hl 0 rfl) ?_
  obtain ⟨v1, v3, v4, v6, v8, v9, v11, c12, b2, b5, b7, b10⟩ := invX_94 hI
  have c12 : S 94 = .inr (5, [.ref (ad 1), .ref (ad 20), .int v1, .int v3, .int v4, .int v6, .int v8, .int v9, .int v11]) := c12
  refine xget E hQ 94 (by decide) c12 rfl 3 (by decide) q345 rfl dX5_expectNumber_1 ?_
  refine lv_iconst (v := 2) hx hb dX5_expectNumber_4 (by decide) ?_
  refine lv_icmp_eq (tgt := 16) hx hb dX5_expectNumber_5 (by decide) (fun k13 => ?_) (fun k13 => ?_)
  · have h14 := ib_eq k13
    have b15 : Bd v3 (2) (2) := ⟨((rf_eq (ib_full v3) (by decide : Bd 2 (2) (2)) h14).1).1, ((rf_eq (ib_full v3) (by decide : Bd 2 (2) (2)) h14).1).2⟩
    refine lv_aload_n hx hb dX5_expectNumber_16 rfl (lv_at hl 0 rfl) ?_
    refine xget E hQ 94 (by decide) c12 rfl 6 (by decide) q348 rfl dX5_expectNumber_17 ?_
    refine lv_iload_n hx hb dX5_expectNumber_20 rfl (lv_at hl 1 rfl) ?_
    refine lv_icmp_lt (tgt := 32) hx hb dX5_expectNumber_21 (by decide) (fun k16 => ?_) (fun k16 => ?_)
    · have h17 := ib_lt k16
      have b18 : Bd v8 (-2147483648) (-1) := ⟨((ib_full v8)).1, ((rf_lt (ib_full v8) ba1 h17).1).2⟩
      refine lv_aload_n hx hb dX5_expectNumber_32 rfl (lv_at hl 0 rfl) ?_
      refine lv_iconst (v := 2) hx hb dX5_expectNumber_33 (by decide) ?_
      refine xcVv E hs hQ hml hl.1 94 (gX5_fail_94 l g ad hD S hI 2 (ib_wk (by decide : Bd 2 (2) (2)) (by decide) (by decide))) mX5_fail q679 (by decide) c12 rfl rfl ⟨(Nat.le_of_ble_eq_true rfl), (Nat.le_of_ble_eq_true rfl)⟩ ⟨(Nat.le_of_ble_eq_true rfl), (Nat.le_of_ble_eq_true rfl)⟩ (Nat.le_of_ble_eq_true rfl) rfl dX5_expectNumber_34 (fun S19 H locs hp19 hQ _ => ?_)
      obtain ⟨hI, o19, g19_0⟩ := hp19
      obtain ⟨v20, v22, v23, v25, v27, v28, v30, c31, b21, b24, b26, b29⟩ := invX_94 hI
      have c31 : S19 94 = .inr (5, [.ref (ad 1), .ref (ad 20), .int v20, .int v22, .int v23, .int v25, .int v27, .int v28, .int v30]) := c31
      have q32 : fld (S19 94) 7 = v28.toInt := fld_of c31 rfl
      have b33 : Bd v28 (1) (3) := ⟨by omega, by omega⟩
      refine lv_aload_n hx hb dX5_expectNumber_37 rfl (lv_at hl 0 rfl) ?_
      refine xcVi E hs hQ hml hl.1 94 (gX5_failed_94 l g ad hD S19 hI ) mX5_failed q610 (by decide) c31 rfl rfl ⟨(Nat.le_of_ble_eq_true rfl), (Nat.le_of_ble_eq_true rfl)⟩ ⟨(Nat.le_of_ble_eq_true rfl), (Nat.le_of_ble_eq_true rfl)⟩ (Nat.le_of_ble_eq_true rfl) rfl dX5_expectNumber_38 (fun r34 S34 H locs hp34 hQ _ => ?_)
      obtain ⟨rfl, b34, g34_0⟩ := hp34
      refine lv_if_eq (tgt := 46) hx hb dX5_expectNumber_41 (by decide) (fun k35 => ?_) (fun k35 => ?_)
      · have h36 := ib_eq k35
        have b37 : Bd r34 (0) (0) := ⟨(b34).1, ((rf_eq b34 (by decide : Bd 0 (0) (0)) h36).1).2⟩
        have g38 := g34_0.resolve_left (by omega)
        clear g34_0
        exact (by omega : False).elim
      · have h39 := ib_ne k35
        have b40 : Bd r34 (1) (1) := rf_nlo b34 (by decide : Bd 0 (0) (0)) h39
        clear g34_0
        refine lv_iload_n hx hb dX5_expectNumber_44 rfl (lv_at hl 1 rfl) ?_
        exact xri E hr hlk hQ (⟨hI, (o_trans o_refl o19 (by decide)), (ib_wk ba1 (by decide) (by decide))⟩) dX5_expectNumber_45
    · have h41 := ib_nlt k16
      have b42 : Bd v8 (0) (2147483647) := ⟨((rf_le ba1 (ib_full v8) h41).2).1, ((ib_full v8)).2⟩
      refine lv_aload_n hx hb dX5_expectNumber_24 rfl (lv_at hl 0 rfl) ?_
      refine xget E hQ 94 (by decide) c12 rfl 6 (by decide) q348 rfl dX5_expectNumber_25 ?_
      refine lv_iload_n hx hb dX5_expectNumber_28 rfl (lv_at hl 2 rfl) ?_
      refine lv_icmp_le (tgt := 37) hx hb dX5_expectNumber_29 (by decide) (fun k43 => ?_) (fun k43 => ?_)
      · have h44 := ib_le k43
        have b45 : Bd v8 (0) (99) := ⟨(b42).1, ((rf_le b42 ba2 h44).1).2⟩
        refine lv_aload_n hx hb dX5_expectNumber_37 rfl (lv_at hl 0 rfl) ?_
        refine xcVi E hs hQ hml hl.1 94 (gX5_failed_94 l g ad hD S hI ) mX5_failed q610 (by decide) c12 rfl rfl ⟨(Nat.le_of_ble_eq_true rfl), (Nat.le_of_ble_eq_true rfl)⟩ ⟨(Nat.le_of_ble_eq_true rfl), (Nat.le_of_ble_eq_true rfl)⟩ (Nat.le_of_ble_eq_true rfl) rfl dX5_expectNumber_38 (fun r46 S46 H locs hp46 hQ _ => ?_)
        obtain ⟨rfl, b46, g46_0⟩ := hp46
        have q47 : fld (S 94) 7 = v9.toInt := fld_of c12 rfl
        refine lv_if_eq (tgt := 46) hx hb dX5_expectNumber_41 (by decide) (fun k48 => ?_) (fun k48 => ?_)
        · have h49 := ib_eq k48
          have b50 : Bd r46 (0) (0) := ⟨(b46).1, ((rf_eq b46 (by decide : Bd 0 (0) (0)) h49).1).2⟩
          have g51 := g46_0.resolve_left (by omega)
          clear g46_0
          have b52 : Bd v9 (0) (0) := ⟨by omega, by omega⟩
          refine lv_aload_n hx hb dX5_expectNumber_46 rfl (lv_at hl 0 rfl) ?_
          refine xget E hQ 94 (by decide) c12 rfl 6 (by decide) q348 rfl dX5_expectNumber_47 ?_
          refine lv_istore_n (lv' := [(3, .int v8), (0, .ref (ad 94)), (1, .int a1), (2, .int a2)]) hx hb dX5_expectNumber_50 rfl hl (by decide) rfl (fun ls hl => ?_)
          refine lv_aload_n hx hb dX5_expectNumber_51 rfl (lv_at hl 1 rfl) ?_
          refine xcVv E hs hQ hml hl.1 94 (gX5_advance_94 l g ad hD S hI ) mX5_advance q598 (by decide) c12 rfl rfl ⟨(Nat.le_of_ble_eq_true rfl), (Nat.le_of_ble_eq_true rfl)⟩ ⟨(Nat.le_of_ble_eq_true rfl), (Nat.le_of_ble_eq_true rfl)⟩ (Nat.le_of_ble_eq_true rfl) rfl dX5_expectNumber_52 (fun S53 H locs hp53 hQ _ => ?_)
          obtain ⟨hI, o53⟩ := hp53
          refine lv_iload_n hx hb dX5_expectNumber_55 rfl (lv_at hl 0 rfl) ?_
          exact xri E hr hlk hQ (⟨hI, (o_trans o_refl o53 (by decide)), b45⟩) dX5_expectNumber_56
        · have h54 := ib_ne k48
          have b55 : Bd r46 (1) (1) := rf_nlo b46 (by decide : Bd 0 (0) (0)) h54
          clear g46_0
          refine lv_iload_n hx hb dX5_expectNumber_44 rfl (lv_at hl 1 rfl) ?_
          exact xri E hr hlk hQ (⟨hI, o_refl, (ib_wk ba1 (by decide) (by decide))⟩) dX5_expectNumber_45
      · have h56 := ib_nle k43
        have b57 : Bd v8 (100) (2147483647) := ⟨((rf_lt ba2 b42 h56).2).1, (b42).2⟩
        refine lv_aload_n hx hb dX5_expectNumber_32 rfl (lv_at hl 0 rfl) ?_
        refine lv_iconst (v := 2) hx hb dX5_expectNumber_33 (by decide) ?_
        refine xcVv E hs hQ hml hl.1 94 (gX5_fail_94 l g ad hD S hI 2 (ib_wk (by decide : Bd 2 (2) (2)) (by decide) (by decide))) mX5_fail q679 (by decide) c12 rfl rfl ⟨(Nat.le_of_ble_eq_true rfl), (Nat.le_of_ble_eq_true rfl)⟩ ⟨(Nat.le_of_ble_eq_true rfl), (Nat.le_of_ble_eq_true rfl)⟩ (Nat.le_of_ble_eq_true rfl) rfl dX5_expectNumber_34 (fun S58 H locs hp58 hQ _ => ?_)
        obtain ⟨hI, o58, g58_0⟩ := hp58
        obtain ⟨v59, v61, v62, v64, v66, v67, v69, c70, b60, b63, b65, b68⟩ := invX_94 hI
        have c70 : S58 94 = .inr (5, [.ref (ad 1), .ref (ad 20), .int v59, .int v61, .int v62, .int v64, .int v66, .int v67, .int v69]) := c70
        have q71 : fld (S58 94) 7 = v67.toInt := fld_of c70 rfl
        have b72 : Bd v67 (1) (3) := ⟨by omega, by omega⟩
        refine lv_aload_n hx hb dX5_expectNumber_37 rfl (lv_at hl 0 rfl) ?_
        refine xcVi E hs hQ hml hl.1 94 (gX5_failed_94 l g ad hD S58 hI ) mX5_failed q610 (by decide) c70 rfl rfl ⟨(Nat.le_of_ble_eq_true rfl), (Nat.le_of_ble_eq_true rfl)⟩ ⟨(Nat.le_of_ble_eq_true rfl), (Nat.le_of_ble_eq_true rfl)⟩ (Nat.le_of_ble_eq_true rfl) rfl dX5_expectNumber_38 (fun r73 S73 H locs hp73 hQ _ => ?_)
        obtain ⟨rfl, b73, g73_0⟩ := hp73
        refine lv_if_eq (tgt := 46) hx hb dX5_expectNumber_41 (by decide) (fun k74 => ?_) (fun k74 => ?_)
        · have h75 := ib_eq k74
          have b76 : Bd r73 (0) (0) := ⟨(b73).1, ((rf_eq b73 (by decide : Bd 0 (0) (0)) h75).1).2⟩
          have g77 := g73_0.resolve_left (by omega)
          clear g73_0
          exact (by omega : False).elim
        · have h78 := ib_ne k74
          have b79 : Bd r73 (1) (1) := rf_nlo b73 (by decide : Bd 0 (0) (0)) h78
          clear g73_0
          refine lv_iload_n hx hb dX5_expectNumber_44 rfl (lv_at hl 1 rfl) ?_
          exact xri E hr hlk hQ (⟨hI, (o_trans o_refl o58 (by decide)), (ib_wk ba1 (by decide) (by decide))⟩) dX5_expectNumber_45
  · have h80 := ib_ne k13
    refine lv_aload_n hx hb dX5_expectNumber_8 rfl (lv_at hl 0 rfl) ?_
    refine lv_iconst (v := 1) hx hb dX5_expectNumber_9 (by decide) ?_
    refine xcVv E hs hQ hml hl.1 94 (gX5_fail_94 l g ad hD S hI 1 (ib_wk (by decide : Bd 1 (1) (1)) (by decide) (by decide))) mX5_fail q679 (by decide) c12 rfl rfl ⟨(Nat.le_of_ble_eq_true rfl), (Nat.le_of_ble_eq_true rfl)⟩ ⟨(Nat.le_of_ble_eq_true rfl), (Nat.le_of_ble_eq_true rfl)⟩ (Nat.le_of_ble_eq_true rfl) rfl dX5_expectNumber_10 (fun S81 H locs hp81 hQ _ => ?_)
    obtain ⟨hI, o81, g81_0⟩ := hp81
    obtain ⟨v82, v84, v85, v87, v89, v90, v92, c93, b83, b86, b88, b91⟩ := invX_94 hI
    have c93 : S81 94 = .inr (5, [.ref (ad 1), .ref (ad 20), .int v82, .int v84, .int v85, .int v87, .int v89, .int v90, .int v92]) := c93
    have q94 : fld (S81 94) 7 = v90.toInt := fld_of c93 rfl
    have b95 : Bd v90 (1) (3) := ⟨by omega, by omega⟩
    refine lv_goto (tgt := 37) hx hb dX5_expectNumber_13 (by decide) ?_
    refine lv_aload_n hx hb dX5_expectNumber_37 rfl (lv_at hl 0 rfl) ?_
    refine xcVi E hs hQ hml hl.1 94 (gX5_failed_94 l g ad hD S81 hI ) mX5_failed q610 (by decide) c93 rfl rfl ⟨(Nat.le_of_ble_eq_true rfl), (Nat.le_of_ble_eq_true rfl)⟩ ⟨(Nat.le_of_ble_eq_true rfl), (Nat.le_of_ble_eq_true rfl)⟩ (Nat.le_of_ble_eq_true rfl) rfl dX5_expectNumber_38 (fun r96 S96 H locs hp96 hQ _ => ?_)
    obtain ⟨rfl, b96, g96_0⟩ := hp96
    refine lv_if_eq (tgt := 46) hx hb dX5_expectNumber_41 (by decide) (fun k97 => ?_) (fun k97 => ?_)
    · have h98 := ib_eq k97
      have b99 : Bd r96 (0) (0) := ⟨(b96).1, ((rf_eq b96 (by decide : Bd 0 (0) (0)) h98).1).2⟩
      have g100 := g96_0.resolve_left (by omega)
      clear g96_0
      exact (by omega : False).elim
    · have h101 := ib_ne k97
      have b102 : Bd r96 (1) (1) := rf_nlo b96 (by decide : Bd 0 (0) (0)) h101
      clear g96_0
      refine lv_iload_n hx hb dX5_expectNumber_44 rfl (lv_at hl 1 rfl) ?_
      exact xri E hr hlk hQ (⟨hI, (o_trans o_refl o81 (by decide)), (ib_wk ba1 (by decide) (by decide))⟩) dX5_expectNumber_45
set_option maxHeartbeats 4000000 in
set_option maxRecDepth 100000 in
theorem gX5_expectNumber_7 (l : Launch) (g : GG) (ad : Nat → Nat) (hD : Dj ad 122) (S : SS) (hI : InvX g ad S) (a1 : Int32) (a2 : Int32) (ba1 : Bd a1 (0) (0)) (ba2 : Bd a2 (5) (5)) : Met l yX5_expectNumber (wG (.code yX5_expectNumber cX5_expectNumber 4 (some .int))) (Rm 2) (XPre g ad 122 S [.ref (ad 94), .int a1, .int a2]) (va_Qi (fun r S' => InvX g ad S' ∧ (∀ j, j ∉ ([94] : List Nat) → S' j = S j) ∧ Bd r (0) (5)) (QB g ad 122) (FA ad 122)) 0 0 (FA ad 122) := by
  refine xmet cX5_expectNumber "EbbWreck$Reader" (by decide) rfl (Nat.le_of_ble_eq_true rfl) (fun p e s m below meth c E hr hlk hml hQ ls hl => ?_)
  have hx := E.1
  have hb := E.2.1
  have hs : Sp ad 122 (FA ad 122) := Sp.fa hD
  have hl : lv_has ls 4 [(0, .ref (ad 94)), (1, .int a1), (2, .int a2)] := hl
  refine lv_aload_n hx hb dX5_expectNumber_0 rfl (lv_at hl 0 rfl) ?_
  obtain ⟨v1, v3, v4, v6, v8, v9, v11, c12, b2, b5, b7, b10⟩ := invX_94 hI
  have c12 : S 94 = .inr (5, [.ref (ad 1), .ref (ad 20), .int v1, .int v3, .int v4, .int v6, .int v8, .int v9, .int v11]) := c12
  refine xget E hQ 94 (by decide) c12 rfl 3 (by decide) q345 rfl dX5_expectNumber_1 ?_
  refine lv_iconst (v := 2) hx hb dX5_expectNumber_4 (by decide) ?_
  refine lv_icmp_eq (tgt := 16) hx hb dX5_expectNumber_5 (by decide) (fun k13 => ?_) (fun k13 => ?_)
  · have h14 := ib_eq k13
    have b15 : Bd v3 (2) (2) := ⟨((rf_eq (ib_full v3) (by decide : Bd 2 (2) (2)) h14).1).1, ((rf_eq (ib_full v3) (by decide : Bd 2 (2) (2)) h14).1).2⟩
    refine lv_aload_n hx hb dX5_expectNumber_16 rfl (lv_at hl 0 rfl) ?_
    refine xget E hQ 94 (by decide) c12 rfl 6 (by decide) q348 rfl dX5_expectNumber_17 ?_
    refine lv_iload_n hx hb dX5_expectNumber_20 rfl (lv_at hl 1 rfl) ?_
    refine lv_icmp_lt (tgt := 32) hx hb dX5_expectNumber_21 (by decide) (fun k16 => ?_) (fun k16 => ?_)
    · have h17 := ib_lt k16
      have b18 : Bd v8 (-2147483648) (-1) := ⟨((ib_full v8)).1, ((rf_lt (ib_full v8) ba1 h17).1).2⟩
      refine lv_aload_n hx hb dX5_expectNumber_32 rfl (lv_at hl 0 rfl) ?_
      refine lv_iconst (v := 2) hx hb dX5_expectNumber_33 (by decide) ?_
      refine xcVv E hs hQ hml hl.1 94 (gX5_fail_94 l g ad hD S hI 2 (ib_wk (by decide : Bd 2 (2) (2)) (by decide) (by decide))) mX5_fail q679 (by decide) c12 rfl rfl ⟨(Nat.le_of_ble_eq_true rfl), (Nat.le_of_ble_eq_true rfl)⟩ ⟨(Nat.le_of_ble_eq_true rfl), (Nat.le_of_ble_eq_true rfl)⟩ (Nat.le_of_ble_eq_true rfl) rfl dX5_expectNumber_34 (fun S19 H locs hp19 hQ _ => ?_)
      obtain ⟨hI, o19, g19_0⟩ := hp19
      obtain ⟨v20, v22, v23, v25, v27, v28, v30, c31, b21, b24, b26, b29⟩ := invX_94 hI
      have c31 : S19 94 = .inr (5, [.ref (ad 1), .ref (ad 20), .int v20, .int v22, .int v23, .int v25, .int v27, .int v28, .int v30]) := c31
      have q32 : fld (S19 94) 7 = v28.toInt := fld_of c31 rfl
      have b33 : Bd v28 (1) (3) := ⟨by omega, by omega⟩
      refine lv_aload_n hx hb dX5_expectNumber_37 rfl (lv_at hl 0 rfl) ?_
      refine xcVi E hs hQ hml hl.1 94 (gX5_failed_94 l g ad hD S19 hI ) mX5_failed q610 (by decide) c31 rfl rfl ⟨(Nat.le_of_ble_eq_true rfl), (Nat.le_of_ble_eq_true rfl)⟩ ⟨(Nat.le_of_ble_eq_true rfl), (Nat.le_of_ble_eq_true rfl)⟩ (Nat.le_of_ble_eq_true rfl) rfl dX5_expectNumber_38 (fun r34 S34 H locs hp34 hQ _ => ?_)
      obtain ⟨rfl, b34, g34_0⟩ := hp34
      refine lv_if_eq (tgt := 46) hx hb dX5_expectNumber_41 (by decide) (fun k35 => ?_) (fun k35 => ?_)
      · have h36 := ib_eq k35
        have b37 : Bd r34 (0) (0) := ⟨(b34).1, ((rf_eq b34 (by decide : Bd 0 (0) (0)) h36).1).2⟩
        have g38 := g34_0.resolve_left (by omega)
        clear g34_0
        exact (by omega : False).elim
      · have h39 := ib_ne k35
        have b40 : Bd r34 (1) (1) := rf_nlo b34 (by decide : Bd 0 (0) (0)) h39
        clear g34_0
        refine lv_iload_n hx hb dX5_expectNumber_44 rfl (lv_at hl 1 rfl) ?_
        exact xri E hr hlk hQ (⟨hI, (o_trans o_refl o19 (by decide)), (ib_wk ba1 (by decide) (by decide))⟩) dX5_expectNumber_45
    · have h41 := ib_nlt k16
      have b42 : Bd v8 (0) (2147483647) := ⟨((rf_le ba1 (ib_full v8) h41).2).1, ((ib_full v8)).2⟩
      refine lv_aload_n hx hb dX5_expectNumber_24 rfl (lv_at hl 0 rfl) ?_
      refine xget E hQ 94 (by decide) c12 rfl 6 (by decide) q348 rfl dX5_expectNumber_25 ?_
      refine lv_iload_n hx hb dX5_expectNumber_28 rfl (lv_at hl 2 rfl) ?_
      refine lv_icmp_le (tgt := 37) hx hb dX5_expectNumber_29 (by decide) (fun k43 => ?_) (fun k43 => ?_)
      · have h44 := ib_le k43
        have b45 : Bd v8 (0) (5) := ⟨(b42).1, ((rf_le b42 ba2 h44).1).2⟩
        refine lv_aload_n hx hb dX5_expectNumber_37 rfl (lv_at hl 0 rfl) ?_
        refine xcVi E hs hQ hml hl.1 94 (gX5_failed_94 l g ad hD S hI ) mX5_failed q610 (by decide) c12 rfl rfl ⟨(Nat.le_of_ble_eq_true rfl), (Nat.le_of_ble_eq_true rfl)⟩ ⟨(Nat.le_of_ble_eq_true rfl), (Nat.le_of_ble_eq_true rfl)⟩ (Nat.le_of_ble_eq_true rfl) rfl dX5_expectNumber_38 (fun r46 S46 H locs hp46 hQ _ => ?_)
        obtain ⟨rfl, b46, g46_0⟩ := hp46
        have q47 : fld (S 94) 7 = v9.toInt := fld_of c12 rfl
        refine lv_if_eq (tgt := 46) hx hb dX5_expectNumber_41 (by decide) (fun k48 => ?_) (fun k48 => ?_)
        · have h49 := ib_eq k48
          have b50 : Bd r46 (0) (0) := ⟨(b46).1, ((rf_eq b46 (by decide : Bd 0 (0) (0)) h49).1).2⟩
          have g51 := g46_0.resolve_left (by omega)
          clear g46_0
          have b52 : Bd v9 (0) (0) := ⟨by omega, by omega⟩
          refine lv_aload_n hx hb dX5_expectNumber_46 rfl (lv_at hl 0 rfl) ?_
          refine xget E hQ 94 (by decide) c12 rfl 6 (by decide) q348 rfl dX5_expectNumber_47 ?_
          refine lv_istore_n (lv' := [(3, .int v8), (0, .ref (ad 94)), (1, .int a1), (2, .int a2)]) hx hb dX5_expectNumber_50 rfl hl (by decide) rfl (fun ls hl => ?_)
          refine lv_aload_n hx hb dX5_expectNumber_51 rfl (lv_at hl 1 rfl) ?_
          refine xcVv E hs hQ hml hl.1 94 (gX5_advance_94 l g ad hD S hI ) mX5_advance q598 (by decide) c12 rfl rfl ⟨(Nat.le_of_ble_eq_true rfl), (Nat.le_of_ble_eq_true rfl)⟩ ⟨(Nat.le_of_ble_eq_true rfl), (Nat.le_of_ble_eq_true rfl)⟩ (Nat.le_of_ble_eq_true rfl) rfl dX5_expectNumber_52 (fun S53 H locs hp53 hQ _ => ?_)
          obtain ⟨hI, o53⟩ := hp53
          refine lv_iload_n hx hb dX5_expectNumber_55 rfl (lv_at hl 0 rfl) ?_
          exact xri E hr hlk hQ (⟨hI, (o_trans o_refl o53 (by decide)), b45⟩) dX5_expectNumber_56
        · have h54 := ib_ne k48
          have b55 : Bd r46 (1) (1) := rf_nlo b46 (by decide : Bd 0 (0) (0)) h54
          clear g46_0
          refine lv_iload_n hx hb dX5_expectNumber_44 rfl (lv_at hl 1 rfl) ?_
          exact xri E hr hlk hQ (⟨hI, o_refl, (ib_wk ba1 (by decide) (by decide))⟩) dX5_expectNumber_45
      · have h56 := ib_nle k43
        have b57 : Bd v8 (6) (2147483647) := ⟨((rf_lt ba2 b42 h56).2).1, (b42).2⟩
        refine lv_aload_n hx hb dX5_expectNumber_32 rfl (lv_at hl 0 rfl) ?_
        refine lv_iconst (v := 2) hx hb dX5_expectNumber_33 (by decide) ?_
        refine xcVv E hs hQ hml hl.1 94 (gX5_fail_94 l g ad hD S hI 2 (ib_wk (by decide : Bd 2 (2) (2)) (by decide) (by decide))) mX5_fail q679 (by decide) c12 rfl rfl ⟨(Nat.le_of_ble_eq_true rfl), (Nat.le_of_ble_eq_true rfl)⟩ ⟨(Nat.le_of_ble_eq_true rfl), (Nat.le_of_ble_eq_true rfl)⟩ (Nat.le_of_ble_eq_true rfl) rfl dX5_expectNumber_34 (fun S58 H locs hp58 hQ _ => ?_)
        obtain ⟨hI, o58, g58_0⟩ := hp58
        obtain ⟨v59, v61, v62, v64, v66, v67, v69, c70, b60, b63, b65, b68⟩ := invX_94 hI
        have c70 : S58 94 = .inr (5, [.ref (ad 1), .ref (ad 20), .int v59, .int v61, .int v62, .int v64, .int v66, .int v67, .int v69]) := c70
        have q71 : fld (S58 94) 7 = v67.toInt := fld_of c70 rfl
        have b72 : Bd v67 (1) (3) := ⟨by omega, by omega⟩
        refine lv_aload_n hx hb dX5_expectNumber_37 rfl (lv_at hl 0 rfl) ?_
        refine xcVi E hs hQ hml hl.1 94 (gX5_failed_94 l g ad hD S58 hI ) mX5_failed q610 (by decide) c70 rfl rfl ⟨(Nat.le_of_ble_eq_true rfl), (Nat.le_of_ble_eq_true rfl)⟩ ⟨(Nat.le_of_ble_eq_true rfl), (Nat.le_of_ble_eq_true rfl)⟩ (Nat.le_of_ble_eq_true rfl) rfl dX5_expectNumber_38 (fun r73 S73 H locs hp73 hQ _ => ?_)
        obtain ⟨rfl, b73, g73_0⟩ := hp73
        refine lv_if_eq (tgt := 46) hx hb dX5_expectNumber_41 (by decide) (fun k74 => ?_) (fun k74 => ?_)
        · have h75 := ib_eq k74
          have b76 : Bd r73 (0) (0) := ⟨(b73).1, ((rf_eq b73 (by decide : Bd 0 (0) (0)) h75).1).2⟩
          have g77 := g73_0.resolve_left (by omega)
          clear g73_0
          exact (by omega : False).elim
        · have h78 := ib_ne k74
          have b79 : Bd r73 (1) (1) := rf_nlo b73 (by decide : Bd 0 (0) (0)) h78
          clear g73_0
          refine lv_iload_n hx hb dX5_expectNumber_44 rfl (lv_at hl 1 rfl) ?_
          exact xri E hr hlk hQ (⟨hI, (o_trans o_refl o58 (by decide)), (ib_wk ba1 (by decide) (by decide))⟩) dX5_expectNumber_45
  · have h80 := ib_ne k13
    refine lv_aload_n hx hb dX5_expectNumber_8 rfl (lv_at hl 0 rfl) ?_
    refine lv_iconst (v := 1) hx hb dX5_expectNumber_9 (by decide) ?_
    refine xcVv E hs hQ hml hl.1 94 (gX5_fail_94 l g ad hD S hI 1 (ib_wk (by decide : Bd 1 (1) (1)) (by decide) (by decide))) mX5_fail q679 (by decide) c12 rfl rfl ⟨(Nat.le_of_ble_eq_true rfl), (Nat.le_of_ble_eq_true rfl)⟩ ⟨(Nat.le_of_ble_eq_true rfl), (Nat.le_of_ble_eq_true rfl)⟩ (Nat.le_of_ble_eq_true rfl) rfl dX5_expectNumber_10 (fun S81 H locs hp81 hQ _ => ?_)
    obtain ⟨hI, o81, g81_0⟩ := hp81
    obtain ⟨v82, v84, v85, v87, v89, v90, v92, c93, b83, b86, b88, b91⟩ := invX_94 hI
    have c93 : S81 94 = .inr (5, [.ref (ad 1), .ref (ad 20), .int v82, .int v84, .int v85, .int v87, .int v89, .int v90, .int v92]) := c93
    have q94 : fld (S81 94) 7 = v90.toInt := fld_of c93 rfl
    have b95 : Bd v90 (1) (3) := ⟨by omega, by omega⟩
    refine lv_goto (tgt := 37) hx hb dX5_expectNumber_13 (by decide) ?_
    refine lv_aload_n hx hb dX5_expectNumber_37 rfl (lv_at hl 0 rfl) ?_
    refine xcVi E hs hQ hml hl.1 94 (gX5_failed_94 l g ad hD S81 hI ) mX5_failed q610 (by decide) c93 rfl rfl ⟨(Nat.le_of_ble_eq_true rfl), (Nat.le_of_ble_eq_true rfl)⟩ ⟨(Nat.le_of_ble_eq_true rfl), (Nat.le_of_ble_eq_true rfl)⟩ (Nat.le_of_ble_eq_true rfl) rfl dX5_expectNumber_38 (fun r96 S96 H locs hp96 hQ _ => ?_)
    obtain ⟨rfl, b96, g96_0⟩ := hp96
    refine lv_if_eq (tgt := 46) hx hb dX5_expectNumber_41 (by decide) (fun k97 => ?_) (fun k97 => ?_)
    · have h98 := ib_eq k97
      have b99 : Bd r96 (0) (0) := ⟨(b96).1, ((rf_eq b96 (by decide : Bd 0 (0) (0)) h98).1).2⟩
      have g100 := g96_0.resolve_left (by omega)
      clear g96_0
      exact (by omega : False).elim
    · have h101 := ib_ne k97
      have b102 : Bd r96 (1) (1) := rf_nlo b96 (by decide : Bd 0 (0) (0)) h101
      clear g96_0
      refine lv_iload_n hx hb dX5_expectNumber_44 rfl (lv_at hl 1 rfl) ?_
      exact xri E hr hlk hQ (⟨hI, (o_trans o_refl o81 (by decide)), (ib_wk ba1 (by decide) (by decide))⟩) dX5_expectNumber_45
set_option maxHeartbeats 4000000 in
set_option maxRecDepth 100000 in
theorem gX5_expectNumber_8 (l : Launch) (g : GG) (ad : Nat → Nat) (hD : Dj ad 122) (S : SS) (hI : InvX g ad S) (a1 : Int32) (a2 : Int32) (ba1 : Bd a1 (0) (0)) (ba2 : Bd a2 (-1) (11)) : Met l yX5_expectNumber (wG (.code yX5_expectNumber cX5_expectNumber 4 (some .int))) (Rm 2) (XPre g ad 122 S [.ref (ad 94), .int a1, .int a2]) (va_Qi (fun r S' => InvX g ad S' ∧ (∀ j, j ∉ ([94] : List Nat) → S' j = S j) ∧ Bd r (0) (11)) (QB g ad 122) (FA ad 122)) 0 0 (FA ad 122) := by
  refine xmet cX5_expectNumber "EbbWreck$Reader" (by decide) rfl (Nat.le_of_ble_eq_true rfl) (fun p e s m below meth c E hr hlk hml hQ ls hl => ?_)
  have hx := E.1
  have hb := E.2.1
  have hs : Sp ad 122 (FA ad 122) := Sp.fa hD
  have hl : lv_has ls 4 [(0, .ref (ad 94)), (1, .int a1), (2, .int a2)] := hl
  refine lv_aload_n hx hb dX5_expectNumber_0 rfl (lv_at hl 0 rfl) ?_
  obtain ⟨v1, v3, v4, v6, v8, v9, v11, c12, b2, b5, b7, b10⟩ := invX_94 hI
  have c12 : S 94 = .inr (5, [.ref (ad 1), .ref (ad 20), .int v1, .int v3, .int v4, .int v6, .int v8, .int v9, .int v11]) := c12
  refine xget E hQ 94 (by decide) c12 rfl 3 (by decide) q345 rfl dX5_expectNumber_1 ?_
  refine lv_iconst (v := 2) hx hb dX5_expectNumber_4 (by decide) ?_
  refine lv_icmp_eq (tgt := 16) hx hb dX5_expectNumber_5 (by decide) (fun k13 => ?_) (fun k13 => ?_)
  · have h14 := ib_eq k13
    have b15 : Bd v3 (2) (2) := ⟨((rf_eq (ib_full v3) (by decide : Bd 2 (2) (2)) h14).1).1, ((rf_eq (ib_full v3) (by decide : Bd 2 (2) (2)) h14).1).2⟩
    refine lv_aload_n hx hb dX5_expectNumber_16 rfl (lv_at hl 0 rfl) ?_
    refine xget E hQ 94 (by decide) c12 rfl 6 (by decide) q348 rfl dX5_expectNumber_17 ?_
    refine lv_iload_n hx hb dX5_expectNumber_20 rfl (lv_at hl 1 rfl) ?_
    refine lv_icmp_lt (tgt := 32) hx hb dX5_expectNumber_21 (by decide) (fun k16 => ?_) (fun k16 => ?_)
    · have h17 := ib_lt k16
      have b18 : Bd v8 (-2147483648) (-1) := ⟨((ib_full v8)).1, ((rf_lt (ib_full v8) ba1 h17).1).2⟩
      refine lv_aload_n hx hb dX5_expectNumber_32 rfl (lv_at hl 0 rfl) ?_
      refine lv_iconst (v := 2) hx hb dX5_expectNumber_33 (by decide) ?_
      refine xcVv E hs hQ hml hl.1 94 (gX5_fail_94 l g ad hD S hI 2 (ib_wk (by decide : Bd 2 (2) (2)) (by decide) (by decide))) mX5_fail q679 (by decide) c12 rfl rfl ⟨(Nat.le_of_ble_eq_true rfl), (Nat.le_of_ble_eq_true rfl)⟩ ⟨(Nat.le_of_ble_eq_true rfl), (Nat.le_of_ble_eq_true rfl)⟩ (Nat.le_of_ble_eq_true rfl) rfl dX5_expectNumber_34 (fun S19 H locs hp19 hQ _ => ?_)
      obtain ⟨hI, o19, g19_0⟩ := hp19
      obtain ⟨v20, v22, v23, v25, v27, v28, v30, c31, b21, b24, b26, b29⟩ := invX_94 hI
      have c31 : S19 94 = .inr (5, [.ref (ad 1), .ref (ad 20), .int v20, .int v22, .int v23, .int v25, .int v27, .int v28, .int v30]) := c31
      have q32 : fld (S19 94) 7 = v28.toInt := fld_of c31 rfl
      have b33 : Bd v28 (1) (3) := ⟨by omega, by omega⟩
      refine lv_aload_n hx hb dX5_expectNumber_37 rfl (lv_at hl 0 rfl) ?_
      refine xcVi E hs hQ hml hl.1 94 (gX5_failed_94 l g ad hD S19 hI ) mX5_failed q610 (by decide) c31 rfl rfl ⟨(Nat.le_of_ble_eq_true rfl), (Nat.le_of_ble_eq_true rfl)⟩ ⟨(Nat.le_of_ble_eq_true rfl), (Nat.le_of_ble_eq_true rfl)⟩ (Nat.le_of_ble_eq_true rfl) rfl dX5_expectNumber_38 (fun r34 S34 H locs hp34 hQ _ => ?_)
      obtain ⟨rfl, b34, g34_0⟩ := hp34
      refine lv_if_eq (tgt := 46) hx hb dX5_expectNumber_41 (by decide) (fun k35 => ?_) (fun k35 => ?_)
      · have h36 := ib_eq k35
        have b37 : Bd r34 (0) (0) := ⟨(b34).1, ((rf_eq b34 (by decide : Bd 0 (0) (0)) h36).1).2⟩
        have g38 := g34_0.resolve_left (by omega)
        clear g34_0
        exact (by omega : False).elim
      · have h39 := ib_ne k35
        have b40 : Bd r34 (1) (1) := rf_nlo b34 (by decide : Bd 0 (0) (0)) h39
        clear g34_0
        refine lv_iload_n hx hb dX5_expectNumber_44 rfl (lv_at hl 1 rfl) ?_
        exact xri E hr hlk hQ (⟨hI, (o_trans o_refl o19 (by decide)), (ib_wk ba1 (by decide) (by decide))⟩) dX5_expectNumber_45
    · have h41 := ib_nlt k16
      have b42 : Bd v8 (0) (2147483647) := ⟨((rf_le ba1 (ib_full v8) h41).2).1, ((ib_full v8)).2⟩
      refine lv_aload_n hx hb dX5_expectNumber_24 rfl (lv_at hl 0 rfl) ?_
      refine xget E hQ 94 (by decide) c12 rfl 6 (by decide) q348 rfl dX5_expectNumber_25 ?_
      refine lv_iload_n hx hb dX5_expectNumber_28 rfl (lv_at hl 2 rfl) ?_
      refine lv_icmp_le (tgt := 37) hx hb dX5_expectNumber_29 (by decide) (fun k43 => ?_) (fun k43 => ?_)
      · have h44 := ib_le k43
        have b45 : Bd v8 (0) (11) := ⟨(b42).1, ((rf_le b42 ba2 h44).1).2⟩
        have b46 : Bd a2 (0) (11) := ⟨((rf_le b42 ba2 h44).2).1, (ba2).2⟩
        refine lv_aload_n hx hb dX5_expectNumber_37 rfl (lv_at hl 0 rfl) ?_
        refine xcVi E hs hQ hml hl.1 94 (gX5_failed_94 l g ad hD S hI ) mX5_failed q610 (by decide) c12 rfl rfl ⟨(Nat.le_of_ble_eq_true rfl), (Nat.le_of_ble_eq_true rfl)⟩ ⟨(Nat.le_of_ble_eq_true rfl), (Nat.le_of_ble_eq_true rfl)⟩ (Nat.le_of_ble_eq_true rfl) rfl dX5_expectNumber_38 (fun r47 S47 H locs hp47 hQ _ => ?_)
        obtain ⟨rfl, b47, g47_0⟩ := hp47
        have q48 : fld (S 94) 7 = v9.toInt := fld_of c12 rfl
        refine lv_if_eq (tgt := 46) hx hb dX5_expectNumber_41 (by decide) (fun k49 => ?_) (fun k49 => ?_)
        · have h50 := ib_eq k49
          have b51 : Bd r47 (0) (0) := ⟨(b47).1, ((rf_eq b47 (by decide : Bd 0 (0) (0)) h50).1).2⟩
          have g52 := g47_0.resolve_left (by omega)
          clear g47_0
          have b53 : Bd v9 (0) (0) := ⟨by omega, by omega⟩
          refine lv_aload_n hx hb dX5_expectNumber_46 rfl (lv_at hl 0 rfl) ?_
          refine xget E hQ 94 (by decide) c12 rfl 6 (by decide) q348 rfl dX5_expectNumber_47 ?_
          refine lv_istore_n (lv' := [(3, .int v8), (0, .ref (ad 94)), (1, .int a1), (2, .int a2)]) hx hb dX5_expectNumber_50 rfl hl (by decide) rfl (fun ls hl => ?_)
          refine lv_aload_n hx hb dX5_expectNumber_51 rfl (lv_at hl 1 rfl) ?_
          refine xcVv E hs hQ hml hl.1 94 (gX5_advance_94 l g ad hD S hI ) mX5_advance q598 (by decide) c12 rfl rfl ⟨(Nat.le_of_ble_eq_true rfl), (Nat.le_of_ble_eq_true rfl)⟩ ⟨(Nat.le_of_ble_eq_true rfl), (Nat.le_of_ble_eq_true rfl)⟩ (Nat.le_of_ble_eq_true rfl) rfl dX5_expectNumber_52 (fun S54 H locs hp54 hQ _ => ?_)
          obtain ⟨hI, o54⟩ := hp54
          refine lv_iload_n hx hb dX5_expectNumber_55 rfl (lv_at hl 0 rfl) ?_
          exact xri E hr hlk hQ (⟨hI, (o_trans o_refl o54 (by decide)), b45⟩) dX5_expectNumber_56
        · have h55 := ib_ne k49
          have b56 : Bd r47 (1) (1) := rf_nlo b47 (by decide : Bd 0 (0) (0)) h55
          clear g47_0
          refine lv_iload_n hx hb dX5_expectNumber_44 rfl (lv_at hl 1 rfl) ?_
          exact xri E hr hlk hQ (⟨hI, o_refl, (ib_wk ba1 (by decide) (by decide))⟩) dX5_expectNumber_45
      · have h57 := ib_nle k43
        refine lv_aload_n hx hb dX5_expectNumber_32 rfl (lv_at hl 0 rfl) ?_
        refine lv_iconst (v := 2) hx hb dX5_expectNumber_33 (by decide) ?_
        refine xcVv E hs hQ hml hl.1 94 (gX5_fail_94 l g ad hD S hI 2 (ib_wk (by decide : Bd 2 (2) (2)) (by decide) (by decide))) mX5_fail q679 (by decide) c12 rfl rfl ⟨(Nat.le_of_ble_eq_true rfl), (Nat.le_of_ble_eq_true rfl)⟩ ⟨(Nat.le_of_ble_eq_true rfl), (Nat.le_of_ble_eq_true rfl)⟩ (Nat.le_of_ble_eq_true rfl) rfl dX5_expectNumber_34 (fun S58 H locs hp58 hQ _ => ?_)
        obtain ⟨hI, o58, g58_0⟩ := hp58
        obtain ⟨v59, v61, v62, v64, v66, v67, v69, c70, b60, b63, b65, b68⟩ := invX_94 hI
        have c70 : S58 94 = .inr (5, [.ref (ad 1), .ref (ad 20), .int v59, .int v61, .int v62, .int v64, .int v66, .int v67, .int v69]) := c70
        have q71 : fld (S58 94) 7 = v67.toInt := fld_of c70 rfl
        have b72 : Bd v67 (1) (3) := ⟨by omega, by omega⟩
        refine lv_aload_n hx hb dX5_expectNumber_37 rfl (lv_at hl 0 rfl) ?_
        refine xcVi E hs hQ hml hl.1 94 (gX5_failed_94 l g ad hD S58 hI ) mX5_failed q610 (by decide) c70 rfl rfl ⟨(Nat.le_of_ble_eq_true rfl), (Nat.le_of_ble_eq_true rfl)⟩ ⟨(Nat.le_of_ble_eq_true rfl), (Nat.le_of_ble_eq_true rfl)⟩ (Nat.le_of_ble_eq_true rfl) rfl dX5_expectNumber_38 (fun r73 S73 H locs hp73 hQ _ => ?_)
        obtain ⟨rfl, b73, g73_0⟩ := hp73
        refine lv_if_eq (tgt := 46) hx hb dX5_expectNumber_41 (by decide) (fun k74 => ?_) (fun k74 => ?_)
        · have h75 := ib_eq k74
          have b76 : Bd r73 (0) (0) := ⟨(b73).1, ((rf_eq b73 (by decide : Bd 0 (0) (0)) h75).1).2⟩
          have g77 := g73_0.resolve_left (by omega)
          clear g73_0
          exact (by omega : False).elim
        · have h78 := ib_ne k74
          have b79 : Bd r73 (1) (1) := rf_nlo b73 (by decide : Bd 0 (0) (0)) h78
          clear g73_0
          refine lv_iload_n hx hb dX5_expectNumber_44 rfl (lv_at hl 1 rfl) ?_
          exact xri E hr hlk hQ (⟨hI, (o_trans o_refl o58 (by decide)), (ib_wk ba1 (by decide) (by decide))⟩) dX5_expectNumber_45
  · have h80 := ib_ne k13
    refine lv_aload_n hx hb dX5_expectNumber_8 rfl (lv_at hl 0 rfl) ?_
    refine lv_iconst (v := 1) hx hb dX5_expectNumber_9 (by decide) ?_
    refine xcVv E hs hQ hml hl.1 94 (gX5_fail_94 l g ad hD S hI 1 (ib_wk (by decide : Bd 1 (1) (1)) (by decide) (by decide))) mX5_fail q679 (by decide) c12 rfl rfl ⟨(Nat.le_of_ble_eq_true rfl), (Nat.le_of_ble_eq_true rfl)⟩ ⟨(Nat.le_of_ble_eq_true rfl), (Nat.le_of_ble_eq_true rfl)⟩ (Nat.le_of_ble_eq_true rfl) rfl dX5_expectNumber_10 (fun S81 H locs hp81 hQ _ => ?_)
    obtain ⟨hI, o81, g81_0⟩ := hp81
    obtain ⟨v82, v84, v85, v87, v89, v90, v92, c93, b83, b86, b88, b91⟩ := invX_94 hI
    have c93 : S81 94 = .inr (5, [.ref (ad 1), .ref (ad 20), .int v82, .int v84, .int v85, .int v87, .int v89, .int v90, .int v92]) := c93
    have q94 : fld (S81 94) 7 = v90.toInt := fld_of c93 rfl
    have b95 : Bd v90 (1) (3) := ⟨by omega, by omega⟩
    refine lv_goto (tgt := 37) hx hb dX5_expectNumber_13 (by decide) ?_
    refine lv_aload_n hx hb dX5_expectNumber_37 rfl (lv_at hl 0 rfl) ?_
    refine xcVi E hs hQ hml hl.1 94 (gX5_failed_94 l g ad hD S81 hI ) mX5_failed q610 (by decide) c93 rfl rfl ⟨(Nat.le_of_ble_eq_true rfl), (Nat.le_of_ble_eq_true rfl)⟩ ⟨(Nat.le_of_ble_eq_true rfl), (Nat.le_of_ble_eq_true rfl)⟩ (Nat.le_of_ble_eq_true rfl) rfl dX5_expectNumber_38 (fun r96 S96 H locs hp96 hQ _ => ?_)
    obtain ⟨rfl, b96, g96_0⟩ := hp96
    refine lv_if_eq (tgt := 46) hx hb dX5_expectNumber_41 (by decide) (fun k97 => ?_) (fun k97 => ?_)
    · have h98 := ib_eq k97
      have b99 : Bd r96 (0) (0) := ⟨(b96).1, ((rf_eq b96 (by decide : Bd 0 (0) (0)) h98).1).2⟩
      have g100 := g96_0.resolve_left (by omega)
      clear g96_0
      exact (by omega : False).elim
    · have h101 := ib_ne k97
      have b102 : Bd r96 (1) (1) := rf_nlo b96 (by decide : Bd 0 (0) (0)) h101
      clear g96_0
      refine lv_iload_n hx hb dX5_expectNumber_44 rfl (lv_at hl 1 rfl) ?_
      exact xri E hr hlk hQ (⟨hI, (o_trans o_refl o81 (by decide)), (ib_wk ba1 (by decide) (by decide))⟩) dX5_expectNumber_45
set_option maxHeartbeats 4000000 in
set_option maxRecDepth 100000 in
theorem gX5_expectNumber_9 (l : Launch) (g : GG) (ad : Nat → Nat) (hD : Dj ad 122) (S : SS) (hI : InvX g ad S) (a1 : Int32) (a2 : Int32) (ba1 : Bd a1 (0) (11)) (ba2 : Bd a2 (-1) (11)) : Met l yX5_expectNumber (wG (.code yX5_expectNumber cX5_expectNumber 4 (some .int))) (Rm 2) (XPre g ad 122 S [.ref (ad 94), .int a1, .int a2]) (va_Qi (fun r S' => InvX g ad S' ∧ (∀ j, j ∉ ([94] : List Nat) → S' j = S j) ∧ Bd r (0) (11)) (QB g ad 122) (FA ad 122)) 0 0 (FA ad 122) := by
  refine xmet cX5_expectNumber "EbbWreck$Reader" (by decide) rfl (Nat.le_of_ble_eq_true rfl) (fun p e s m below meth c E hr hlk hml hQ ls hl => ?_)
  have hx := E.1
  have hb := E.2.1
  have hs : Sp ad 122 (FA ad 122) := Sp.fa hD
  have hl : lv_has ls 4 [(0, .ref (ad 94)), (1, .int a1), (2, .int a2)] := hl
  refine lv_aload_n hx hb dX5_expectNumber_0 rfl (lv_at hl 0 rfl) ?_
  obtain ⟨v1, v3, v4, v6, v8, v9, v11, c12, b2, b5, b7, b10⟩ := invX_94 hI
  have c12 : S 94 = .inr (5, [.ref (ad 1), .ref (ad 20), .int v1, .int v3, .int v4, .int v6, .int v8, .int v9, .int v11]) := c12
  refine xget E hQ 94 (by decide) c12 rfl 3 (by decide) q345 rfl dX5_expectNumber_1 ?_
  refine lv_iconst (v := 2) hx hb dX5_expectNumber_4 (by decide) ?_
  refine lv_icmp_eq (tgt := 16) hx hb dX5_expectNumber_5 (by decide) (fun k13 => ?_) (fun k13 => ?_)
  · have h14 := ib_eq k13
    have b15 : Bd v3 (2) (2) := ⟨((rf_eq (ib_full v3) (by decide : Bd 2 (2) (2)) h14).1).1, ((rf_eq (ib_full v3) (by decide : Bd 2 (2) (2)) h14).1).2⟩
    refine lv_aload_n hx hb dX5_expectNumber_16 rfl (lv_at hl 0 rfl) ?_
    refine xget E hQ 94 (by decide) c12 rfl 6 (by decide) q348 rfl dX5_expectNumber_17 ?_
    refine lv_iload_n hx hb dX5_expectNumber_20 rfl (lv_at hl 1 rfl) ?_
    refine lv_icmp_lt (tgt := 32) hx hb dX5_expectNumber_21 (by decide) (fun k16 => ?_) (fun k16 => ?_)
    · have h17 := ib_lt k16
      have b18 : Bd v8 (-2147483648) (10) := ⟨((ib_full v8)).1, ((rf_lt (ib_full v8) ba1 h17).1).2⟩
      refine lv_aload_n hx hb dX5_expectNumber_32 rfl (lv_at hl 0 rfl) ?_
      refine lv_iconst (v := 2) hx hb dX5_expectNumber_33 (by decide) ?_
      refine xcVv E hs hQ hml hl.1 94 (gX5_fail_94 l g ad hD S hI 2 (ib_wk (by decide : Bd 2 (2) (2)) (by decide) (by decide))) mX5_fail q679 (by decide) c12 rfl rfl ⟨(Nat.le_of_ble_eq_true rfl), (Nat.le_of_ble_eq_true rfl)⟩ ⟨(Nat.le_of_ble_eq_true rfl), (Nat.le_of_ble_eq_true rfl)⟩ (Nat.le_of_ble_eq_true rfl) rfl dX5_expectNumber_34 (fun S19 H locs hp19 hQ _ => ?_)
      obtain ⟨hI, o19, g19_0⟩ := hp19
      obtain ⟨v20, v22, v23, v25, v27, v28, v30, c31, b21, b24, b26, b29⟩ := invX_94 hI
      have c31 : S19 94 = .inr (5, [.ref (ad 1), .ref (ad 20), .int v20, .int v22, .int v23, .int v25, .int v27, .int v28, .int v30]) := c31
      have q32 : fld (S19 94) 7 = v28.toInt := fld_of c31 rfl
      have b33 : Bd v28 (1) (3) := ⟨by omega, by omega⟩
      refine lv_aload_n hx hb dX5_expectNumber_37 rfl (lv_at hl 0 rfl) ?_
      refine xcVi E hs hQ hml hl.1 94 (gX5_failed_94 l g ad hD S19 hI ) mX5_failed q610 (by decide) c31 rfl rfl ⟨(Nat.le_of_ble_eq_true rfl), (Nat.le_of_ble_eq_true rfl)⟩ ⟨(Nat.le_of_ble_eq_true rfl), (Nat.le_of_ble_eq_true rfl)⟩ (Nat.le_of_ble_eq_true rfl) rfl dX5_expectNumber_38 (fun r34 S34 H locs hp34 hQ _ => ?_)
      obtain ⟨rfl, b34, g34_0⟩ := hp34
      refine lv_if_eq (tgt := 46) hx hb dX5_expectNumber_41 (by decide) (fun k35 => ?_) (fun k35 => ?_)
      · have h36 := ib_eq k35
        have b37 : Bd r34 (0) (0) := ⟨(b34).1, ((rf_eq b34 (by decide : Bd 0 (0) (0)) h36).1).2⟩
        have g38 := g34_0.resolve_left (by omega)
        clear g34_0
        exact (by omega : False).elim
      · have h39 := ib_ne k35
        have b40 : Bd r34 (1) (1) := rf_nlo b34 (by decide : Bd 0 (0) (0)) h39
        clear g34_0
        refine lv_iload_n hx hb dX5_expectNumber_44 rfl (lv_at hl 1 rfl) ?_
        exact xri E hr hlk hQ (⟨hI, (o_trans o_refl o19 (by decide)), ba1⟩) dX5_expectNumber_45
    · have h41 := ib_nlt k16
      have b42 : Bd v8 (0) (2147483647) := ⟨((rf_le ba1 (ib_full v8) h41).2).1, ((ib_full v8)).2⟩
      refine lv_aload_n hx hb dX5_expectNumber_24 rfl (lv_at hl 0 rfl) ?_
      refine xget E hQ 94 (by decide) c12 rfl 6 (by decide) q348 rfl dX5_expectNumber_25 ?_
      refine lv_iload_n hx hb dX5_expectNumber_28 rfl (lv_at hl 2 rfl) ?_
      refine lv_icmp_le (tgt := 37) hx hb dX5_expectNumber_29 (by decide) (fun k43 => ?_) (fun k43 => ?_)
      · have h44 := ib_le k43
        have b45 : Bd v8 (0) (11) := ⟨(b42).1, ((rf_le b42 ba2 h44).1).2⟩
        have b46 : Bd a2 (0) (11) := ⟨((rf_le b42 ba2 h44).2).1, (ba2).2⟩
        refine lv_aload_n hx hb dX5_expectNumber_37 rfl (lv_at hl 0 rfl) ?_
        refine xcVi E hs hQ hml hl.1 94 (gX5_failed_94 l g ad hD S hI ) mX5_failed q610 (by decide) c12 rfl rfl ⟨(Nat.le_of_ble_eq_true rfl), (Nat.le_of_ble_eq_true rfl)⟩ ⟨(Nat.le_of_ble_eq_true rfl), (Nat.le_of_ble_eq_true rfl)⟩ (Nat.le_of_ble_eq_true rfl) rfl dX5_expectNumber_38 (fun r47 S47 H locs hp47 hQ _ => ?_)
        obtain ⟨rfl, b47, g47_0⟩ := hp47
        have q48 : fld (S 94) 7 = v9.toInt := fld_of c12 rfl
        refine lv_if_eq (tgt := 46) hx hb dX5_expectNumber_41 (by decide) (fun k49 => ?_) (fun k49 => ?_)
        · have h50 := ib_eq k49
          have b51 : Bd r47 (0) (0) := ⟨(b47).1, ((rf_eq b47 (by decide : Bd 0 (0) (0)) h50).1).2⟩
          have g52 := g47_0.resolve_left (by omega)
          clear g47_0
          have b53 : Bd v9 (0) (0) := ⟨by omega, by omega⟩
          refine lv_aload_n hx hb dX5_expectNumber_46 rfl (lv_at hl 0 rfl) ?_
          refine xget E hQ 94 (by decide) c12 rfl 6 (by decide) q348 rfl dX5_expectNumber_47 ?_
          refine lv_istore_n (lv' := [(3, .int v8), (0, .ref (ad 94)), (1, .int a1), (2, .int a2)]) hx hb dX5_expectNumber_50 rfl hl (by decide) rfl (fun ls hl => ?_)
          refine lv_aload_n hx hb dX5_expectNumber_51 rfl (lv_at hl 1 rfl) ?_
          refine xcVv E hs hQ hml hl.1 94 (gX5_advance_94 l g ad hD S hI ) mX5_advance q598 (by decide) c12 rfl rfl ⟨(Nat.le_of_ble_eq_true rfl), (Nat.le_of_ble_eq_true rfl)⟩ ⟨(Nat.le_of_ble_eq_true rfl), (Nat.le_of_ble_eq_true rfl)⟩ (Nat.le_of_ble_eq_true rfl) rfl dX5_expectNumber_52 (fun S54 H locs hp54 hQ _ => ?_)
          obtain ⟨hI, o54⟩ := hp54
          refine lv_iload_n hx hb dX5_expectNumber_55 rfl (lv_at hl 0 rfl) ?_
          exact xri E hr hlk hQ (⟨hI, (o_trans o_refl o54 (by decide)), b45⟩) dX5_expectNumber_56
        · have h55 := ib_ne k49
          have b56 : Bd r47 (1) (1) := rf_nlo b47 (by decide : Bd 0 (0) (0)) h55
          clear g47_0
          refine lv_iload_n hx hb dX5_expectNumber_44 rfl (lv_at hl 1 rfl) ?_
          exact xri E hr hlk hQ (⟨hI, o_refl, ba1⟩) dX5_expectNumber_45
      · have h57 := ib_nle k43
        refine lv_aload_n hx hb dX5_expectNumber_32 rfl (lv_at hl 0 rfl) ?_
        refine lv_iconst (v := 2) hx hb dX5_expectNumber_33 (by decide) ?_
        refine xcVv E hs hQ hml hl.1 94 (gX5_fail_94 l g ad hD S hI 2 (ib_wk (by decide : Bd 2 (2) (2)) (by decide) (by decide))) mX5_fail q679 (by decide) c12 rfl rfl ⟨(Nat.le_of_ble_eq_true rfl), (Nat.le_of_ble_eq_true rfl)⟩ ⟨(Nat.le_of_ble_eq_true rfl), (Nat.le_of_ble_eq_true rfl)⟩ (Nat.le_of_ble_eq_true rfl) rfl dX5_expectNumber_34 (fun S58 H locs hp58 hQ _ => ?_)
        obtain ⟨hI, o58, g58_0⟩ := hp58
        obtain ⟨v59, v61, v62, v64, v66, v67, v69, c70, b60, b63, b65, b68⟩ := invX_94 hI
        have c70 : S58 94 = .inr (5, [.ref (ad 1), .ref (ad 20), .int v59, .int v61, .int v62, .int v64, .int v66, .int v67, .int v69]) := c70
        have q71 : fld (S58 94) 7 = v67.toInt := fld_of c70 rfl
        have b72 : Bd v67 (1) (3) := ⟨by omega, by omega⟩
        refine lv_aload_n hx hb dX5_expectNumber_37 rfl (lv_at hl 0 rfl) ?_
        refine xcVi E hs hQ hml hl.1 94 (gX5_failed_94 l g ad hD S58 hI ) mX5_failed q610 (by decide) c70 rfl rfl ⟨(Nat.le_of_ble_eq_true rfl), (Nat.le_of_ble_eq_true rfl)⟩ ⟨(Nat.le_of_ble_eq_true rfl), (Nat.le_of_ble_eq_true rfl)⟩ (Nat.le_of_ble_eq_true rfl) rfl dX5_expectNumber_38 (fun r73 S73 H locs hp73 hQ _ => ?_)
        obtain ⟨rfl, b73, g73_0⟩ := hp73
        refine lv_if_eq (tgt := 46) hx hb dX5_expectNumber_41 (by decide) (fun k74 => ?_) (fun k74 => ?_)
        · have h75 := ib_eq k74
          have b76 : Bd r73 (0) (0) := ⟨(b73).1, ((rf_eq b73 (by decide : Bd 0 (0) (0)) h75).1).2⟩
          have g77 := g73_0.resolve_left (by omega)
          clear g73_0
          exact (by omega : False).elim
        · have h78 := ib_ne k74
          have b79 : Bd r73 (1) (1) := rf_nlo b73 (by decide : Bd 0 (0) (0)) h78
          clear g73_0
          refine lv_iload_n hx hb dX5_expectNumber_44 rfl (lv_at hl 1 rfl) ?_
          exact xri E hr hlk hQ (⟨hI, (o_trans o_refl o58 (by decide)), ba1⟩) dX5_expectNumber_45
  · have h80 := ib_ne k13
    refine lv_aload_n hx hb dX5_expectNumber_8 rfl (lv_at hl 0 rfl) ?_
    refine lv_iconst (v := 1) hx hb dX5_expectNumber_9 (by decide) ?_
    refine xcVv E hs hQ hml hl.1 94 (gX5_fail_94 l g ad hD S hI 1 (ib_wk (by decide : Bd 1 (1) (1)) (by decide) (by decide))) mX5_fail q679 (by decide) c12 rfl rfl ⟨(Nat.le_of_ble_eq_true rfl), (Nat.le_of_ble_eq_true rfl)⟩ ⟨(Nat.le_of_ble_eq_true rfl), (Nat.le_of_ble_eq_true rfl)⟩ (Nat.le_of_ble_eq_true rfl) rfl dX5_expectNumber_10 (fun S81 H locs hp81 hQ _ => ?_)
    obtain ⟨hI, o81, g81_0⟩ := hp81
    obtain ⟨v82, v84, v85, v87, v89, v90, v92, c93, b83, b86, b88, b91⟩ := invX_94 hI
    have c93 : S81 94 = .inr (5, [.ref (ad 1), .ref (ad 20), .int v82, .int v84, .int v85, .int v87, .int v89, .int v90, .int v92]) := c93
    have q94 : fld (S81 94) 7 = v90.toInt := fld_of c93 rfl
    have b95 : Bd v90 (1) (3) := ⟨by omega, by omega⟩
    refine lv_goto (tgt := 37) hx hb dX5_expectNumber_13 (by decide) ?_
    refine lv_aload_n hx hb dX5_expectNumber_37 rfl (lv_at hl 0 rfl) ?_
    refine xcVi E hs hQ hml hl.1 94 (gX5_failed_94 l g ad hD S81 hI ) mX5_failed q610 (by decide) c93 rfl rfl ⟨(Nat.le_of_ble_eq_true rfl), (Nat.le_of_ble_eq_true rfl)⟩ ⟨(Nat.le_of_ble_eq_true rfl), (Nat.le_of_ble_eq_true rfl)⟩ (Nat.le_of_ble_eq_true rfl) rfl dX5_expectNumber_38 (fun r96 S96 H locs hp96 hQ _ => ?_)
    obtain ⟨rfl, b96, g96_0⟩ := hp96
    refine lv_if_eq (tgt := 46) hx hb dX5_expectNumber_41 (by decide) (fun k97 => ?_) (fun k97 => ?_)
    · have h98 := ib_eq k97
      have b99 : Bd r96 (0) (0) := ⟨(b96).1, ((rf_eq b96 (by decide : Bd 0 (0) (0)) h98).1).2⟩
      have g100 := g96_0.resolve_left (by omega)
      clear g96_0
      exact (by omega : False).elim
    · have h101 := ib_ne k97
      have b102 : Bd r96 (1) (1) := rf_nlo b96 (by decide : Bd 0 (0) (0)) h101
      clear g96_0
      refine lv_iload_n hx hb dX5_expectNumber_44 rfl (lv_at hl 1 rfl) ?_
      exact xri E hr hlk hQ (⟨hI, (o_trans o_refl o81 (by decide)), ba1⟩) dX5_expectNumber_45
set_option maxHeartbeats 4000000 in
set_option maxRecDepth 100000 in
theorem gX10_tell_3 (l : Launch) (g : GG) (ad : Nat → Nat) (hD : Dj ad 122) (S : SS) (hI : InvX g ad S) (a1 : Int32) (a2 : Int32) (a3 : Int32) (ba1 : Bd a1 (0) (12)) (ba2 : Bd a2 (0) (6)) (ba3 : Bd a3 (0) (12)) : Met l yX10_tell (wG (.code yX10_tell cX10_tell 5 none)) (Rm 1) (XPre g ad 122 S [.ref (ad 3), .int a1, .int a2, .int a3]) (va_Qv (fun S' => InvX g ad S' ∧ (∀ j, j ∉ ([3, 4] : List Nat) → S' j = S j)) (QB g ad 122) (FA ad 122)) 0 0 (FA ad 122) := by
  refine xmet cX10_tell "EbbWreck$Tide" (by decide) rfl (Nat.le_of_ble_eq_true rfl) (fun p e s m below meth c E hr hlk hml hQ ls hl => ?_)
  have hx := E.1
  have hb := E.2.1
  have hs : Sp ad 122 (FA ad 122) := Sp.fa hD
  have hl : lv_has ls 5 [(0, .ref (ad 3)), (1, .int a1), (2, .int a2), (3, .int a3)] := hl
  refine lv_aload_n hx hb dX10_tell_0 rfl (lv_at hl 0 rfl) ?_
  refine lv_iload_n hx hb dX10_tell_1 rfl (lv_at hl 1 rfl) ?_
  obtain ⟨v1, v3, v5, v7, c9, b2, b4, b6, b8⟩ := invX_3 hI
  have c9 : S 3 = .inr (10, [.int v1, .int v3, .int v5, .int v7, .ref (ad 4)]) := c9
  refine xputi E hs hQ 3 (by decide) c9 rfl 0 (by decide) q155 rfl rfl (Nat.le_of_ble_eq_true rfl) dX10_tell_2 (fun H locs S10 eS10 hQ => ?_)
  have hI := invX_up_3 hI eS10 ⟨a1, v3, v5, v7, rfl, ba1, b4, b6, b8⟩
  have c11 : S10 3 = .inr (10, [.int a1, .int v3, .int v5, .int v7, .ref (ad 4)]) := up_at eS10 rfl
  refine lv_aload_n hx hb dX10_tell_5 rfl (lv_at hl 0 rfl) ?_
  refine lv_iload_n hx hb dX10_tell_6 rfl (lv_at hl 2 rfl) ?_
  refine xputi E hs hQ 3 (by decide) c11 rfl 1 (by decide) q158 rfl rfl (Nat.le_of_ble_eq_true rfl) dX10_tell_7 (fun H locs S12 eS12 hQ => ?_)
  have hI := invX_up_3 hI eS12 ⟨a1, a2, v5, v7, rfl, ba1, ba2, b6, b8⟩
  have c13 : S12 3 = .inr (10, [.int a1, .int a2, .int v5, .int v7, .ref (ad 4)]) := up_at eS12 rfl
  refine lv_aload_n hx hb dX10_tell_10 rfl (lv_at hl 0 rfl) ?_
  refine lv_iload_n hx hb dX10_tell_11 rfl (lv_at hl 3 rfl) ?_
  refine xputi E hs hQ 3 (by decide) c13 rfl 2 (by decide) q161 rfl rfl (Nat.le_of_ble_eq_true rfl) dX10_tell_12 (fun H locs S14 eS14 hQ => ?_)
  have hI := invX_up_3 hI eS14 ⟨a1, a2, a3, v7, rfl, ba1, ba2, ba3, b8⟩
  have c15 : S14 3 = .inr (10, [.int a1, .int a2, .int a3, .int v7, .ref (ad 4)]) := up_at eS14 rfl
  refine lv_aload_n hx hb dX10_tell_15 rfl (lv_at hl 0 rfl) ?_
  refine lv_aload_n hx hb dX10_tell_16 rfl (lv_at hl 0 rfl) ?_
  refine xget E hQ 3 (by decide) c15 rfl 0 (by decide) q155 rfl dX10_tell_17 ?_
  refine lv_aload_n hx hb dX10_tell_20 rfl (lv_at hl 0 rfl) ?_
  refine xget E hQ 3 (by decide) c15 rfl 1 (by decide) q158 rfl dX10_tell_21 ?_
  refine lv_iadd hx hb dX10_tell_24 ?_
  refine lv_topi (fun z16 e17 => ?_)
  have t18 := ib_add e17 ba1 ba2 (by decide) (by decide)
  have b19 : Bd z16 (0) (18) := ib_addb t18 ba1 ba2
  refine lv_aload_n hx hb dX10_tell_25 rfl (lv_at hl 0 rfl) ?_
  refine xget E hQ 3 (by decide) c15 rfl 2 (by decide) q161 rfl dX10_tell_26 ?_
  refine lv_iadd hx hb dX10_tell_29 ?_
  refine lv_topi (fun z20 e21 => ?_)
  have t22 := ib_add e21 b19 ba3 (by decide) (by decide)
  have b23 : Bd z20 (0) (30) := ib_addb t22 b19 ba3
  refine lv_aload_n hx hb dX10_tell_30 rfl (lv_at hl 0 rfl) ?_
  refine xget E hQ 3 (by decide) c15 rfl 1 (by decide) q158 rfl dX10_tell_31 ?_
  refine lv_iadd hx hb dX10_tell_34 ?_
  refine lv_topi (fun z24 e25 => ?_)
  have t26 := ib_add e25 b23 ba2 (by decide) (by decide)
  have b27 : Bd z24 (0) (36) := ib_addb t26 b23 ba2
  refine xputi E hs hQ 3 (by decide) c15 rfl 3 (by decide) q165 rfl rfl (Nat.le_of_ble_eq_true rfl) dX10_tell_35 (fun H locs S28 eS28 hQ => ?_)
  have hI := invX_up_3 hI eS28 ⟨a1, a2, a3, z24, rfl, ba1, ba2, ba3, b27⟩
  have c29 : S28 3 = .inr (10, [.int a1, .int a2, .int a3, .int z24, .ref (ad 4)]) := up_at eS28 rfl
  refine lv_aload_n hx hb dX10_tell_38 rfl (lv_at hl 0 rfl) ?_
  refine xget E hQ 3 (by decide) c29 rfl 4 (by decide) q166 rfl dX10_tell_39 ?_
  refine lv_iconst (v := 1) hx hb dX10_tell_42 (by decide) ?_
  obtain ⟨f30, c31⟩ := invX_4 hI
  refine xcSv E hs hQ hml hl.1 (uFillI l g ad 122 hD S28 4 (by decide) 36 (by decide) f30 1 c31) mJ7_fill_53178 q596 rfl ⟨(Nat.le_of_ble_eq_true rfl), (Nat.le_of_ble_eq_true rfl)⟩ ⟨(Nat.le_of_ble_eq_true rfl), (Nat.le_of_ble_eq_true rfl)⟩ (Nat.le_of_ble_eq_true rfl) rfl dX10_tell_43 (fun S33 H locs eS33 hQ => ?_)
  have hI := invX_up_4 hI eS33 ⟨_, rfl⟩
  have c34 : S33 4 = .inl (g.2 0, 36, .inl (fillF 1 36 f30)) := up_at eS33 rfl
  refine lv_iconst (v := 0) hx hb dX10_tell_46 (by decide) ?_
  refine lv_istore (lv' := [(4, .int 0), (0, .ref (ad 3)), (1, .int a1), (2, .int a2), (3, .int a3)]) hx hb dX10_tell_47 hl (by decide) rfl (fun ls hl => ?_)
  have loop49 : ∀ (n : Nat) (S_49 : SS) (H : Heap) (locs : List Loc) (ls : Array Slot) (x49_4 : Int32), Bd x49_4 (0) (12) → (-1) * x49_4.toInt + 12 < ((n : Nat) : Int) → InvX g ad S_49 → (∀ j, j ∉ ([4] : List Nat) → S_49 j = S33 j) → Hp g ad 122 S_49 (FA ad 122) s.heap H locs → lv_has ls 5 [(4, .int x49_4), (0, .ref (ad 3)), (1, .int a1), (2, .int a2), (3, .int a3)] → W p l e (Rm 1) s m [.ref (ad 3), .int a1, .int a2, .int a3].toArray below meth c H locs 0 0 (MQ below (va_Qv (fun S' => InvX g ad S' ∧ (∀ j, j ∉ ([3, 4] : List Nat) → S' j = S j)) (QB g ad 122) (FA ad 122)) [.ref (ad 3), .int a1, .int a2, .int a3].toArray s 0 0 (FA ad 122)) (F0 m 49 ls []) := by
    intro n
    induction n with
    | zero => intro S_49 H locs ls x49_4 Bx49_4 hn49_ hI hf49 hQ hl; exfalso; have := (Bx49_4).2; omega
    | succ n49_ ih49 =>
      intro S_49 H locs ls x49_4 Bx49_4 hn49_ hI hf49 hQ hl
      refine lv_iload hx hb dX10_tell_49 (lv_at hl 0 rfl) ?_
      refine lv_aload_n hx hb dX10_tell_51 rfl (lv_at hl 1 rfl) ?_
      have c35 : S_49 3 = .inr (10, [.int a1, .int a2, .int a3, .int z24, .ref (ad 4)]) := ((hf49 3 (by decide)).trans (up_ne eS33 (by decide) c29))
      refine xget E hQ 3 (by decide) c35 rfl 0 (by decide) q155 rfl dX10_tell_52 ?_
      refine lv_icmp_ge (tgt := 79) hx hb dX10_tell_55 (by decide) (fun k36 => ?_) (fun k36 => ?_)
      · have h37 := ib_le k36
        refine lv_aload_n hx hb dX10_tell_79 rfl (lv_at hl 1 rfl) ?_
        refine xget E hQ 3 (by decide) c35 rfl 0 (by decide) q155 rfl dX10_tell_80 ?_
        refine lv_aload_n hx hb dX10_tell_83 rfl (lv_at hl 1 rfl) ?_
        refine xget E hQ 3 (by decide) c35 rfl 1 (by decide) q158 rfl dX10_tell_84 ?_
        refine lv_iadd hx hb dX10_tell_87 ?_
        refine lv_topi (fun z38 e39 => ?_)
        have t40 := ib_add e39 ba1 ba2 (by decide) (by decide)
        have b41 : Bd z38 (0) (18) := ib_addb t40 ba1 ba2
        refine lv_istore (lv' := [(4, .int z38), (0, .ref (ad 3)), (1, .int a1), (2, .int a2), (3, .int a3)]) hx hb dX10_tell_88 hl (by decide) rfl (fun ls hl => ?_)
        have loop90 : ∀ (n : Nat) (S_90 : SS) (H : Heap) (locs : List Loc) (ls : Array Slot) (x90_4 : Int32), Bd x90_4 (0) (36) → (-1) * x90_4.toInt + 36 < ((n : Nat) : Int) → InvX g ad S_90 → (∀ j, j ∉ ([4] : List Nat) → S_90 j = S_49 j) → Hp g ad 122 S_90 (FA ad 122) s.heap H locs → lv_has ls 5 [(4, .int x90_4), (0, .ref (ad 3)), (1, .int a1), (2, .int a2), (3, .int a3)] → W p l e (Rm 1) s m [.ref (ad 3), .int a1, .int a2, .int a3].toArray below meth c H locs 0 0 (MQ below (va_Qv (fun S' => InvX g ad S' ∧ (∀ j, j ∉ ([3, 4] : List Nat) → S' j = S j)) (QB g ad 122) (FA ad 122)) [.ref (ad 3), .int a1, .int a2, .int a3].toArray s 0 0 (FA ad 122)) (F0 m 90 ls []) := by
          intro n
          induction n with
          | zero => intro S_90 H locs ls x90_4 Bx90_4 hn90_ hI hf90 hQ hl; exfalso; have := (Bx90_4).2; omega
          | succ n90_ ih90 =>
            intro S_90 H locs ls x90_4 Bx90_4 hn90_ hI hf90 hQ hl
            refine lv_iload hx hb dX10_tell_90 (lv_at hl 0 rfl) ?_
            refine lv_aload_n hx hb dX10_tell_92 rfl (lv_at hl 1 rfl) ?_
            have c42 : S_90 3 = .inr (10, [.int a1, .int a2, .int a3, .int z24, .ref (ad 4)]) := ((hf90 3 (by decide)).trans c35)
            refine xget E hQ 3 (by decide) c42 rfl 3 (by decide) q165 rfl dX10_tell_93 ?_
            refine lv_aload_n hx hb dX10_tell_96 rfl (lv_at hl 1 rfl) ?_
            refine xget E hQ 3 (by decide) c42 rfl 1 (by decide) q158 rfl dX10_tell_97 ?_
            refine lv_isub hx hb dX10_tell_100 ?_
            refine lv_topi (fun z43 e44 => ?_)
            have t45 := ib_sub e44 b27 ba2 (by decide) (by decide)
            have b46 : Bd z43 (-6) (36) := ib_subb t45 b27 ba2
            refine lv_icmp_ge (tgt := 125) hx hb dX10_tell_101 (by decide) (fun k47 => ?_) (fun k47 => ?_)
            · have h48 := ib_le k47
              exact xrv E hr hlk hQ (⟨hI, (o_trans (o_trans (up_o (up_o (up_o (up_o (up_o o_refl eS10 (by decide)) eS12 (by decide)) eS14 (by decide)) eS28 (by decide)) eS33 (by decide)) hf49 (by decide)) hf90 (by decide))⟩) dX10_tell_125
            · have h49 := ib_nle k47
              have b50 : Bd x90_4 (0) (35) := ⟨(Bx90_4).1, ((rf_lt Bx90_4 b46 h49).1).2⟩
              have b51 : Bd z43 (1) (36) := ⟨((rf_lt Bx90_4 b46 h49).2).1, (b46).2⟩
              refine lv_iload hx hb dX10_tell_104 (lv_at hl 0 rfl) ?_
              refine lv_bipush (v := 36) hx hb dX10_tell_106 (by decide) ?_
              refine lv_icmp_ge (tgt := 125) hx hb dX10_tell_108 (by decide) (fun k52 => ?_) (fun k52 => ?_)
              · have h53 := ib_le k52
                exact absurd (Int.le_trans ((by decide : Bd 36 (36) (36))).1 ((rf_le (by decide : Bd 36 (36) (36)) b50 h53).1).2) (by decide)
              · have h54 := ib_nle k52
                refine lv_aload_n hx hb dX10_tell_111 rfl (lv_at hl 1 rfl) ?_
                refine xget E hQ 3 (by decide) c42 rfl 4 (by decide) q166 rfl dX10_tell_112 ?_
                refine lv_iload hx hb dX10_tell_115 (lv_at hl 0 rfl) ?_
                refine lv_iconst (v := 2) hx hb dX10_tell_117 (by decide) ?_
                obtain ⟨f55, c56⟩ := invX_4 hI
                refine xiast E hs hQ 4 (by decide) c56 (ib_in b50 (by decide) (by decide)) dX10_tell_118 (fun H locs S58 eS58 hQ => ?_)
                have hI := invX_up_4 hI eS58 ⟨_, rfl⟩
                have c59 : S58 4 = .inl (g.2 0, 36, .inl (upd f55 (x90_4 : Int32).toNatClampNeg 2)) := up_at eS58 rfl
                obtain ⟨z60, e61⟩ : ∃ z : Int32, z = x90_4 + 1 := ⟨_, rfl⟩
                have t62 := ib_add e61 b50 (by decide : Bd 1 (1) (1)) (by decide) (by decide)
                have b63 : Bd z60 (1) (36) := ib_addb t62 b50 (by decide : Bd 1 (1) (1))
                have t62 : z60.toInt = x90_4.toInt + 1 := fold_add t62 rfl (by decide)
                refine lv_iinc (v := z60) (lv' := [(4, .int z60), (0, .ref (ad 3)), (1, .int a1), (2, .int a2), (3, .int a3)]) hx hb dX10_tell_119 hl (k := 0) rfl (by rw [e61]; rfl) (by decide) rfl (fun ls hl => ?_)
                refine lv_goto (tgt := 90) hx hb dX10_tell_122 (by decide) ?_
                exact ih90 _ _ _ _ z60 (ib_wk b63 (by decide) (by decide)) (by omega) hI (up_o hf90 eS58 (by decide)) hQ (lv_sub hl [0, 1, 2, 3, 4] rfl)
        obtain ⟨n90, hn90⟩ := fu_n ((-1) * z38.toInt + 36)
        exact loop90 n90 _ _ _ _ z38 (ib_wk b41 (by decide) (by decide)) (by omega) hI o_refl hQ (lv_sub hl [0, 1, 2, 3, 4] rfl)
      · have h64 := ib_nle k36
        have b65 : Bd x49_4 (0) (11) := ⟨(Bx49_4).1, ((rf_lt Bx49_4 ba1 h64).1).2⟩
        have b66 : Bd a1 (1) (12) := ⟨((rf_lt Bx49_4 ba1 h64).2).1, (ba1).2⟩
        refine lv_iload hx hb dX10_tell_58 (lv_at hl 0 rfl) ?_
        refine lv_bipush (v := 36) hx hb dX10_tell_60 (by decide) ?_
        refine lv_icmp_ge (tgt := 79) hx hb dX10_tell_62 (by decide) (fun k67 => ?_) (fun k67 => ?_)
        · have h68 := ib_le k67
          exact absurd (Int.le_trans ((by decide : Bd 36 (36) (36))).1 ((rf_le (by decide : Bd 36 (36) (36)) b65 h68).1).2) (by decide)
        · have h69 := ib_nle k67
          refine lv_aload_n hx hb dX10_tell_65 rfl (lv_at hl 1 rfl) ?_
          refine xget E hQ 3 (by decide) c35 rfl 4 (by decide) q166 rfl dX10_tell_66 ?_
          refine lv_iload hx hb dX10_tell_69 (lv_at hl 0 rfl) ?_
          refine lv_iconst (v := 0) hx hb dX10_tell_71 (by decide) ?_
          obtain ⟨f70, c71⟩ := invX_4 hI
          refine xiast E hs hQ 4 (by decide) c71 (ib_in b65 (by decide) (by decide)) dX10_tell_72 (fun H locs S73 eS73 hQ => ?_)
          have hI := invX_up_4 hI eS73 ⟨_, rfl⟩
          have c74 : S73 4 = .inl (g.2 0, 36, .inl (upd f70 (x49_4 : Int32).toNatClampNeg 0)) := up_at eS73 rfl
          obtain ⟨z75, e76⟩ : ∃ z : Int32, z = x49_4 + 1 := ⟨_, rfl⟩
          have t77 := ib_add e76 b65 (by decide : Bd 1 (1) (1)) (by decide) (by decide)
          have b78 : Bd z75 (1) (12) := ib_addb t77 b65 (by decide : Bd 1 (1) (1))
          have t77 : z75.toInt = x49_4.toInt + 1 := fold_add t77 rfl (by decide)
          refine lv_iinc (v := z75) (lv' := [(4, .int z75), (0, .ref (ad 3)), (1, .int a1), (2, .int a2), (3, .int a3)]) hx hb dX10_tell_73 hl (k := 0) rfl (by rw [e76]; rfl) (by decide) rfl (fun ls hl => ?_)
          refine lv_goto (tgt := 49) hx hb dX10_tell_76 (by decide) ?_
          exact ih49 _ _ _ _ z75 (ib_wk b78 (by decide) (by decide)) (by omega) hI (up_o hf49 eS73 (by decide)) hQ (lv_sub hl [0, 1, 2, 3, 4] rfl)
  obtain ⟨n49, hn49⟩ := fu_n (12)
  exact loop49 n49 _ _ _ _ 0 (ib_wk (by decide : Bd 0 (0) (0)) (by decide) (by decide)) (by have : (0 : Int32).toInt = 0 := (by decide); omega) hI o_refl hQ (lv_sub hl [0, 1, 2, 3, 4] rfl)
set_option maxHeartbeats 4000000 in
set_option maxRecDepth 100000 in
theorem gX10_tell_21 (l : Launch) (g : GG) (ad : Nat → Nat) (hD : Dj ad 122) (S : SS) (hI : InvX g ad S) (a1 : Int32) (a2 : Int32) (a3 : Int32) (ba1 : Bd a1 (0) (12)) (ba2 : Bd a2 (0) (6)) (ba3 : Bd a3 (0) (12)) : Met l yX10_tell (wG (.code yX10_tell cX10_tell 5 none)) (Rm 1) (XPre g ad 122 S [.ref (ad 21), .int a1, .int a2, .int a3]) (va_Qv (fun S' => InvX g ad S' ∧ (∀ j, j ∉ ([21, 22] : List Nat) → S' j = S j)) (QB g ad 122) (FA ad 122)) 0 0 (FA ad 122) := by
  refine xmet cX10_tell "EbbWreck$Tide" (by decide) rfl (Nat.le_of_ble_eq_true rfl) (fun p e s m below meth c E hr hlk hml hQ ls hl => ?_)
  have hx := E.1
  have hb := E.2.1
  have hs : Sp ad 122 (FA ad 122) := Sp.fa hD
  have hl : lv_has ls 5 [(0, .ref (ad 21)), (1, .int a1), (2, .int a2), (3, .int a3)] := hl
  refine lv_aload_n hx hb dX10_tell_0 rfl (lv_at hl 0 rfl) ?_
  refine lv_iload_n hx hb dX10_tell_1 rfl (lv_at hl 1 rfl) ?_
  obtain ⟨v1, v3, v5, v7, c9, b2, b4, b6, b8⟩ := invX_21 hI
  have c9 : S 21 = .inr (10, [.int v1, .int v3, .int v5, .int v7, .ref (ad 22)]) := c9
  refine xputi E hs hQ 21 (by decide) c9 rfl 0 (by decide) q155 rfl rfl (Nat.le_of_ble_eq_true rfl) dX10_tell_2 (fun H locs S10 eS10 hQ => ?_)
  have hI := invX_up_21 hI eS10 ⟨a1, v3, v5, v7, rfl, ba1, b4, b6, b8⟩
  have c11 : S10 21 = .inr (10, [.int a1, .int v3, .int v5, .int v7, .ref (ad 22)]) := up_at eS10 rfl
  refine lv_aload_n hx hb dX10_tell_5 rfl (lv_at hl 0 rfl) ?_
  refine lv_iload_n hx hb dX10_tell_6 rfl (lv_at hl 2 rfl) ?_
  refine xputi E hs hQ 21 (by decide) c11 rfl 1 (by decide) q158 rfl rfl (Nat.le_of_ble_eq_true rfl) dX10_tell_7 (fun H locs S12 eS12 hQ => ?_)
  have hI := invX_up_21 hI eS12 ⟨a1, a2, v5, v7, rfl, ba1, ba2, b6, b8⟩
  have c13 : S12 21 = .inr (10, [.int a1, .int a2, .int v5, .int v7, .ref (ad 22)]) := up_at eS12 rfl
  refine lv_aload_n hx hb dX10_tell_10 rfl (lv_at hl 0 rfl) ?_
  refine lv_iload_n hx hb dX10_tell_11 rfl (lv_at hl 3 rfl) ?_
  refine xputi E hs hQ 21 (by decide) c13 rfl 2 (by decide) q161 rfl rfl (Nat.le_of_ble_eq_true rfl) dX10_tell_12 (fun H locs S14 eS14 hQ => ?_)
  have hI := invX_up_21 hI eS14 ⟨a1, a2, a3, v7, rfl, ba1, ba2, ba3, b8⟩
  have c15 : S14 21 = .inr (10, [.int a1, .int a2, .int a3, .int v7, .ref (ad 22)]) := up_at eS14 rfl
  refine lv_aload_n hx hb dX10_tell_15 rfl (lv_at hl 0 rfl) ?_
  refine lv_aload_n hx hb dX10_tell_16 rfl (lv_at hl 0 rfl) ?_
  refine xget E hQ 21 (by decide) c15 rfl 0 (by decide) q155 rfl dX10_tell_17 ?_
  refine lv_aload_n hx hb dX10_tell_20 rfl (lv_at hl 0 rfl) ?_
  refine xget E hQ 21 (by decide) c15 rfl 1 (by decide) q158 rfl dX10_tell_21 ?_
  refine lv_iadd hx hb dX10_tell_24 ?_
  refine lv_topi (fun z16 e17 => ?_)
  have t18 := ib_add e17 ba1 ba2 (by decide) (by decide)
  have b19 : Bd z16 (0) (18) := ib_addb t18 ba1 ba2
  refine lv_aload_n hx hb dX10_tell_25 rfl (lv_at hl 0 rfl) ?_
  refine xget E hQ 21 (by decide) c15 rfl 2 (by decide) q161 rfl dX10_tell_26 ?_
  refine lv_iadd hx hb dX10_tell_29 ?_
  refine lv_topi (fun z20 e21 => ?_)
  have t22 := ib_add e21 b19 ba3 (by decide) (by decide)
  have b23 : Bd z20 (0) (30) := ib_addb t22 b19 ba3
  refine lv_aload_n hx hb dX10_tell_30 rfl (lv_at hl 0 rfl) ?_
  refine xget E hQ 21 (by decide) c15 rfl 1 (by decide) q158 rfl dX10_tell_31 ?_
  refine lv_iadd hx hb dX10_tell_34 ?_
  refine lv_topi (fun z24 e25 => ?_)
  have t26 := ib_add e25 b23 ba2 (by decide) (by decide)
  have b27 : Bd z24 (0) (36) := ib_addb t26 b23 ba2
  refine xputi E hs hQ 21 (by decide) c15 rfl 3 (by decide) q165 rfl rfl (Nat.le_of_ble_eq_true rfl) dX10_tell_35 (fun H locs S28 eS28 hQ => ?_)
  have hI := invX_up_21 hI eS28 ⟨a1, a2, a3, z24, rfl, ba1, ba2, ba3, b27⟩
  have c29 : S28 21 = .inr (10, [.int a1, .int a2, .int a3, .int z24, .ref (ad 22)]) := up_at eS28 rfl
  refine lv_aload_n hx hb dX10_tell_38 rfl (lv_at hl 0 rfl) ?_
  refine xget E hQ 21 (by decide) c29 rfl 4 (by decide) q166 rfl dX10_tell_39 ?_
  refine lv_iconst (v := 1) hx hb dX10_tell_42 (by decide) ?_
  obtain ⟨f30, c31⟩ := invX_22 hI
  refine xcSv E hs hQ hml hl.1 (uFillI l g ad 122 hD S28 22 (by decide) 36 (by decide) f30 1 c31) mJ7_fill_53178 q596 rfl ⟨(Nat.le_of_ble_eq_true rfl), (Nat.le_of_ble_eq_true rfl)⟩ ⟨(Nat.le_of_ble_eq_true rfl), (Nat.le_of_ble_eq_true rfl)⟩ (Nat.le_of_ble_eq_true rfl) rfl dX10_tell_43 (fun S33 H locs eS33 hQ => ?_)
  have hI := invX_up_22 hI eS33 ⟨_, rfl⟩
  have c34 : S33 22 = .inl (g.2 0, 36, .inl (fillF 1 36 f30)) := up_at eS33 rfl
  refine lv_iconst (v := 0) hx hb dX10_tell_46 (by decide) ?_
  refine lv_istore (lv' := [(4, .int 0), (0, .ref (ad 21)), (1, .int a1), (2, .int a2), (3, .int a3)]) hx hb dX10_tell_47 hl (by decide) rfl (fun ls hl => ?_)
  have loop49 : ∀ (n : Nat) (S_49 : SS) (H : Heap) (locs : List Loc) (ls : Array Slot) (x49_4 : Int32), Bd x49_4 (0) (12) → (-1) * x49_4.toInt + 12 < ((n : Nat) : Int) → InvX g ad S_49 → (∀ j, j ∉ ([22] : List Nat) → S_49 j = S33 j) → Hp g ad 122 S_49 (FA ad 122) s.heap H locs → lv_has ls 5 [(4, .int x49_4), (0, .ref (ad 21)), (1, .int a1), (2, .int a2), (3, .int a3)] → W p l e (Rm 1) s m [.ref (ad 21), .int a1, .int a2, .int a3].toArray below meth c H locs 0 0 (MQ below (va_Qv (fun S' => InvX g ad S' ∧ (∀ j, j ∉ ([21, 22] : List Nat) → S' j = S j)) (QB g ad 122) (FA ad 122)) [.ref (ad 21), .int a1, .int a2, .int a3].toArray s 0 0 (FA ad 122)) (F0 m 49 ls []) := by
    intro n
    induction n with
    | zero => intro S_49 H locs ls x49_4 Bx49_4 hn49_ hI hf49 hQ hl; exfalso; have := (Bx49_4).2; omega
    | succ n49_ ih49 =>
      intro S_49 H locs ls x49_4 Bx49_4 hn49_ hI hf49 hQ hl
      refine lv_iload hx hb dX10_tell_49 (lv_at hl 0 rfl) ?_
      refine lv_aload_n hx hb dX10_tell_51 rfl (lv_at hl 1 rfl) ?_
      have c35 : S_49 21 = .inr (10, [.int a1, .int a2, .int a3, .int z24, .ref (ad 22)]) := ((hf49 21 (by decide)).trans (up_ne eS33 (by decide) c29))
      refine xget E hQ 21 (by decide) c35 rfl 0 (by decide) q155 rfl dX10_tell_52 ?_
      refine lv_icmp_ge (tgt := 79) hx hb dX10_tell_55 (by decide) (fun k36 => ?_) (fun k36 => ?_)
      · have h37 := ib_le k36
        refine lv_aload_n hx hb dX10_tell_79 rfl (lv_at hl 1 rfl) ?_
        refine xget E hQ 21 (by decide) c35 rfl 0 (by decide) q155 rfl dX10_tell_80 ?_
        refine lv_aload_n hx hb dX10_tell_83 rfl (lv_at hl 1 rfl) ?_
        refine xget E hQ 21 (by decide) c35 rfl 1 (by decide) q158 rfl dX10_tell_84 ?_
        refine lv_iadd hx hb dX10_tell_87 ?_
        refine lv_topi (fun z38 e39 => ?_)
        have t40 := ib_add e39 ba1 ba2 (by decide) (by decide)
        have b41 : Bd z38 (0) (18) := ib_addb t40 ba1 ba2
        refine lv_istore (lv' := [(4, .int z38), (0, .ref (ad 21)), (1, .int a1), (2, .int a2), (3, .int a3)]) hx hb dX10_tell_88 hl (by decide) rfl (fun ls hl => ?_)
        have loop90 : ∀ (n : Nat) (S_90 : SS) (H : Heap) (locs : List Loc) (ls : Array Slot) (x90_4 : Int32), Bd x90_4 (0) (36) → (-1) * x90_4.toInt + 36 < ((n : Nat) : Int) → InvX g ad S_90 → (∀ j, j ∉ ([22] : List Nat) → S_90 j = S_49 j) → Hp g ad 122 S_90 (FA ad 122) s.heap H locs → lv_has ls 5 [(4, .int x90_4), (0, .ref (ad 21)), (1, .int a1), (2, .int a2), (3, .int a3)] → W p l e (Rm 1) s m [.ref (ad 21), .int a1, .int a2, .int a3].toArray below meth c H locs 0 0 (MQ below (va_Qv (fun S' => InvX g ad S' ∧ (∀ j, j ∉ ([21, 22] : List Nat) → S' j = S j)) (QB g ad 122) (FA ad 122)) [.ref (ad 21), .int a1, .int a2, .int a3].toArray s 0 0 (FA ad 122)) (F0 m 90 ls []) := by
          intro n
          induction n with
          | zero => intro S_90 H locs ls x90_4 Bx90_4 hn90_ hI hf90 hQ hl; exfalso; have := (Bx90_4).2; omega
          | succ n90_ ih90 =>
            intro S_90 H locs ls x90_4 Bx90_4 hn90_ hI hf90 hQ hl
            refine lv_iload hx hb dX10_tell_90 (lv_at hl 0 rfl) ?_
            refine lv_aload_n hx hb dX10_tell_92 rfl (lv_at hl 1 rfl) ?_
            have c42 : S_90 21 = .inr (10, [.int a1, .int a2, .int a3, .int z24, .ref (ad 22)]) := ((hf90 21 (by decide)).trans c35)
            refine xget E hQ 21 (by decide) c42 rfl 3 (by decide) q165 rfl dX10_tell_93 ?_
            refine lv_aload_n hx hb dX10_tell_96 rfl (lv_at hl 1 rfl) ?_
            refine xget E hQ 21 (by decide) c42 rfl 1 (by decide) q158 rfl dX10_tell_97 ?_
            refine lv_isub hx hb dX10_tell_100 ?_
            refine lv_topi (fun z43 e44 => ?_)
            have t45 := ib_sub e44 b27 ba2 (by decide) (by decide)
            have b46 : Bd z43 (-6) (36) := ib_subb t45 b27 ba2
            refine lv_icmp_ge (tgt := 125) hx hb dX10_tell_101 (by decide) (fun k47 => ?_) (fun k47 => ?_)
            · have h48 := ib_le k47
              exact xrv E hr hlk hQ (⟨hI, (o_trans (o_trans (up_o (up_o (up_o (up_o (up_o o_refl eS10 (by decide)) eS12 (by decide)) eS14 (by decide)) eS28 (by decide)) eS33 (by decide)) hf49 (by decide)) hf90 (by decide))⟩) dX10_tell_125
            · have h49 := ib_nle k47
              have b50 : Bd x90_4 (0) (35) := ⟨(Bx90_4).1, ((rf_lt Bx90_4 b46 h49).1).2⟩
              have b51 : Bd z43 (1) (36) := ⟨((rf_lt Bx90_4 b46 h49).2).1, (b46).2⟩
              refine lv_iload hx hb dX10_tell_104 (lv_at hl 0 rfl) ?_
              refine lv_bipush (v := 36) hx hb dX10_tell_106 (by decide) ?_
              refine lv_icmp_ge (tgt := 125) hx hb dX10_tell_108 (by decide) (fun k52 => ?_) (fun k52 => ?_)
              · have h53 := ib_le k52
                exact absurd (Int.le_trans ((by decide : Bd 36 (36) (36))).1 ((rf_le (by decide : Bd 36 (36) (36)) b50 h53).1).2) (by decide)
              · have h54 := ib_nle k52
                refine lv_aload_n hx hb dX10_tell_111 rfl (lv_at hl 1 rfl) ?_
                refine xget E hQ 21 (by decide) c42 rfl 4 (by decide) q166 rfl dX10_tell_112 ?_
                refine lv_iload hx hb dX10_tell_115 (lv_at hl 0 rfl) ?_
                refine lv_iconst (v := 2) hx hb dX10_tell_117 (by decide) ?_
                obtain ⟨f55, c56⟩ := invX_22 hI
                refine xiast E hs hQ 22 (by decide) c56 (ib_in b50 (by decide) (by decide)) dX10_tell_118 (fun H locs S58 eS58 hQ => ?_)
                have hI := invX_up_22 hI eS58 ⟨_, rfl⟩
                have c59 : S58 22 = .inl (g.2 0, 36, .inl (upd f55 (x90_4 : Int32).toNatClampNeg 2)) := up_at eS58 rfl
                obtain ⟨z60, e61⟩ : ∃ z : Int32, z = x90_4 + 1 := ⟨_, rfl⟩
                have t62 := ib_add e61 b50 (by decide : Bd 1 (1) (1)) (by decide) (by decide)
                have b63 : Bd z60 (1) (36) := ib_addb t62 b50 (by decide : Bd 1 (1) (1))
                have t62 : z60.toInt = x90_4.toInt + 1 := fold_add t62 rfl (by decide)
                refine lv_iinc (v := z60) (lv' := [(4, .int z60), (0, .ref (ad 21)), (1, .int a1), (2, .int a2), (3, .int a3)]) hx hb dX10_tell_119 hl (k := 0) rfl (by rw [e61]; rfl) (by decide) rfl (fun ls hl => ?_)
                refine lv_goto (tgt := 90) hx hb dX10_tell_122 (by decide) ?_
                exact ih90 _ _ _ _ z60 (ib_wk b63 (by decide) (by decide)) (by omega) hI (up_o hf90 eS58 (by decide)) hQ (lv_sub hl [0, 1, 2, 3, 4] rfl)
        obtain ⟨n90, hn90⟩ := fu_n ((-1) * z38.toInt + 36)
        exact loop90 n90 _ _ _ _ z38 (ib_wk b41 (by decide) (by decide)) (by omega) hI o_refl hQ (lv_sub hl [0, 1, 2, 3, 4] rfl)
      · have h64 := ib_nle k36
        have b65 : Bd x49_4 (0) (11) := ⟨(Bx49_4).1, ((rf_lt Bx49_4 ba1 h64).1).2⟩
        have b66 : Bd a1 (1) (12) := ⟨((rf_lt Bx49_4 ba1 h64).2).1, (ba1).2⟩
        refine lv_iload hx hb dX10_tell_58 (lv_at hl 0 rfl) ?_
        refine lv_bipush (v := 36) hx hb dX10_tell_60 (by decide) ?_
        refine lv_icmp_ge (tgt := 79) hx hb dX10_tell_62 (by decide) (fun k67 => ?_) (fun k67 => ?_)
        · have h68 := ib_le k67
          exact absurd (Int.le_trans ((by decide : Bd 36 (36) (36))).1 ((rf_le (by decide : Bd 36 (36) (36)) b65 h68).1).2) (by decide)
        · have h69 := ib_nle k67
          refine lv_aload_n hx hb dX10_tell_65 rfl (lv_at hl 1 rfl) ?_
          refine xget E hQ 21 (by decide) c35 rfl 4 (by decide) q166 rfl dX10_tell_66 ?_
          refine lv_iload hx hb dX10_tell_69 (lv_at hl 0 rfl) ?_
          refine lv_iconst (v := 0) hx hb dX10_tell_71 (by decide) ?_
          obtain ⟨f70, c71⟩ := invX_22 hI
          refine xiast E hs hQ 22 (by decide) c71 (ib_in b65 (by decide) (by decide)) dX10_tell_72 (fun H locs S73 eS73 hQ => ?_)
          have hI := invX_up_22 hI eS73 ⟨_, rfl⟩
          have c74 : S73 22 = .inl (g.2 0, 36, .inl (upd f70 (x49_4 : Int32).toNatClampNeg 0)) := up_at eS73 rfl
          obtain ⟨z75, e76⟩ : ∃ z : Int32, z = x49_4 + 1 := ⟨_, rfl⟩
          have t77 := ib_add e76 b65 (by decide : Bd 1 (1) (1)) (by decide) (by decide)
          have b78 : Bd z75 (1) (12) := ib_addb t77 b65 (by decide : Bd 1 (1) (1))
          have t77 : z75.toInt = x49_4.toInt + 1 := fold_add t77 rfl (by decide)
          refine lv_iinc (v := z75) (lv' := [(4, .int z75), (0, .ref (ad 21)), (1, .int a1), (2, .int a2), (3, .int a3)]) hx hb dX10_tell_73 hl (k := 0) rfl (by rw [e76]; rfl) (by decide) rfl (fun ls hl => ?_)
          refine lv_goto (tgt := 49) hx hb dX10_tell_76 (by decide) ?_
          exact ih49 _ _ _ _ z75 (ib_wk b78 (by decide) (by decide)) (by omega) hI (up_o hf49 eS73 (by decide)) hQ (lv_sub hl [0, 1, 2, 3, 4] rfl)
  obtain ⟨n49, hn49⟩ := fu_n (12)
  exact loop49 n49 _ _ _ _ 0 (ib_wk (by decide : Bd 0 (0) (0)) (by decide) (by decide)) (by have : (0 : Int32).toInt = 0 := (by decide); omega) hI o_refl hQ (lv_sub hl [0, 1, 2, 3, 4] rfl)
set_option maxHeartbeats 4000000 in
set_option maxRecDepth 100000 in
theorem gX10_tell_40 (l : Launch) (g : GG) (ad : Nat → Nat) (hD : Dj ad 122) (S : SS) (hI : InvX g ad S) (a1 : Int32) (a2 : Int32) (a3 : Int32) (ba1 : Bd a1 (0) (12)) (ba2 : Bd a2 (0) (6)) (ba3 : Bd a3 (0) (12)) : Met l yX10_tell (wG (.code yX10_tell cX10_tell 5 none)) (Rm 1) (XPre g ad 122 S [.ref (ad 40), .int a1, .int a2, .int a3]) (va_Qv (fun S' => InvX g ad S' ∧ (∀ j, j ∉ ([40, 41] : List Nat) → S' j = S j)) (QB g ad 122) (FA ad 122)) 0 0 (FA ad 122) := by
  refine xmet cX10_tell "EbbWreck$Tide" (by decide) rfl (Nat.le_of_ble_eq_true rfl) (fun p e s m below meth c E hr hlk hml hQ ls hl => ?_)
  have hx := E.1
  have hb := E.2.1
  have hs : Sp ad 122 (FA ad 122) := Sp.fa hD
  have hl : lv_has ls 5 [(0, .ref (ad 40)), (1, .int a1), (2, .int a2), (3, .int a3)] := hl
  refine lv_aload_n hx hb dX10_tell_0 rfl (lv_at hl 0 rfl) ?_
  refine lv_iload_n hx hb dX10_tell_1 rfl (lv_at hl 1 rfl) ?_
  obtain ⟨v1, v3, v5, v7, c9, b2, b4, b6, b8⟩ := invX_40 hI
  have c9 : S 40 = .inr (10, [.int v1, .int v3, .int v5, .int v7, .ref (ad 41)]) := c9
  refine xputi E hs hQ 40 (by decide) c9 rfl 0 (by decide) q155 rfl rfl (Nat.le_of_ble_eq_true rfl) dX10_tell_2 (fun H locs S10 eS10 hQ => ?_)
  have hI := invX_up_40 hI eS10 ⟨a1, v3, v5, v7, rfl, ba1, b4, b6, b8⟩
  have c11 : S10 40 = .inr (10, [.int a1, .int v3, .int v5, .int v7, .ref (ad 41)]) := up_at eS10 rfl
  refine lv_aload_n hx hb dX10_tell_5 rfl (lv_at hl 0 rfl) ?_
  refine lv_iload_n hx hb dX10_tell_6 rfl (lv_at hl 2 rfl) ?_
  refine xputi E hs hQ 40 (by decide) c11 rfl 1 (by decide) q158 rfl rfl (Nat.le_of_ble_eq_true rfl) dX10_tell_7 (fun H locs S12 eS12 hQ => ?_)
  have hI := invX_up_40 hI eS12 ⟨a1, a2, v5, v7, rfl, ba1, ba2, b6, b8⟩
  have c13 : S12 40 = .inr (10, [.int a1, .int a2, .int v5, .int v7, .ref (ad 41)]) := up_at eS12 rfl
  refine lv_aload_n hx hb dX10_tell_10 rfl (lv_at hl 0 rfl) ?_
  refine lv_iload_n hx hb dX10_tell_11 rfl (lv_at hl 3 rfl) ?_
  refine xputi E hs hQ 40 (by decide) c13 rfl 2 (by decide) q161 rfl rfl (Nat.le_of_ble_eq_true rfl) dX10_tell_12 (fun H locs S14 eS14 hQ => ?_)
  have hI := invX_up_40 hI eS14 ⟨a1, a2, a3, v7, rfl, ba1, ba2, ba3, b8⟩
  have c15 : S14 40 = .inr (10, [.int a1, .int a2, .int a3, .int v7, .ref (ad 41)]) := up_at eS14 rfl
  refine lv_aload_n hx hb dX10_tell_15 rfl (lv_at hl 0 rfl) ?_
  refine lv_aload_n hx hb dX10_tell_16 rfl (lv_at hl 0 rfl) ?_
  refine xget E hQ 40 (by decide) c15 rfl 0 (by decide) q155 rfl dX10_tell_17 ?_
  refine lv_aload_n hx hb dX10_tell_20 rfl (lv_at hl 0 rfl) ?_
  refine xget E hQ 40 (by decide) c15 rfl 1 (by decide) q158 rfl dX10_tell_21 ?_
  refine lv_iadd hx hb dX10_tell_24 ?_
  refine lv_topi (fun z16 e17 => ?_)
  have t18 := ib_add e17 ba1 ba2 (by decide) (by decide)
  have b19 : Bd z16 (0) (18) := ib_addb t18 ba1 ba2
  refine lv_aload_n hx hb dX10_tell_25 rfl (lv_at hl 0 rfl) ?_
  refine xget E hQ 40 (by decide) c15 rfl 2 (by decide) q161 rfl dX10_tell_26 ?_
  refine lv_iadd hx hb dX10_tell_29 ?_
  refine lv_topi (fun z20 e21 => ?_)
  have t22 := ib_add e21 b19 ba3 (by decide) (by decide)
  have b23 : Bd z20 (0) (30) := ib_addb t22 b19 ba3
  refine lv_aload_n hx hb dX10_tell_30 rfl (lv_at hl 0 rfl) ?_
  refine xget E hQ 40 (by decide) c15 rfl 1 (by decide) q158 rfl dX10_tell_31 ?_
  refine lv_iadd hx hb dX10_tell_34 ?_
  refine lv_topi (fun z24 e25 => ?_)
  have t26 := ib_add e25 b23 ba2 (by decide) (by decide)
  have b27 : Bd z24 (0) (36) := ib_addb t26 b23 ba2
  refine xputi E hs hQ 40 (by decide) c15 rfl 3 (by decide) q165 rfl rfl (Nat.le_of_ble_eq_true rfl) dX10_tell_35 (fun H locs S28 eS28 hQ => ?_)
  have hI := invX_up_40 hI eS28 ⟨a1, a2, a3, z24, rfl, ba1, ba2, ba3, b27⟩
  have c29 : S28 40 = .inr (10, [.int a1, .int a2, .int a3, .int z24, .ref (ad 41)]) := up_at eS28 rfl
  refine lv_aload_n hx hb dX10_tell_38 rfl (lv_at hl 0 rfl) ?_
  refine xget E hQ 40 (by decide) c29 rfl 4 (by decide) q166 rfl dX10_tell_39 ?_
  refine lv_iconst (v := 1) hx hb dX10_tell_42 (by decide) ?_
  obtain ⟨f30, c31⟩ := invX_41 hI
  refine xcSv E hs hQ hml hl.1 (uFillI l g ad 122 hD S28 41 (by decide) 36 (by decide) f30 1 c31) mJ7_fill_53178 q596 rfl ⟨(Nat.le_of_ble_eq_true rfl), (Nat.le_of_ble_eq_true rfl)⟩ ⟨(Nat.le_of_ble_eq_true rfl), (Nat.le_of_ble_eq_true rfl)⟩ (Nat.le_of_ble_eq_true rfl) rfl dX10_tell_43 (fun S33 H locs eS33 hQ => ?_)
  have hI := invX_up_41 hI eS33 ⟨_, rfl⟩
  have c34 : S33 41 = .inl (g.2 0, 36, .inl (fillF 1 36 f30)) := up_at eS33 rfl
  refine lv_iconst (v := 0) hx hb dX10_tell_46 (by decide) ?_
  refine lv_istore (lv' := [(4, .int 0), (0, .ref (ad 40)), (1, .int a1), (2, .int a2), (3, .int a3)]) hx hb dX10_tell_47 hl (by decide) rfl (fun ls hl => ?_)
  have loop49 : ∀ (n : Nat) (S_49 : SS) (H : Heap) (locs : List Loc) (ls : Array Slot) (x49_4 : Int32), Bd x49_4 (0) (12) → (-1) * x49_4.toInt + 12 < ((n : Nat) : Int) → InvX g ad S_49 → (∀ j, j ∉ ([41] : List Nat) → S_49 j = S33 j) → Hp g ad 122 S_49 (FA ad 122) s.heap H locs → lv_has ls 5 [(4, .int x49_4), (0, .ref (ad 40)), (1, .int a1), (2, .int a2), (3, .int a3)] → W p l e (Rm 1) s m [.ref (ad 40), .int a1, .int a2, .int a3].toArray below meth c H locs 0 0 (MQ below (va_Qv (fun S' => InvX g ad S' ∧ (∀ j, j ∉ ([40, 41] : List Nat) → S' j = S j)) (QB g ad 122) (FA ad 122)) [.ref (ad 40), .int a1, .int a2, .int a3].toArray s 0 0 (FA ad 122)) (F0 m 49 ls []) := by
    intro n
    induction n with
    | zero => intro S_49 H locs ls x49_4 Bx49_4 hn49_ hI hf49 hQ hl; exfalso; have := (Bx49_4).2; omega
    | succ n49_ ih49 =>
      intro S_49 H locs ls x49_4 Bx49_4 hn49_ hI hf49 hQ hl
      refine lv_iload hx hb dX10_tell_49 (lv_at hl 0 rfl) ?_
      refine lv_aload_n hx hb dX10_tell_51 rfl (lv_at hl 1 rfl) ?_
      have c35 : S_49 40 = .inr (10, [.int a1, .int a2, .int a3, .int z24, .ref (ad 41)]) := ((hf49 40 (by decide)).trans (up_ne eS33 (by decide) c29))
      refine xget E hQ 40 (by decide) c35 rfl 0 (by decide) q155 rfl dX10_tell_52 ?_
      refine lv_icmp_ge (tgt := 79) hx hb dX10_tell_55 (by decide) (fun k36 => ?_) (fun k36 => ?_)
      · have h37 := ib_le k36
        refine lv_aload_n hx hb dX10_tell_79 rfl (lv_at hl 1 rfl) ?_
        refine xget E hQ 40 (by decide) c35 rfl 0 (by decide) q155 rfl dX10_tell_80 ?_
        refine lv_aload_n hx hb dX10_tell_83 rfl (lv_at hl 1 rfl) ?_
        refine xget E hQ 40 (by decide) c35 rfl 1 (by decide) q158 rfl dX10_tell_84 ?_
        refine lv_iadd hx hb dX10_tell_87 ?_
        refine lv_topi (fun z38 e39 => ?_)
        have t40 := ib_add e39 ba1 ba2 (by decide) (by decide)
        have b41 : Bd z38 (0) (18) := ib_addb t40 ba1 ba2
        refine lv_istore (lv' := [(4, .int z38), (0, .ref (ad 40)), (1, .int a1), (2, .int a2), (3, .int a3)]) hx hb dX10_tell_88 hl (by decide) rfl (fun ls hl => ?_)
        have loop90 : ∀ (n : Nat) (S_90 : SS) (H : Heap) (locs : List Loc) (ls : Array Slot) (x90_4 : Int32), Bd x90_4 (0) (36) → (-1) * x90_4.toInt + 36 < ((n : Nat) : Int) → InvX g ad S_90 → (∀ j, j ∉ ([41] : List Nat) → S_90 j = S_49 j) → Hp g ad 122 S_90 (FA ad 122) s.heap H locs → lv_has ls 5 [(4, .int x90_4), (0, .ref (ad 40)), (1, .int a1), (2, .int a2), (3, .int a3)] → W p l e (Rm 1) s m [.ref (ad 40), .int a1, .int a2, .int a3].toArray below meth c H locs 0 0 (MQ below (va_Qv (fun S' => InvX g ad S' ∧ (∀ j, j ∉ ([40, 41] : List Nat) → S' j = S j)) (QB g ad 122) (FA ad 122)) [.ref (ad 40), .int a1, .int a2, .int a3].toArray s 0 0 (FA ad 122)) (F0 m 90 ls []) := by
          intro n
          induction n with
          | zero => intro S_90 H locs ls x90_4 Bx90_4 hn90_ hI hf90 hQ hl; exfalso; have := (Bx90_4).2; omega
          | succ n90_ ih90 =>
            intro S_90 H locs ls x90_4 Bx90_4 hn90_ hI hf90 hQ hl
            refine lv_iload hx hb dX10_tell_90 (lv_at hl 0 rfl) ?_
            refine lv_aload_n hx hb dX10_tell_92 rfl (lv_at hl 1 rfl) ?_
            have c42 : S_90 40 = .inr (10, [.int a1, .int a2, .int a3, .int z24, .ref (ad 41)]) := ((hf90 40 (by decide)).trans c35)
            refine xget E hQ 40 (by decide) c42 rfl 3 (by decide) q165 rfl dX10_tell_93 ?_
            refine lv_aload_n hx hb dX10_tell_96 rfl (lv_at hl 1 rfl) ?_
            refine xget E hQ 40 (by decide) c42 rfl 1 (by decide) q158 rfl dX10_tell_97 ?_
            refine lv_isub hx hb dX10_tell_100 ?_
            refine lv_topi (fun z43 e44 => ?_)
            have t45 := ib_sub e44 b27 ba2 (by decide) (by decide)
            have b46 : Bd z43 (-6) (36) := ib_subb t45 b27 ba2
            refine lv_icmp_ge (tgt := 125) hx hb dX10_tell_101 (by decide) (fun k47 => ?_) (fun k47 => ?_)
            · have h48 := ib_le k47
              exact xrv E hr hlk hQ (⟨hI, (o_trans (o_trans (up_o (up_o (up_o (up_o (up_o o_refl eS10 (by decide)) eS12 (by decide)) eS14 (by decide)) eS28 (by decide)) eS33 (by decide)) hf49 (by decide)) hf90 (by decide))⟩) dX10_tell_125
            · have h49 := ib_nle k47
              have b50 : Bd x90_4 (0) (35) := ⟨(Bx90_4).1, ((rf_lt Bx90_4 b46 h49).1).2⟩
              have b51 : Bd z43 (1) (36) := ⟨((rf_lt Bx90_4 b46 h49).2).1, (b46).2⟩
              refine lv_iload hx hb dX10_tell_104 (lv_at hl 0 rfl) ?_
              refine lv_bipush (v := 36) hx hb dX10_tell_106 (by decide) ?_
              refine lv_icmp_ge (tgt := 125) hx hb dX10_tell_108 (by decide) (fun k52 => ?_) (fun k52 => ?_)
              · have h53 := ib_le k52
                exact absurd (Int.le_trans ((by decide : Bd 36 (36) (36))).1 ((rf_le (by decide : Bd 36 (36) (36)) b50 h53).1).2) (by decide)
              · have h54 := ib_nle k52
                refine lv_aload_n hx hb dX10_tell_111 rfl (lv_at hl 1 rfl) ?_
                refine xget E hQ 40 (by decide) c42 rfl 4 (by decide) q166 rfl dX10_tell_112 ?_
                refine lv_iload hx hb dX10_tell_115 (lv_at hl 0 rfl) ?_
                refine lv_iconst (v := 2) hx hb dX10_tell_117 (by decide) ?_
                obtain ⟨f55, c56⟩ := invX_41 hI
                refine xiast E hs hQ 41 (by decide) c56 (ib_in b50 (by decide) (by decide)) dX10_tell_118 (fun H locs S58 eS58 hQ => ?_)
                have hI := invX_up_41 hI eS58 ⟨_, rfl⟩
                have c59 : S58 41 = .inl (g.2 0, 36, .inl (upd f55 (x90_4 : Int32).toNatClampNeg 2)) := up_at eS58 rfl
                obtain ⟨z60, e61⟩ : ∃ z : Int32, z = x90_4 + 1 := ⟨_, rfl⟩
                have t62 := ib_add e61 b50 (by decide : Bd 1 (1) (1)) (by decide) (by decide)
                have b63 : Bd z60 (1) (36) := ib_addb t62 b50 (by decide : Bd 1 (1) (1))
                have t62 : z60.toInt = x90_4.toInt + 1 := fold_add t62 rfl (by decide)
                refine lv_iinc (v := z60) (lv' := [(4, .int z60), (0, .ref (ad 40)), (1, .int a1), (2, .int a2), (3, .int a3)]) hx hb dX10_tell_119 hl (k := 0) rfl (by rw [e61]; rfl) (by decide) rfl (fun ls hl => ?_)
                refine lv_goto (tgt := 90) hx hb dX10_tell_122 (by decide) ?_
                exact ih90 _ _ _ _ z60 (ib_wk b63 (by decide) (by decide)) (by omega) hI (up_o hf90 eS58 (by decide)) hQ (lv_sub hl [0, 1, 2, 3, 4] rfl)
        obtain ⟨n90, hn90⟩ := fu_n ((-1) * z38.toInt + 36)
        exact loop90 n90 _ _ _ _ z38 (ib_wk b41 (by decide) (by decide)) (by omega) hI o_refl hQ (lv_sub hl [0, 1, 2, 3, 4] rfl)
      · have h64 := ib_nle k36
        have b65 : Bd x49_4 (0) (11) := ⟨(Bx49_4).1, ((rf_lt Bx49_4 ba1 h64).1).2⟩
        have b66 : Bd a1 (1) (12) := ⟨((rf_lt Bx49_4 ba1 h64).2).1, (ba1).2⟩
        refine lv_iload hx hb dX10_tell_58 (lv_at hl 0 rfl) ?_
        refine lv_bipush (v := 36) hx hb dX10_tell_60 (by decide) ?_
        refine lv_icmp_ge (tgt := 79) hx hb dX10_tell_62 (by decide) (fun k67 => ?_) (fun k67 => ?_)
        · have h68 := ib_le k67
          exact absurd (Int.le_trans ((by decide : Bd 36 (36) (36))).1 ((rf_le (by decide : Bd 36 (36) (36)) b65 h68).1).2) (by decide)
        · have h69 := ib_nle k67
          refine lv_aload_n hx hb dX10_tell_65 rfl (lv_at hl 1 rfl) ?_
          refine xget E hQ 40 (by decide) c35 rfl 4 (by decide) q166 rfl dX10_tell_66 ?_
          refine lv_iload hx hb dX10_tell_69 (lv_at hl 0 rfl) ?_
          refine lv_iconst (v := 0) hx hb dX10_tell_71 (by decide) ?_
          obtain ⟨f70, c71⟩ := invX_41 hI
          refine xiast E hs hQ 41 (by decide) c71 (ib_in b65 (by decide) (by decide)) dX10_tell_72 (fun H locs S73 eS73 hQ => ?_)
          have hI := invX_up_41 hI eS73 ⟨_, rfl⟩
          have c74 : S73 41 = .inl (g.2 0, 36, .inl (upd f70 (x49_4 : Int32).toNatClampNeg 0)) := up_at eS73 rfl
          obtain ⟨z75, e76⟩ : ∃ z : Int32, z = x49_4 + 1 := ⟨_, rfl⟩
          have t77 := ib_add e76 b65 (by decide : Bd 1 (1) (1)) (by decide) (by decide)
          have b78 : Bd z75 (1) (12) := ib_addb t77 b65 (by decide : Bd 1 (1) (1))
          have t77 : z75.toInt = x49_4.toInt + 1 := fold_add t77 rfl (by decide)
          refine lv_iinc (v := z75) (lv' := [(4, .int z75), (0, .ref (ad 40)), (1, .int a1), (2, .int a2), (3, .int a3)]) hx hb dX10_tell_73 hl (k := 0) rfl (by rw [e76]; rfl) (by decide) rfl (fun ls hl => ?_)
          refine lv_goto (tgt := 49) hx hb dX10_tell_76 (by decide) ?_
          exact ih49 _ _ _ _ z75 (ib_wk b78 (by decide) (by decide)) (by omega) hI (up_o hf49 eS73 (by decide)) hQ (lv_sub hl [0, 1, 2, 3, 4] rfl)
  obtain ⟨n49, hn49⟩ := fu_n (12)
  exact loop49 n49 _ _ _ _ 0 (ib_wk (by decide : Bd 0 (0) (0)) (by decide) (by decide)) (by have : (0 : Int32).toInt = 0 := (by decide); omega) hI o_refl hQ (lv_sub hl [0, 1, 2, 3, 4] rfl)
set_option maxHeartbeats 4000000 in
set_option maxRecDepth 100000 in
theorem gX10_tell_58 (l : Launch) (g : GG) (ad : Nat → Nat) (hD : Dj ad 122) (S : SS) (hI : InvX g ad S) (a1 : Int32) (a2 : Int32) (a3 : Int32) (ba1 : Bd a1 (0) (12)) (ba2 : Bd a2 (0) (6)) (ba3 : Bd a3 (0) (12)) : Met l yX10_tell (wG (.code yX10_tell cX10_tell 5 none)) (Rm 1) (XPre g ad 122 S [.ref (ad 58), .int a1, .int a2, .int a3]) (va_Qv (fun S' => InvX g ad S' ∧ (∀ j, j ∉ ([58, 59] : List Nat) → S' j = S j)) (QB g ad 122) (FA ad 122)) 0 0 (FA ad 122) := by
  refine xmet cX10_tell "EbbWreck$Tide" (by decide) rfl (Nat.le_of_ble_eq_true rfl) (fun p e s m below meth c E hr hlk hml hQ ls hl => ?_)
  have hx := E.1
  have hb := E.2.1
  have hs : Sp ad 122 (FA ad 122) := Sp.fa hD
  have hl : lv_has ls 5 [(0, .ref (ad 58)), (1, .int a1), (2, .int a2), (3, .int a3)] := hl
  refine lv_aload_n hx hb dX10_tell_0 rfl (lv_at hl 0 rfl) ?_
  refine lv_iload_n hx hb dX10_tell_1 rfl (lv_at hl 1 rfl) ?_
  obtain ⟨v1, v3, v5, v7, c9, b2, b4, b6, b8⟩ := invX_58 hI
  have c9 : S 58 = .inr (10, [.int v1, .int v3, .int v5, .int v7, .ref (ad 59)]) := c9
  refine xputi E hs hQ 58 (by decide) c9 rfl 0 (by decide) q155 rfl rfl (Nat.le_of_ble_eq_true rfl) dX10_tell_2 (fun H locs S10 eS10 hQ => ?_)
  have hI := invX_up_58 hI eS10 ⟨a1, v3, v5, v7, rfl, ba1, b4, b6, b8⟩
  have c11 : S10 58 = .inr (10, [.int a1, .int v3, .int v5, .int v7, .ref (ad 59)]) := up_at eS10 rfl
  refine lv_aload_n hx hb dX10_tell_5 rfl (lv_at hl 0 rfl) ?_
  refine lv_iload_n hx hb dX10_tell_6 rfl (lv_at hl 2 rfl) ?_
  refine xputi E hs hQ 58 (by decide) c11 rfl 1 (by decide) q158 rfl rfl (Nat.le_of_ble_eq_true rfl) dX10_tell_7 (fun H locs S12 eS12 hQ => ?_)
  have hI := invX_up_58 hI eS12 ⟨a1, a2, v5, v7, rfl, ba1, ba2, b6, b8⟩
  have c13 : S12 58 = .inr (10, [.int a1, .int a2, .int v5, .int v7, .ref (ad 59)]) := up_at eS12 rfl
  refine lv_aload_n hx hb dX10_tell_10 rfl (lv_at hl 0 rfl) ?_
  refine lv_iload_n hx hb dX10_tell_11 rfl (lv_at hl 3 rfl) ?_
  refine xputi E hs hQ 58 (by decide) c13 rfl 2 (by decide) q161 rfl rfl (Nat.le_of_ble_eq_true rfl) dX10_tell_12 (fun H locs S14 eS14 hQ => ?_)
  have hI := invX_up_58 hI eS14 ⟨a1, a2, a3, v7, rfl, ba1, ba2, ba3, b8⟩
  have c15 : S14 58 = .inr (10, [.int a1, .int a2, .int a3, .int v7, .ref (ad 59)]) := up_at eS14 rfl
  refine lv_aload_n hx hb dX10_tell_15 rfl (lv_at hl 0 rfl) ?_
  refine lv_aload_n hx hb dX10_tell_16 rfl (lv_at hl 0 rfl) ?_
  refine xget E hQ 58 (by decide) c15 rfl 0 (by decide) q155 rfl dX10_tell_17 ?_
  refine lv_aload_n hx hb dX10_tell_20 rfl (lv_at hl 0 rfl) ?_
  refine xget E hQ 58 (by decide) c15 rfl 1 (by decide) q158 rfl dX10_tell_21 ?_
  refine lv_iadd hx hb dX10_tell_24 ?_
  refine lv_topi (fun z16 e17 => ?_)
  have t18 := ib_add e17 ba1 ba2 (by decide) (by decide)
  have b19 : Bd z16 (0) (18) := ib_addb t18 ba1 ba2
  refine lv_aload_n hx hb dX10_tell_25 rfl (lv_at hl 0 rfl) ?_
  refine xget E hQ 58 (by decide) c15 rfl 2 (by decide) q161 rfl dX10_tell_26 ?_
  refine lv_iadd hx hb dX10_tell_29 ?_
  refine lv_topi (fun z20 e21 => ?_)
  have t22 := ib_add e21 b19 ba3 (by decide) (by decide)
  have b23 : Bd z20 (0) (30) := ib_addb t22 b19 ba3
  refine lv_aload_n hx hb dX10_tell_30 rfl (lv_at hl 0 rfl) ?_
  refine xget E hQ 58 (by decide) c15 rfl 1 (by decide) q158 rfl dX10_tell_31 ?_
  refine lv_iadd hx hb dX10_tell_34 ?_
  refine lv_topi (fun z24 e25 => ?_)
  have t26 := ib_add e25 b23 ba2 (by decide) (by decide)
  have b27 : Bd z24 (0) (36) := ib_addb t26 b23 ba2
  refine xputi E hs hQ 58 (by decide) c15 rfl 3 (by decide) q165 rfl rfl (Nat.le_of_ble_eq_true rfl) dX10_tell_35 (fun H locs S28 eS28 hQ => ?_)
  have hI := invX_up_58 hI eS28 ⟨a1, a2, a3, z24, rfl, ba1, ba2, ba3, b27⟩
  have c29 : S28 58 = .inr (10, [.int a1, .int a2, .int a3, .int z24, .ref (ad 59)]) := up_at eS28 rfl
  refine lv_aload_n hx hb dX10_tell_38 rfl (lv_at hl 0 rfl) ?_
  refine xget E hQ 58 (by decide) c29 rfl 4 (by decide) q166 rfl dX10_tell_39 ?_
  refine lv_iconst (v := 1) hx hb dX10_tell_42 (by decide) ?_
  obtain ⟨f30, c31⟩ := invX_59 hI
  refine xcSv E hs hQ hml hl.1 (uFillI l g ad 122 hD S28 59 (by decide) 36 (by decide) f30 1 c31) mJ7_fill_53178 q596 rfl ⟨(Nat.le_of_ble_eq_true rfl), (Nat.le_of_ble_eq_true rfl)⟩ ⟨(Nat.le_of_ble_eq_true rfl), (Nat.le_of_ble_eq_true rfl)⟩ (Nat.le_of_ble_eq_true rfl) rfl dX10_tell_43 (fun S33 H locs eS33 hQ => ?_)
  have hI := invX_up_59 hI eS33 ⟨_, rfl⟩
  have c34 : S33 59 = .inl (g.2 0, 36, .inl (fillF 1 36 f30)) := up_at eS33 rfl
  refine lv_iconst (v := 0) hx hb dX10_tell_46 (by decide) ?_
  refine lv_istore (lv' := [(4, .int 0), (0, .ref (ad 58)), (1, .int a1), (2, .int a2), (3, .int a3)]) hx hb dX10_tell_47 hl (by decide) rfl (fun ls hl => ?_)
  have loop49 : ∀ (n : Nat) (S_49 : SS) (H : Heap) (locs : List Loc) (ls : Array Slot) (x49_4 : Int32), Bd x49_4 (0) (12) → (-1) * x49_4.toInt + 12 < ((n : Nat) : Int) → InvX g ad S_49 → (∀ j, j ∉ ([59] : List Nat) → S_49 j = S33 j) → Hp g ad 122 S_49 (FA ad 122) s.heap H locs → lv_has ls 5 [(4, .int x49_4), (0, .ref (ad 58)), (1, .int a1), (2, .int a2), (3, .int a3)] → W p l e (Rm 1) s m [.ref (ad 58), .int a1, .int a2, .int a3].toArray below meth c H locs 0 0 (MQ below (va_Qv (fun S' => InvX g ad S' ∧ (∀ j, j ∉ ([58, 59] : List Nat) → S' j = S j)) (QB g ad 122) (FA ad 122)) [.ref (ad 58), .int a1, .int a2, .int a3].toArray s 0 0 (FA ad 122)) (F0 m 49 ls []) := by
    intro n
    induction n with
    | zero => intro S_49 H locs ls x49_4 Bx49_4 hn49_ hI hf49 hQ hl; exfalso; have := (Bx49_4).2; omega
    | succ n49_ ih49 =>
      intro S_49 H locs ls x49_4 Bx49_4 hn49_ hI hf49 hQ hl
      refine lv_iload hx hb dX10_tell_49 (lv_at hl 0 rfl) ?_
      refine lv_aload_n hx hb dX10_tell_51 rfl (lv_at hl 1 rfl) ?_
      have c35 : S_49 58 = .inr (10, [.int a1, .int a2, .int a3, .int z24, .ref (ad 59)]) := ((hf49 58 (by decide)).trans (up_ne eS33 (by decide) c29))
      refine xget E hQ 58 (by decide) c35 rfl 0 (by decide) q155 rfl dX10_tell_52 ?_
      refine lv_icmp_ge (tgt := 79) hx hb dX10_tell_55 (by decide) (fun k36 => ?_) (fun k36 => ?_)
      · have h37 := ib_le k36
        refine lv_aload_n hx hb dX10_tell_79 rfl (lv_at hl 1 rfl) ?_
        refine xget E hQ 58 (by decide) c35 rfl 0 (by decide) q155 rfl dX10_tell_80 ?_
        refine lv_aload_n hx hb dX10_tell_83 rfl (lv_at hl 1 rfl) ?_
        refine xget E hQ 58 (by decide) c35 rfl 1 (by decide) q158 rfl dX10_tell_84 ?_
        refine lv_iadd hx hb dX10_tell_87 ?_
        refine lv_topi (fun z38 e39 => ?_)
        have t40 := ib_add e39 ba1 ba2 (by decide) (by decide)
        have b41 : Bd z38 (0) (18) := ib_addb t40 ba1 ba2
        refine lv_istore (lv' := [(4, .int z38), (0, .ref (ad 58)), (1, .int a1), (2, .int a2), (3, .int a3)]) hx hb dX10_tell_88 hl (by decide) rfl (fun ls hl => ?_)
        have loop90 : ∀ (n : Nat) (S_90 : SS) (H : Heap) (locs : List Loc) (ls : Array Slot) (x90_4 : Int32), Bd x90_4 (0) (36) → (-1) * x90_4.toInt + 36 < ((n : Nat) : Int) → InvX g ad S_90 → (∀ j, j ∉ ([59] : List Nat) → S_90 j = S_49 j) → Hp g ad 122 S_90 (FA ad 122) s.heap H locs → lv_has ls 5 [(4, .int x90_4), (0, .ref (ad 58)), (1, .int a1), (2, .int a2), (3, .int a3)] → W p l e (Rm 1) s m [.ref (ad 58), .int a1, .int a2, .int a3].toArray below meth c H locs 0 0 (MQ below (va_Qv (fun S' => InvX g ad S' ∧ (∀ j, j ∉ ([58, 59] : List Nat) → S' j = S j)) (QB g ad 122) (FA ad 122)) [.ref (ad 58), .int a1, .int a2, .int a3].toArray s 0 0 (FA ad 122)) (F0 m 90 ls []) := by
          intro n
          induction n with
          | zero => intro S_90 H locs ls x90_4 Bx90_4 hn90_ hI hf90 hQ hl; exfalso; have := (Bx90_4).2; omega
          | succ n90_ ih90 =>
            intro S_90 H locs ls x90_4 Bx90_4 hn90_ hI hf90 hQ hl
            refine lv_iload hx hb dX10_tell_90 (lv_at hl 0 rfl) ?_
            refine lv_aload_n hx hb dX10_tell_92 rfl (lv_at hl 1 rfl) ?_
            have c42 : S_90 58 = .inr (10, [.int a1, .int a2, .int a3, .int z24, .ref (ad 59)]) := ((hf90 58 (by decide)).trans c35)
            refine xget E hQ 58 (by decide) c42 rfl 3 (by decide) q165 rfl dX10_tell_93 ?_
            refine lv_aload_n hx hb dX10_tell_96 rfl (lv_at hl 1 rfl) ?_
            refine xget E hQ 58 (by decide) c42 rfl 1 (by decide) q158 rfl dX10_tell_97 ?_
            refine lv_isub hx hb dX10_tell_100 ?_
            refine lv_topi (fun z43 e44 => ?_)
            have t45 := ib_sub e44 b27 ba2 (by decide) (by decide)
            have b46 : Bd z43 (-6) (36) := ib_subb t45 b27 ba2
            refine lv_icmp_ge (tgt := 125) hx hb dX10_tell_101 (by decide) (fun k47 => ?_) (fun k47 => ?_)
            · have h48 := ib_le k47
              exact xrv E hr hlk hQ (⟨hI, (o_trans (o_trans (up_o (up_o (up_o (up_o (up_o o_refl eS10 (by decide)) eS12 (by decide)) eS14 (by decide)) eS28 (by decide)) eS33 (by decide)) hf49 (by decide)) hf90 (by decide))⟩) dX10_tell_125
            · have h49 := ib_nle k47
              have b50 : Bd x90_4 (0) (35) := ⟨(Bx90_4).1, ((rf_lt Bx90_4 b46 h49).1).2⟩
              have b51 : Bd z43 (1) (36) := ⟨((rf_lt Bx90_4 b46 h49).2).1, (b46).2⟩
              refine lv_iload hx hb dX10_tell_104 (lv_at hl 0 rfl) ?_
              refine lv_bipush (v := 36) hx hb dX10_tell_106 (by decide) ?_
              refine lv_icmp_ge (tgt := 125) hx hb dX10_tell_108 (by decide) (fun k52 => ?_) (fun k52 => ?_)
              · have h53 := ib_le k52
                exact absurd (Int.le_trans ((by decide : Bd 36 (36) (36))).1 ((rf_le (by decide : Bd 36 (36) (36)) b50 h53).1).2) (by decide)
              · have h54 := ib_nle k52
                refine lv_aload_n hx hb dX10_tell_111 rfl (lv_at hl 1 rfl) ?_
                refine xget E hQ 58 (by decide) c42 rfl 4 (by decide) q166 rfl dX10_tell_112 ?_
                refine lv_iload hx hb dX10_tell_115 (lv_at hl 0 rfl) ?_
                refine lv_iconst (v := 2) hx hb dX10_tell_117 (by decide) ?_
                obtain ⟨f55, c56⟩ := invX_59 hI
                refine xiast E hs hQ 59 (by decide) c56 (ib_in b50 (by decide) (by decide)) dX10_tell_118 (fun H locs S58 eS58 hQ => ?_)
                have hI := invX_up_59 hI eS58 ⟨_, rfl⟩
                have c59 : S58 59 = .inl (g.2 0, 36, .inl (upd f55 (x90_4 : Int32).toNatClampNeg 2)) := up_at eS58 rfl
                obtain ⟨z60, e61⟩ : ∃ z : Int32, z = x90_4 + 1 := ⟨_, rfl⟩
                have t62 := ib_add e61 b50 (by decide : Bd 1 (1) (1)) (by decide) (by decide)
                have b63 : Bd z60 (1) (36) := ib_addb t62 b50 (by decide : Bd 1 (1) (1))
                have t62 : z60.toInt = x90_4.toInt + 1 := fold_add t62 rfl (by decide)
                refine lv_iinc (v := z60) (lv' := [(4, .int z60), (0, .ref (ad 58)), (1, .int a1), (2, .int a2), (3, .int a3)]) hx hb dX10_tell_119 hl (k := 0) rfl (by rw [e61]; rfl) (by decide) rfl (fun ls hl => ?_)
                refine lv_goto (tgt := 90) hx hb dX10_tell_122 (by decide) ?_
                exact ih90 _ _ _ _ z60 (ib_wk b63 (by decide) (by decide)) (by omega) hI (up_o hf90 eS58 (by decide)) hQ (lv_sub hl [0, 1, 2, 3, 4] rfl)
        obtain ⟨n90, hn90⟩ := fu_n ((-1) * z38.toInt + 36)
        exact loop90 n90 _ _ _ _ z38 (ib_wk b41 (by decide) (by decide)) (by omega) hI o_refl hQ (lv_sub hl [0, 1, 2, 3, 4] rfl)
      · have h64 := ib_nle k36
        have b65 : Bd x49_4 (0) (11) := ⟨(Bx49_4).1, ((rf_lt Bx49_4 ba1 h64).1).2⟩
        have b66 : Bd a1 (1) (12) := ⟨((rf_lt Bx49_4 ba1 h64).2).1, (ba1).2⟩
        refine lv_iload hx hb dX10_tell_58 (lv_at hl 0 rfl) ?_
        refine lv_bipush (v := 36) hx hb dX10_tell_60 (by decide) ?_
        refine lv_icmp_ge (tgt := 79) hx hb dX10_tell_62 (by decide) (fun k67 => ?_) (fun k67 => ?_)
        · have h68 := ib_le k67
          exact absurd (Int.le_trans ((by decide : Bd 36 (36) (36))).1 ((rf_le (by decide : Bd 36 (36) (36)) b65 h68).1).2) (by decide)
        · have h69 := ib_nle k67
          refine lv_aload_n hx hb dX10_tell_65 rfl (lv_at hl 1 rfl) ?_
          refine xget E hQ 58 (by decide) c35 rfl 4 (by decide) q166 rfl dX10_tell_66 ?_
          refine lv_iload hx hb dX10_tell_69 (lv_at hl 0 rfl) ?_
          refine lv_iconst (v := 0) hx hb dX10_tell_71 (by decide) ?_
          obtain ⟨f70, c71⟩ := invX_59 hI
          refine xiast E hs hQ 59 (by decide) c71 (ib_in b65 (by decide) (by decide)) dX10_tell_72 (fun H locs S73 eS73 hQ => ?_)
          have hI := invX_up_59 hI eS73 ⟨_, rfl⟩
          have c74 : S73 59 = .inl (g.2 0, 36, .inl (upd f70 (x49_4 : Int32).toNatClampNeg 0)) := up_at eS73 rfl
          obtain ⟨z75, e76⟩ : ∃ z : Int32, z = x49_4 + 1 := ⟨_, rfl⟩
          have t77 := ib_add e76 b65 (by decide : Bd 1 (1) (1)) (by decide) (by decide)
          have b78 : Bd z75 (1) (12) := ib_addb t77 b65 (by decide : Bd 1 (1) (1))
          have t77 : z75.toInt = x49_4.toInt + 1 := fold_add t77 rfl (by decide)
          refine lv_iinc (v := z75) (lv' := [(4, .int z75), (0, .ref (ad 58)), (1, .int a1), (2, .int a2), (3, .int a3)]) hx hb dX10_tell_73 hl (k := 0) rfl (by rw [e76]; rfl) (by decide) rfl (fun ls hl => ?_)
          refine lv_goto (tgt := 49) hx hb dX10_tell_76 (by decide) ?_
          exact ih49 _ _ _ _ z75 (ib_wk b78 (by decide) (by decide)) (by omega) hI (up_o hf49 eS73 (by decide)) hQ (lv_sub hl [0, 1, 2, 3, 4] rfl)
  obtain ⟨n49, hn49⟩ := fu_n (12)
  exact loop49 n49 _ _ _ _ 0 (ib_wk (by decide : Bd 0 (0) (0)) (by decide) (by decide)) (by have : (0 : Int32).toInt = 0 := (by decide); omega) hI o_refl hQ (lv_sub hl [0, 1, 2, 3, 4] rfl)
set_option maxHeartbeats 4000000 in
set_option maxRecDepth 100000 in
theorem gX10_tell_76 (l : Launch) (g : GG) (ad : Nat → Nat) (hD : Dj ad 122) (S : SS) (hI : InvX g ad S) (a1 : Int32) (a2 : Int32) (a3 : Int32) (ba1 : Bd a1 (0) (12)) (ba2 : Bd a2 (0) (6)) (ba3 : Bd a3 (0) (12)) : Met l yX10_tell (wG (.code yX10_tell cX10_tell 5 none)) (Rm 1) (XPre g ad 122 S [.ref (ad 76), .int a1, .int a2, .int a3]) (va_Qv (fun S' => InvX g ad S' ∧ (∀ j, j ∉ ([76, 77] : List Nat) → S' j = S j)) (QB g ad 122) (FA ad 122)) 0 0 (FA ad 122) := by
  refine xmet cX10_tell "EbbWreck$Tide" (by decide) rfl (Nat.le_of_ble_eq_true rfl) (fun p e s m below meth c E hr hlk hml hQ ls hl => ?_)
  have hx := E.1
  have hb := E.2.1
  have hs : Sp ad 122 (FA ad 122) := Sp.fa hD
  have hl : lv_has ls 5 [(0, .ref (ad 76)), (1, .int a1), (2, .int a2), (3, .int a3)] := hl
  refine lv_aload_n hx hb dX10_tell_0 rfl (lv_at hl 0 rfl) ?_
  refine lv_iload_n hx hb dX10_tell_1 rfl (lv_at hl 1 rfl) ?_
  obtain ⟨v1, v3, v5, v7, c9, b2, b4, b6, b8⟩ := invX_76 hI
  have c9 : S 76 = .inr (10, [.int v1, .int v3, .int v5, .int v7, .ref (ad 77)]) := c9
  refine xputi E hs hQ 76 (by decide) c9 rfl 0 (by decide) q155 rfl rfl (Nat.le_of_ble_eq_true rfl) dX10_tell_2 (fun H locs S10 eS10 hQ => ?_)
  have hI := invX_up_76 hI eS10 ⟨a1, v3, v5, v7, rfl, ba1, b4, b6, b8⟩
  have c11 : S10 76 = .inr (10, [.int a1, .int v3, .int v5, .int v7, .ref (ad 77)]) := up_at eS10 rfl
  refine lv_aload_n hx hb dX10_tell_5 rfl (lv_at hl 0 rfl) ?_
  refine lv_iload_n hx hb dX10_tell_6 rfl (lv_at hl 2 rfl) ?_
  refine xputi E hs hQ 76 (by decide) c11 rfl 1 (by decide) q158 rfl rfl (Nat.le_of_ble_eq_true rfl) dX10_tell_7 (fun H locs S12 eS12 hQ => ?_)
  have hI := invX_up_76 hI eS12 ⟨a1, a2, v5, v7, rfl, ba1, ba2, b6, b8⟩
  have c13 : S12 76 = .inr (10, [.int a1, .int a2, .int v5, .int v7, .ref (ad 77)]) := up_at eS12 rfl
  refine lv_aload_n hx hb dX10_tell_10 rfl (lv_at hl 0 rfl) ?_
  refine lv_iload_n hx hb dX10_tell_11 rfl (lv_at hl 3 rfl) ?_
  refine xputi E hs hQ 76 (by decide) c13 rfl 2 (by decide) q161 rfl rfl (Nat.le_of_ble_eq_true rfl) dX10_tell_12 (fun H locs S14 eS14 hQ => ?_)
  have hI := invX_up_76 hI eS14 ⟨a1, a2, a3, v7, rfl, ba1, ba2, ba3, b8⟩
  have c15 : S14 76 = .inr (10, [.int a1, .int a2, .int a3, .int v7, .ref (ad 77)]) := up_at eS14 rfl
  refine lv_aload_n hx hb dX10_tell_15 rfl (lv_at hl 0 rfl) ?_
  refine lv_aload_n hx hb dX10_tell_16 rfl (lv_at hl 0 rfl) ?_
  refine xget E hQ 76 (by decide) c15 rfl 0 (by decide) q155 rfl dX10_tell_17 ?_
  refine lv_aload_n hx hb dX10_tell_20 rfl (lv_at hl 0 rfl) ?_
  refine xget E hQ 76 (by decide) c15 rfl 1 (by decide) q158 rfl dX10_tell_21 ?_
  refine lv_iadd hx hb dX10_tell_24 ?_
  refine lv_topi (fun z16 e17 => ?_)
  have t18 := ib_add e17 ba1 ba2 (by decide) (by decide)
  have b19 : Bd z16 (0) (18) := ib_addb t18 ba1 ba2
  refine lv_aload_n hx hb dX10_tell_25 rfl (lv_at hl 0 rfl) ?_
  refine xget E hQ 76 (by decide) c15 rfl 2 (by decide) q161 rfl dX10_tell_26 ?_
  refine lv_iadd hx hb dX10_tell_29 ?_
  refine lv_topi (fun z20 e21 => ?_)
  have t22 := ib_add e21 b19 ba3 (by decide) (by decide)
  have b23 : Bd z20 (0) (30) := ib_addb t22 b19 ba3
  refine lv_aload_n hx hb dX10_tell_30 rfl (lv_at hl 0 rfl) ?_
  refine xget E hQ 76 (by decide) c15 rfl 1 (by decide) q158 rfl dX10_tell_31 ?_
  refine lv_iadd hx hb dX10_tell_34 ?_
  refine lv_topi (fun z24 e25 => ?_)
  have t26 := ib_add e25 b23 ba2 (by decide) (by decide)
  have b27 : Bd z24 (0) (36) := ib_addb t26 b23 ba2
  refine xputi E hs hQ 76 (by decide) c15 rfl 3 (by decide) q165 rfl rfl (Nat.le_of_ble_eq_true rfl) dX10_tell_35 (fun H locs S28 eS28 hQ => ?_)
  have hI := invX_up_76 hI eS28 ⟨a1, a2, a3, z24, rfl, ba1, ba2, ba3, b27⟩
  have c29 : S28 76 = .inr (10, [.int a1, .int a2, .int a3, .int z24, .ref (ad 77)]) := up_at eS28 rfl
  refine lv_aload_n hx hb dX10_tell_38 rfl (lv_at hl 0 rfl) ?_
  refine xget E hQ 76 (by decide) c29 rfl 4 (by decide) q166 rfl dX10_tell_39 ?_
  refine lv_iconst (v := 1) hx hb dX10_tell_42 (by decide) ?_
  obtain ⟨f30, c31⟩ := invX_77 hI
  refine xcSv E hs hQ hml hl.1 (uFillI l g ad 122 hD S28 77 (by decide) 36 (by decide) f30 1 c31) mJ7_fill_53178 q596 rfl ⟨(Nat.le_of_ble_eq_true rfl), (Nat.le_of_ble_eq_true rfl)⟩ ⟨(Nat.le_of_ble_eq_true rfl), (Nat.le_of_ble_eq_true rfl)⟩ (Nat.le_of_ble_eq_true rfl) rfl dX10_tell_43 (fun S33 H locs eS33 hQ => ?_)
  have hI := invX_up_77 hI eS33 ⟨_, rfl⟩
  have c34 : S33 77 = .inl (g.2 0, 36, .inl (fillF 1 36 f30)) := up_at eS33 rfl
  refine lv_iconst (v := 0) hx hb dX10_tell_46 (by decide) ?_
  refine lv_istore (lv' := [(4, .int 0), (0, .ref (ad 76)), (1, .int a1), (2, .int a2), (3, .int a3)]) hx hb dX10_tell_47 hl (by decide) rfl (fun ls hl => ?_)
  have loop49 : ∀ (n : Nat) (S_49 : SS) (H : Heap) (locs : List Loc) (ls : Array Slot) (x49_4 : Int32), Bd x49_4 (0) (12) → (-1) * x49_4.toInt + 12 < ((n : Nat) : Int) → InvX g ad S_49 → (∀ j, j ∉ ([77] : List Nat) → S_49 j = S33 j) → Hp g ad 122 S_49 (FA ad 122) s.heap H locs → lv_has ls 5 [(4, .int x49_4), (0, .ref (ad 76)), (1, .int a1), (2, .int a2), (3, .int a3)] → W p l e (Rm 1) s m [.ref (ad 76), .int a1, .int a2, .int a3].toArray below meth c H locs 0 0 (MQ below (va_Qv (fun S' => InvX g ad S' ∧ (∀ j, j ∉ ([76, 77] : List Nat) → S' j = S j)) (QB g ad 122) (FA ad 122)) [.ref (ad 76), .int a1, .int a2, .int a3].toArray s 0 0 (FA ad 122)) (F0 m 49 ls []) := by
    intro n
    induction n with
    | zero => intro S_49 H locs ls x49_4 Bx49_4 hn49_ hI hf49 hQ hl; exfalso; have := (Bx49_4).2; omega
    | succ n49_ ih49 =>
      intro S_49 H locs ls x49_4 Bx49_4 hn49_ hI hf49 hQ hl
      refine lv_iload hx hb dX10_tell_49 (lv_at hl 0 rfl) ?_
      refine lv_aload_n hx hb dX10_tell_51 rfl (lv_at hl 1 rfl) ?_
      have c35 : S_49 76 = .inr (10, [.int a1, .int a2, .int a3, .int z24, .ref (ad 77)]) := ((hf49 76 (by decide)).trans (up_ne eS33 (by decide) c29))
      refine xget E hQ 76 (by decide) c35 rfl 0 (by decide) q155 rfl dX10_tell_52 ?_
      refine lv_icmp_ge (tgt := 79) hx hb dX10_tell_55 (by decide) (fun k36 => ?_) (fun k36 => ?_)
      · have h37 := ib_le k36
        refine lv_aload_n hx hb dX10_tell_79 rfl (lv_at hl 1 rfl) ?_
        refine xget E hQ 76 (by decide) c35 rfl 0 (by decide) q155 rfl dX10_tell_80 ?_
        refine lv_aload_n hx hb dX10_tell_83 rfl (lv_at hl 1 rfl) ?_
        refine xget E hQ 76 (by decide) c35 rfl 1 (by decide) q158 rfl dX10_tell_84 ?_
        refine lv_iadd hx hb dX10_tell_87 ?_
        refine lv_topi (fun z38 e39 => ?_)
        have t40 := ib_add e39 ba1 ba2 (by decide) (by decide)
        have b41 : Bd z38 (0) (18) := ib_addb t40 ba1 ba2
        refine lv_istore (lv' := [(4, .int z38), (0, .ref (ad 76)), (1, .int a1), (2, .int a2), (3, .int a3)]) hx hb dX10_tell_88 hl (by decide) rfl (fun ls hl => ?_)
        have loop90 : ∀ (n : Nat) (S_90 : SS) (H : Heap) (locs : List Loc) (ls : Array Slot) (x90_4 : Int32), Bd x90_4 (0) (36) → (-1) * x90_4.toInt + 36 < ((n : Nat) : Int) → InvX g ad S_90 → (∀ j, j ∉ ([77] : List Nat) → S_90 j = S_49 j) → Hp g ad 122 S_90 (FA ad 122) s.heap H locs → lv_has ls 5 [(4, .int x90_4), (0, .ref (ad 76)), (1, .int a1), (2, .int a2), (3, .int a3)] → W p l e (Rm 1) s m [.ref (ad 76), .int a1, .int a2, .int a3].toArray below meth c H locs 0 0 (MQ below (va_Qv (fun S' => InvX g ad S' ∧ (∀ j, j ∉ ([76, 77] : List Nat) → S' j = S j)) (QB g ad 122) (FA ad 122)) [.ref (ad 76), .int a1, .int a2, .int a3].toArray s 0 0 (FA ad 122)) (F0 m 90 ls []) := by
          intro n
          induction n with
          | zero => intro S_90 H locs ls x90_4 Bx90_4 hn90_ hI hf90 hQ hl; exfalso; have := (Bx90_4).2; omega
          | succ n90_ ih90 =>
            intro S_90 H locs ls x90_4 Bx90_4 hn90_ hI hf90 hQ hl
            refine lv_iload hx hb dX10_tell_90 (lv_at hl 0 rfl) ?_
            refine lv_aload_n hx hb dX10_tell_92 rfl (lv_at hl 1 rfl) ?_
            have c42 : S_90 76 = .inr (10, [.int a1, .int a2, .int a3, .int z24, .ref (ad 77)]) := ((hf90 76 (by decide)).trans c35)
            refine xget E hQ 76 (by decide) c42 rfl 3 (by decide) q165 rfl dX10_tell_93 ?_
            refine lv_aload_n hx hb dX10_tell_96 rfl (lv_at hl 1 rfl) ?_
            refine xget E hQ 76 (by decide) c42 rfl 1 (by decide) q158 rfl dX10_tell_97 ?_
            refine lv_isub hx hb dX10_tell_100 ?_
            refine lv_topi (fun z43 e44 => ?_)
            have t45 := ib_sub e44 b27 ba2 (by decide) (by decide)
            have b46 : Bd z43 (-6) (36) := ib_subb t45 b27 ba2
            refine lv_icmp_ge (tgt := 125) hx hb dX10_tell_101 (by decide) (fun k47 => ?_) (fun k47 => ?_)
            · have h48 := ib_le k47
              exact xrv E hr hlk hQ (⟨hI, (o_trans (o_trans (up_o (up_o (up_o (up_o (up_o o_refl eS10 (by decide)) eS12 (by decide)) eS14 (by decide)) eS28 (by decide)) eS33 (by decide)) hf49 (by decide)) hf90 (by decide))⟩) dX10_tell_125
            · have h49 := ib_nle k47
              have b50 : Bd x90_4 (0) (35) := ⟨(Bx90_4).1, ((rf_lt Bx90_4 b46 h49).1).2⟩
              have b51 : Bd z43 (1) (36) := ⟨((rf_lt Bx90_4 b46 h49).2).1, (b46).2⟩
              refine lv_iload hx hb dX10_tell_104 (lv_at hl 0 rfl) ?_
              refine lv_bipush (v := 36) hx hb dX10_tell_106 (by decide) ?_
              refine lv_icmp_ge (tgt := 125) hx hb dX10_tell_108 (by decide) (fun k52 => ?_) (fun k52 => ?_)
              · have h53 := ib_le k52
                exact absurd (Int.le_trans ((by decide : Bd 36 (36) (36))).1 ((rf_le (by decide : Bd 36 (36) (36)) b50 h53).1).2) (by decide)
              · have h54 := ib_nle k52
                refine lv_aload_n hx hb dX10_tell_111 rfl (lv_at hl 1 rfl) ?_
                refine xget E hQ 76 (by decide) c42 rfl 4 (by decide) q166 rfl dX10_tell_112 ?_
                refine lv_iload hx hb dX10_tell_115 (lv_at hl 0 rfl) ?_
                refine lv_iconst (v := 2) hx hb dX10_tell_117 (by decide) ?_
                obtain ⟨f55, c56⟩ := invX_77 hI
                refine xiast E hs hQ 77 (by decide) c56 (ib_in b50 (by decide) (by decide)) dX10_tell_118 (fun H locs S58 eS58 hQ => ?_)
                have hI := invX_up_77 hI eS58 ⟨_, rfl⟩
                have c59 : S58 77 = .inl (g.2 0, 36, .inl (upd f55 (x90_4 : Int32).toNatClampNeg 2)) := up_at eS58 rfl
                obtain ⟨z60, e61⟩ : ∃ z : Int32, z = x90_4 + 1 := ⟨_, rfl⟩
                have t62 := ib_add e61 b50 (by decide : Bd 1 (1) (1)) (by decide) (by decide)
                have b63 : Bd z60 (1) (36) := ib_addb t62 b50 (by decide : Bd 1 (1) (1))
                have t62 : z60.toInt = x90_4.toInt + 1 := fold_add t62 rfl (by decide)
                refine lv_iinc (v := z60) (lv' := [(4, .int z60), (0, .ref (ad 76)), (1, .int a1), (2, .int a2), (3, .int a3)]) hx hb dX10_tell_119 hl (k := 0) rfl (by rw [e61]; rfl) (by decide) rfl (fun ls hl => ?_)
                refine lv_goto (tgt := 90) hx hb dX10_tell_122 (by decide) ?_
                exact ih90 _ _ _ _ z60 (ib_wk b63 (by decide) (by decide)) (by omega) hI (up_o hf90 eS58 (by decide)) hQ (lv_sub hl [0, 1, 2, 3, 4] rfl)
        obtain ⟨n90, hn90⟩ := fu_n ((-1) * z38.toInt + 36)
        exact loop90 n90 _ _ _ _ z38 (ib_wk b41 (by decide) (by decide)) (by omega) hI o_refl hQ (lv_sub hl [0, 1, 2, 3, 4] rfl)
      · have h64 := ib_nle k36
        have b65 : Bd x49_4 (0) (11) := ⟨(Bx49_4).1, ((rf_lt Bx49_4 ba1 h64).1).2⟩
        have b66 : Bd a1 (1) (12) := ⟨((rf_lt Bx49_4 ba1 h64).2).1, (ba1).2⟩
        refine lv_iload hx hb dX10_tell_58 (lv_at hl 0 rfl) ?_
        refine lv_bipush (v := 36) hx hb dX10_tell_60 (by decide) ?_
        refine lv_icmp_ge (tgt := 79) hx hb dX10_tell_62 (by decide) (fun k67 => ?_) (fun k67 => ?_)
        · have h68 := ib_le k67
          exact absurd (Int.le_trans ((by decide : Bd 36 (36) (36))).1 ((rf_le (by decide : Bd 36 (36) (36)) b65 h68).1).2) (by decide)
        · have h69 := ib_nle k67
          refine lv_aload_n hx hb dX10_tell_65 rfl (lv_at hl 1 rfl) ?_
          refine xget E hQ 76 (by decide) c35 rfl 4 (by decide) q166 rfl dX10_tell_66 ?_
          refine lv_iload hx hb dX10_tell_69 (lv_at hl 0 rfl) ?_
          refine lv_iconst (v := 0) hx hb dX10_tell_71 (by decide) ?_
          obtain ⟨f70, c71⟩ := invX_77 hI
          refine xiast E hs hQ 77 (by decide) c71 (ib_in b65 (by decide) (by decide)) dX10_tell_72 (fun H locs S73 eS73 hQ => ?_)
          have hI := invX_up_77 hI eS73 ⟨_, rfl⟩
          have c74 : S73 77 = .inl (g.2 0, 36, .inl (upd f70 (x49_4 : Int32).toNatClampNeg 0)) := up_at eS73 rfl
          obtain ⟨z75, e76⟩ : ∃ z : Int32, z = x49_4 + 1 := ⟨_, rfl⟩
          have t77 := ib_add e76 b65 (by decide : Bd 1 (1) (1)) (by decide) (by decide)
          have b78 : Bd z75 (1) (12) := ib_addb t77 b65 (by decide : Bd 1 (1) (1))
          have t77 : z75.toInt = x49_4.toInt + 1 := fold_add t77 rfl (by decide)
          refine lv_iinc (v := z75) (lv' := [(4, .int z75), (0, .ref (ad 76)), (1, .int a1), (2, .int a2), (3, .int a3)]) hx hb dX10_tell_73 hl (k := 0) rfl (by rw [e76]; rfl) (by decide) rfl (fun ls hl => ?_)
          refine lv_goto (tgt := 49) hx hb dX10_tell_76 (by decide) ?_
          exact ih49 _ _ _ _ z75 (ib_wk b78 (by decide) (by decide)) (by omega) hI (up_o hf49 eS73 (by decide)) hQ (lv_sub hl [0, 1, 2, 3, 4] rfl)
  obtain ⟨n49, hn49⟩ := fu_n (12)
  exact loop49 n49 _ _ _ _ 0 (ib_wk (by decide : Bd 0 (0) (0)) (by decide) (by decide)) (by have : (0 : Int32).toInt = 0 := (by decide); omega) hI o_refl hQ (lv_sub hl [0, 1, 2, 3, 4] rfl)
set_option maxHeartbeats 4000000 in
set_option maxRecDepth 100000 in
theorem gX5_readShore_94 (l : Launch) (g : GG) (tt : TT) (ad : Nat → Nat) (hD : Dj ad 122) (S : SS) (hI : InvX g ad S) : Met l yX5_readShore (wG (.code yX5_readShore cX5_readShore 4 none)) (Rm 6) (XPreT g tt ad 122 S [.ref (ad 94)]) (va_Qv (fun S' => InvX g ad S' ∧ (∀ j, j ∉ ([20, 21, 22, 94] : List Nat) → S' j = S j) ∧ (0 ≤ fld (S' 20) 1 + (-3)) ∧ (0 ≤ fld (S 20) 0 + (-1) * fld (S' 20) 0 ∧ 0 ≤ fld (S' 20) 0 + (-1) * fld (S 20) 0) ∧ (0 ≤ fld (S 20) 7 + (-1) * fld (S' 20) 7 ∧ 0 ≤ fld (S' 20) 7 + (-1) * fld (S 20) 7) ∧ (0 ≤ fld (S 20) 12 + (-1) * fld (S' 20) 12 ∧ 0 ≤ fld (S' 20) 12 + (-1) * fld (S 20) 12)) (QB g ad 122) (FA ad 122)) 0 0 (FA ad 122) := by
  refine xmetT cX5_readShore "EbbWreck$Reader" (by decide) rfl (Nat.le_of_ble_eq_true rfl) (fun p e s m below meth c E hT hr hlk hml hQ ls hl => ?_)
  have hx := E.1
  have hb := E.2.1
  have hs : Sp ad 122 (FA ad 122) := Sp.fa hD
  have hl : lv_has ls 4 [(0, .ref (ad 94))] := hl
  obtain ⟨v1, v3, v5, v6, v7, v9, c11, b2, b4, b8, b10⟩ := invX_20 hI
  have c11 : S 20 = .inr (1, [.int v1, .int v3, .int v5, .ref (ad 21), .ref (ad 23), .ref (ad 24), .int v6, .int v7, .ref (ad 25), .ref (ad 26), .ref (ad 27), .ref (ad 28), .int v9, .ref (ad 33), .ref (ad 34)]) := c11
  refine lv_aload_n hx hb dX5_readShore_0 rfl (lv_at hl 0 rfl) ?_
  refine va_ldcS hx hb E.2.2.1 (hT.2.2.2 5 (by decide) : vk_R "EbbWreck$Reader" 124 "shore" (tt.1 5) s) dX5_readShore_1 ?_
  obtain ⟨v13, v15, v16, v18, v20, v21, v23, c24, b14, b17, b19, b22⟩ := invX_94 hI
  have c24 : S 94 = .inr (5, [.ref (ad 1), .ref (ad 20), .int v13, .int v15, .int v16, .int v18, .int v20, .int v21, .int v23]) := c24
  refine xcVvT E hs hQ hml hl.1 hT 94 (gX5_expectWord_94 l g tt ad hD S hI 5 (by decide)) mX5_expectWord q623 (by decide) c24 rfl rfl ⟨(Nat.le_of_ble_eq_true rfl), (Nat.le_of_ble_eq_true rfl)⟩ ⟨(Nat.le_of_ble_eq_true rfl), (Nat.le_of_ble_eq_true rfl)⟩ (Nat.le_of_ble_eq_true rfl) rfl dX5_readShore_3 (fun S12 H locs hp12 hQ _ => ?_)
  obtain ⟨hI, o12⟩ := hp12
  refine lv_aload_n hx hb dX5_readShore_6 rfl (lv_at hl 0 rfl) ?_
  refine va_ldcS hx hb E.2.2.1 (hT.2.2.2 6 (by decide) : vk_R "EbbWreck$Reader" 130 "cells" (tt.1 6) s) dX5_readShore_7 ?_
  obtain ⟨v26, v28, v29, v31, v33, v34, v36, c37, b27, b30, b32, b35⟩ := invX_94 hI
  have c37 : S12 94 = .inr (5, [.ref (ad 1), .ref (ad 20), .int v26, .int v28, .int v29, .int v31, .int v33, .int v34, .int v36]) := c37
  refine xcVvT E hs hQ hml hl.1 hT 94 (gX5_expectWord_94 l g tt ad hD S12 hI 6 (by decide)) mX5_expectWord q623 (by decide) c37 rfl rfl ⟨(Nat.le_of_ble_eq_true rfl), (Nat.le_of_ble_eq_true rfl)⟩ ⟨(Nat.le_of_ble_eq_true rfl), (Nat.le_of_ble_eq_true rfl)⟩ (Nat.le_of_ble_eq_true rfl) rfl dX5_readShore_9 (fun S25 H locs hp25 hQ _ => ?_)
  obtain ⟨hI, o25⟩ := hp25
  refine lv_aload_n hx hb dX5_readShore_12 rfl (lv_at hl 0 rfl) ?_
  obtain ⟨v38, v40, v41, v43, v45, v46, v48, c49, b39, b42, b44, b47⟩ := invX_94 hI
  have c49 : S25 94 = .inr (5, [.ref (ad 1), .ref (ad 20), .int v38, .int v40, .int v41, .int v43, .int v45, .int v46, .int v48]) := c49
  refine xget E hQ 94 (by decide) c49 rfl 1 (by decide) q343 rfl dX5_readShore_13 ?_
  refine lv_aload_n hx hb dX5_readShore_16 rfl (lv_at hl 0 rfl) ?_
  refine lv_iconst (v := 3) hx hb dX5_readShore_17 (by decide) ?_
  refine lv_bipush (v := 12) hx hb dX5_readShore_18 (by decide) ?_
  refine xcVi E hs hQ hml hl.1 94 (gX5_expectNumber_0 l g ad hD S25 hI 3 12 (by decide : Bd 3 (3) (3)) (by decide : Bd 12 (12) (12))) mX5_expectNumber q684 (by decide) c49 rfl rfl ⟨(Nat.le_of_ble_eq_true rfl), (Nat.le_of_ble_eq_true rfl)⟩ ⟨(Nat.le_of_ble_eq_true rfl), (Nat.le_of_ble_eq_true rfl)⟩ (Nat.le_of_ble_eq_true rfl) rfl dX5_readShore_20 (fun r50 S50 H locs hp50 hQ _ => ?_)
  obtain ⟨hI, o50, b50⟩ := hp50
  have c51 : S50 20 = .inr (1, [.int v1, .int v3, .int v5, .ref (ad 21), .ref (ad 23), .ref (ad 24), .int v6, .int v7, .ref (ad 25), .ref (ad 26), .ref (ad 27), .ref (ad 28), .int v9, .ref (ad 33), .ref (ad 34)]) := ((o50 20 (by decide)).trans ((o25 20 (by decide)).trans ((o12 20 (by decide)).trans c11)))
  refine xputi E hs hQ 20 (by decide) c51 rfl 1 (by decide) q245 rfl rfl (Nat.le_of_ble_eq_true rfl) dX5_readShore_23 (fun H locs S52 eS52 hQ => ?_)
  have hI := invX_up_20 hI eS52 ⟨v1, r50, v5, v6, v7, v9, rfl, b2, (ib_wk b50 (by decide) (by decide)), b8, b10⟩
  have c53 : S52 20 = .inr (1, [.int v1, .int r50, .int v5, .ref (ad 21), .ref (ad 23), .ref (ad 24), .int v6, .int v7, .ref (ad 25), .ref (ad 26), .ref (ad 27), .ref (ad 28), .int v9, .ref (ad 33), .ref (ad 34)]) := up_at eS52 rfl
  refine lv_aload_n hx hb dX5_readShore_26 rfl (lv_at hl 0 rfl) ?_
  refine va_ldcS hx hb E.2.2.1 (hT.2.2.2 7 (by decide) : vk_R "EbbWreck$Reader" 137 "flood" (tt.1 7) s) dX5_readShore_27 ?_
  obtain ⟨v55, v57, v58, v60, v62, v63, v65, c66, b56, b59, b61, b64⟩ := invX_94 hI
  have c66 : S52 94 = .inr (5, [.ref (ad 1), .ref (ad 20), .int v55, .int v57, .int v58, .int v60, .int v62, .int v63, .int v65]) := c66
  refine xcVvT E hs hQ hml hl.1 hT 94 (gX5_expectWord_94 l g tt ad hD S52 hI 7 (by decide)) mX5_expectWord q623 (by decide) c66 rfl rfl ⟨(Nat.le_of_ble_eq_true rfl), (Nat.le_of_ble_eq_true rfl)⟩ ⟨(Nat.le_of_ble_eq_true rfl), (Nat.le_of_ble_eq_true rfl)⟩ (Nat.le_of_ble_eq_true rfl) rfl dX5_readShore_29 (fun S54 H locs hp54 hQ _ => ?_)
  obtain ⟨hI, o54⟩ := hp54
  refine lv_aload_n hx hb dX5_readShore_32 rfl (lv_at hl 0 rfl) ?_
  refine lv_iconst (v := 1) hx hb dX5_readShore_33 (by decide) ?_
  refine lv_bipush (v := 12) hx hb dX5_readShore_34 (by decide) ?_
  obtain ⟨v68, v70, v71, v73, v75, v76, v78, c79, b69, b72, b74, b77⟩ := invX_94 hI
  have c79 : S54 94 = .inr (5, [.ref (ad 1), .ref (ad 20), .int v68, .int v70, .int v71, .int v73, .int v75, .int v76, .int v78]) := c79
  refine xcVi E hs hQ hml hl.1 94 (gX5_expectNumber_1 l g ad hD S54 hI 1 12 (by decide : Bd 1 (1) (1)) (by decide : Bd 12 (12) (12))) mX5_expectNumber q684 (by decide) c79 rfl rfl ⟨(Nat.le_of_ble_eq_true rfl), (Nat.le_of_ble_eq_true rfl)⟩ ⟨(Nat.le_of_ble_eq_true rfl), (Nat.le_of_ble_eq_true rfl)⟩ (Nat.le_of_ble_eq_true rfl) rfl dX5_readShore_36 (fun r67 S67 H locs hp67 hQ _ => ?_)
  obtain ⟨hI, o67, b67⟩ := hp67
  refine lv_istore_n (lv' := [(1, .int r67), (0, .ref (ad 94))]) hx hb dX5_readShore_39 rfl hl (by decide) rfl (fun ls hl => ?_)
  refine lv_aload_n hx hb dX5_readShore_40 rfl (lv_at hl 1 rfl) ?_
  refine va_ldcS hx hb E.2.2.1 (hT.2.2.2 8 (by decide) : vk_R "EbbWreck$Reader" 139 "slack" (tt.1 8) s) dX5_readShore_41 ?_
  obtain ⟨v81, v83, v84, v86, v88, v89, v91, c92, b82, b85, b87, b90⟩ := invX_94 hI
  have c92 : S67 94 = .inr (5, [.ref (ad 1), .ref (ad 20), .int v81, .int v83, .int v84, .int v86, .int v88, .int v89, .int v91]) := c92
  refine xcVvT E hs hQ hml hl.1 hT 94 (gX5_expectWord_94 l g tt ad hD S67 hI 8 (by decide)) mX5_expectWord q623 (by decide) c92 rfl rfl ⟨(Nat.le_of_ble_eq_true rfl), (Nat.le_of_ble_eq_true rfl)⟩ ⟨(Nat.le_of_ble_eq_true rfl), (Nat.le_of_ble_eq_true rfl)⟩ (Nat.le_of_ble_eq_true rfl) rfl dX5_readShore_43 (fun S80 H locs hp80 hQ _ => ?_)
  obtain ⟨hI, o80⟩ := hp80
  refine lv_aload_n hx hb dX5_readShore_46 rfl (lv_at hl 1 rfl) ?_
  refine lv_iconst (v := 0) hx hb dX5_readShore_47 (by decide) ?_
  refine lv_bipush (v := 6) hx hb dX5_readShore_48 (by decide) ?_
  obtain ⟨v94, v96, v97, v99, v101, v102, v104, c105, b95, b98, b100, b103⟩ := invX_94 hI
  have c105 : S80 94 = .inr (5, [.ref (ad 1), .ref (ad 20), .int v94, .int v96, .int v97, .int v99, .int v101, .int v102, .int v104]) := c105
  refine xcVi E hs hQ hml hl.1 94 (gX5_expectNumber_2 l g ad hD S80 hI 0 6 (by decide : Bd 0 (0) (0)) (by decide : Bd 6 (6) (6))) mX5_expectNumber q684 (by decide) c105 rfl rfl ⟨(Nat.le_of_ble_eq_true rfl), (Nat.le_of_ble_eq_true rfl)⟩ ⟨(Nat.le_of_ble_eq_true rfl), (Nat.le_of_ble_eq_true rfl)⟩ (Nat.le_of_ble_eq_true rfl) rfl dX5_readShore_50 (fun r93 S93 H locs hp93 hQ _ => ?_)
  obtain ⟨hI, o93, b93⟩ := hp93
  refine lv_istore_n (lv' := [(2, .int r93), (1, .int r67), (0, .ref (ad 94))]) hx hb dX5_readShore_53 rfl hl (by decide) rfl (fun ls hl => ?_)
  refine lv_aload_n hx hb dX5_readShore_54 rfl (lv_at hl 2 rfl) ?_
  refine va_ldcS hx hb E.2.2.1 (hT.2.2.2 9 (by decide) : vk_R "EbbWreck$Reader" 141 "ebb" (tt.1 9) s) dX5_readShore_55 ?_
  obtain ⟨v107, v109, v110, v112, v114, v115, v117, c118, b108, b111, b113, b116⟩ := invX_94 hI
  have c118 : S93 94 = .inr (5, [.ref (ad 1), .ref (ad 20), .int v107, .int v109, .int v110, .int v112, .int v114, .int v115, .int v117]) := c118
  refine xcVvT E hs hQ hml hl.1 hT 94 (gX5_expectWord_94 l g tt ad hD S93 hI 9 (by decide)) mX5_expectWord q623 (by decide) c118 rfl rfl ⟨(Nat.le_of_ble_eq_true rfl), (Nat.le_of_ble_eq_true rfl)⟩ ⟨(Nat.le_of_ble_eq_true rfl), (Nat.le_of_ble_eq_true rfl)⟩ (Nat.le_of_ble_eq_true rfl) rfl dX5_readShore_57 (fun S106 H locs hp106 hQ _ => ?_)
  obtain ⟨hI, o106⟩ := hp106
  refine lv_aload_n hx hb dX5_readShore_60 rfl (lv_at hl 2 rfl) ?_
  refine lv_iconst (v := 1) hx hb dX5_readShore_61 (by decide) ?_
  refine lv_bipush (v := 12) hx hb dX5_readShore_62 (by decide) ?_
  obtain ⟨v120, v122, v123, v125, v127, v128, v130, c131, b121, b124, b126, b129⟩ := invX_94 hI
  have c131 : S106 94 = .inr (5, [.ref (ad 1), .ref (ad 20), .int v120, .int v122, .int v123, .int v125, .int v127, .int v128, .int v130]) := c131
  refine xcVi E hs hQ hml hl.1 94 (gX5_expectNumber_1 l g ad hD S106 hI 1 12 (by decide : Bd 1 (1) (1)) (by decide : Bd 12 (12) (12))) mX5_expectNumber q684 (by decide) c131 rfl rfl ⟨(Nat.le_of_ble_eq_true rfl), (Nat.le_of_ble_eq_true rfl)⟩ ⟨(Nat.le_of_ble_eq_true rfl), (Nat.le_of_ble_eq_true rfl)⟩ (Nat.le_of_ble_eq_true rfl) rfl dX5_readShore_64 (fun r119 S119 H locs hp119 hQ _ => ?_)
  obtain ⟨hI, o119, b119⟩ := hp119
  refine lv_istore_n (lv' := [(3, .int r119), (2, .int r93), (1, .int r67), (0, .ref (ad 94))]) hx hb dX5_readShore_67 rfl hl (by decide) rfl (fun ls hl => ?_)
  refine lv_aload_n hx hb dX5_readShore_68 rfl (lv_at hl 3 rfl) ?_
  refine va_ldcS hx hb E.2.2.1 (hT.2.2.2 10 (by decide) : vk_R "EbbWreck$Reader" 143 "odds" (tt.1 10) s) dX5_readShore_69 ?_
  obtain ⟨v133, v135, v136, v138, v140, v141, v143, c144, b134, b137, b139, b142⟩ := invX_94 hI
  have c144 : S119 94 = .inr (5, [.ref (ad 1), .ref (ad 20), .int v133, .int v135, .int v136, .int v138, .int v140, .int v141, .int v143]) := c144
  refine xcVvT E hs hQ hml hl.1 hT 94 (gX5_expectWord_94 l g tt ad hD S119 hI 10 (by decide)) mX5_expectWord q623 (by decide) c144 rfl rfl ⟨(Nat.le_of_ble_eq_true rfl), (Nat.le_of_ble_eq_true rfl)⟩ ⟨(Nat.le_of_ble_eq_true rfl), (Nat.le_of_ble_eq_true rfl)⟩ (Nat.le_of_ble_eq_true rfl) rfl dX5_readShore_71 (fun S132 H locs hp132 hQ _ => ?_)
  obtain ⟨hI, o132⟩ := hp132
  refine lv_aload_n hx hb dX5_readShore_74 rfl (lv_at hl 3 rfl) ?_
  obtain ⟨v145, v147, v148, v150, v152, v153, v155, c156, b146, b149, b151, b154⟩ := invX_94 hI
  have c156 : S132 94 = .inr (5, [.ref (ad 1), .ref (ad 20), .int v145, .int v147, .int v148, .int v150, .int v152, .int v153, .int v155]) := c156
  refine xget E hQ 94 (by decide) c156 rfl 1 (by decide) q343 rfl dX5_readShore_75 ?_
  refine lv_aload_n hx hb dX5_readShore_78 rfl (lv_at hl 3 rfl) ?_
  refine lv_iconst (v := 0) hx hb dX5_readShore_79 (by decide) ?_
  refine lv_bipush (v := 100) hx hb dX5_readShore_80 (by decide) ?_
  refine xcVi E hs hQ hml hl.1 94 (gX5_expectNumber_3 l g ad hD S132 hI 0 100 (by decide : Bd 0 (0) (0)) (by decide : Bd 100 (100) (100))) mX5_expectNumber q684 (by decide) c156 rfl rfl ⟨(Nat.le_of_ble_eq_true rfl), (Nat.le_of_ble_eq_true rfl)⟩ ⟨(Nat.le_of_ble_eq_true rfl), (Nat.le_of_ble_eq_true rfl)⟩ (Nat.le_of_ble_eq_true rfl) rfl dX5_readShore_82 (fun r157 S157 H locs hp157 hQ _ => ?_)
  obtain ⟨hI, o157, b157⟩ := hp157
  have c158 : S157 20 = .inr (1, [.int v1, .int r50, .int v5, .ref (ad 21), .ref (ad 23), .ref (ad 24), .int v6, .int v7, .ref (ad 25), .ref (ad 26), .ref (ad 27), .ref (ad 28), .int v9, .ref (ad 33), .ref (ad 34)]) := ((o157 20 (by decide)).trans ((o132 20 (by decide)).trans ((o119 20 (by decide)).trans ((o106 20 (by decide)).trans ((o93 20 (by decide)).trans ((o80 20 (by decide)).trans ((o67 20 (by decide)).trans ((o54 20 (by decide)).trans c53))))))))
  refine xputi E hs hQ 20 (by decide) c158 rfl 2 (by decide) q250 rfl rfl (Nat.le_of_ble_eq_true rfl) dX5_readShore_85 (fun H locs S159 eS159 hQ => ?_)
  have hI := invX_up_20 hI eS159 ⟨v1, r50, r157, v6, v7, v9, rfl, b2, (ib_wk b50 (by decide) (by decide)), b8, b10⟩
  have c160 : S159 20 = .inr (1, [.int v1, .int r50, .int r157, .ref (ad 21), .ref (ad 23), .ref (ad 24), .int v6, .int v7, .ref (ad 25), .ref (ad 26), .ref (ad 27), .ref (ad 28), .int v9, .ref (ad 33), .ref (ad 34)]) := up_at eS159 rfl
  refine lv_aload_n hx hb dX5_readShore_88 rfl (lv_at hl 3 rfl) ?_
  obtain ⟨v161, v163, v164, v166, v168, v169, v171, c172, b162, b165, b167, b170⟩ := invX_94 hI
  have c172 : S159 94 = .inr (5, [.ref (ad 1), .ref (ad 20), .int v161, .int v163, .int v164, .int v166, .int v168, .int v169, .int v171]) := c172
  refine xget E hQ 94 (by decide) c172 rfl 1 (by decide) q343 rfl dX5_readShore_89 ?_
  refine xget E hQ 20 (by decide) c160 rfl 3 (by decide) q256 rfl dX5_readShore_92 ?_
  refine lv_iload_n hx hb dX5_readShore_95 rfl (lv_at hl 2 rfl) ?_
  refine lv_iload_n hx hb dX5_readShore_96 rfl (lv_at hl 1 rfl) ?_
  refine lv_iload_n hx hb dX5_readShore_97 rfl (lv_at hl 0 rfl) ?_
  obtain ⟨v174, v176, v178, v180, c182, b175, b177, b179, b181⟩ := invX_21 hI
  have c182 : S159 21 = .inr (10, [.int v174, .int v176, .int v178, .int v180, .ref (ad 22)]) := c182
  refine xcVv E hs hQ hml hl.1 21 (gX10_tell_21 l g ad hD S159 hI r67 r93 r119 (ib_wk b67 (by decide) (by decide)) b93 (ib_wk b119 (by decide) (by decide))) mX10_tell q692 (by decide) c182 rfl rfl ⟨(Nat.le_of_ble_eq_true rfl), (Nat.le_of_ble_eq_true rfl)⟩ ⟨(Nat.le_of_ble_eq_true rfl), (Nat.le_of_ble_eq_true rfl)⟩ (Nat.le_of_ble_eq_true rfl) rfl dX5_readShore_98 (fun S173 H locs hp173 hQ _ => ?_)
  obtain ⟨hI, o173⟩ := hp173
  have c183 : S173 20 = .inr (1, [.int v1, .int r50, .int r157, .ref (ad 21), .ref (ad 23), .ref (ad 24), .int v6, .int v7, .ref (ad 25), .ref (ad 26), .ref (ad 27), .ref (ad 28), .int v9, .ref (ad 33), .ref (ad 34)]) := ((o173 20 (by decide)).trans c160)
  have q184 : fld (S173 20) 1 = r50.toInt := fld_of c183 rfl
  have q185 : fld (S 20) 0 = v1.toInt := fld_of c11 rfl
  have q186 : fld (S173 20) 0 = v1.toInt := fld_of c183 rfl
  have q187 : fld (S 20) 7 = v7.toInt := fld_of c11 rfl
  have q188 : fld (S173 20) 7 = v7.toInt := fld_of c183 rfl
  have q189 : fld (S 20) 12 = v9.toInt := fld_of c11 rfl
  have q190 : fld (S173 20) 12 = v9.toInt := fld_of c183 rfl
  exact xrv E hr hlk hQ (⟨hI, (o_trans (up_o (o_trans (o_trans (o_trans (o_trans (o_trans (o_trans (o_trans (o_trans (up_o (o_trans (o_trans (o_trans o_refl o12 (by decide)) o25 (by decide)) o50 (by decide)) eS52 (by decide)) o54 (by decide)) o67 (by decide)) o80 (by decide)) o93 (by decide)) o106 (by decide)) o119 (by decide)) o132 (by decide)) o157 (by decide)) eS159 (by decide)) o173 (by decide)), (by omega), ⟨by omega, by omega⟩, ⟨by omega, by omega⟩, ⟨by omega, by omega⟩⟩) dX5_readShore_101
set_option maxHeartbeats 4000000 in
set_option maxRecDepth 100000 in
theorem gX5_readWay_94 (l : Launch) (g : GG) (tt : TT) (ad : Nat → Nat) (hD : Dj ad 122) (S : SS) (hI : InvX g ad S) : Met l yX5_readWay (wG (.code yX5_readWay cX5_readWay 1 (some .int))) (Rm 5) (XPreT g tt ad 122 S [.ref (ad 94)]) (va_Qi (fun r S' => InvX g ad S' ∧ (∀ j, j ∉ ([94] : List Nat) → S' j = S j) ∧ Bd r (-1) (1)) (QB g ad 122) (FA ad 122)) 0 0 (FA ad 122) := by
  refine xmetT cX5_readWay "EbbWreck$Reader" (by decide) rfl (Nat.le_of_ble_eq_true rfl) (fun p e s m below meth c E hT hr hlk hml hQ ls hl => ?_)
  have hx := E.1
  have hb := E.2.1
  have hs : Sp ad 122 (FA ad 122) := Sp.fa hD
  have hl : lv_has ls 1 [(0, .ref (ad 94))] := hl
  refine lv_aload_n hx hb dX5_readWay_0 rfl (lv_at hl 0 rfl) ?_
  obtain ⟨v1, v3, v4, v6, v8, v9, v11, c12, b2, b5, b7, b10⟩ := invX_94 hI
  have c12 : S 94 = .inr (5, [.ref (ad 1), .ref (ad 20), .int v1, .int v3, .int v4, .int v6, .int v8, .int v9, .int v11]) := c12
  refine xcVi E hs hQ hml hl.1 94 (gX5_failed_94 l g ad hD S hI ) mX5_failed q610 (by decide) c12 rfl rfl ⟨(Nat.le_of_ble_eq_true rfl), (Nat.le_of_ble_eq_true rfl)⟩ ⟨(Nat.le_of_ble_eq_true rfl), (Nat.le_of_ble_eq_true rfl)⟩ (Nat.le_of_ble_eq_true rfl) rfl dX5_readWay_1 (fun r13 S13 H locs hp13 hQ _ => ?_)
  obtain ⟨rfl, b13, g13_0⟩ := hp13
  have q14 : fld (S 94) 7 = v9.toInt := fld_of c12 rfl
  refine lv_if_ne (tgt := 16) hx hb dX5_readWay_4 (by decide) (fun k15 => ?_) (fun k15 => ?_)
  · have h16 := ib_ne k15
    have b17 : Bd r13 (1) (1) := rf_nlo b13 (by decide : Bd 0 (0) (0)) h16
    clear g13_0
    refine lv_iconst (v := 1) hx hb dX5_readWay_16 (by decide) ?_
    exact xri E hr hlk hQ (⟨hI, o_refl, (ib_wk (by decide : Bd 1 (1) (1)) (by decide) (by decide))⟩) dX5_readWay_17
  · have h18 := ib_eq k15
    have b19 : Bd r13 (0) (0) := ⟨(b13).1, ((rf_eq b13 (by decide : Bd 0 (0) (0)) h18).1).2⟩
    have g20 := g13_0.resolve_left (by omega)
    clear g13_0
    have b21 : Bd v9 (0) (0) := ⟨by omega, by omega⟩
    refine lv_aload_n hx hb dX5_readWay_7 rfl (lv_at hl 0 rfl) ?_
    refine va_ldcS hx hb E.2.2.1 (hT.2.2.2 11 (by decide) : vk_R "EbbWreck$Reader" 167 "back" (tt.1 11) s) dX5_readWay_8 ?_
    refine xcViT E hs hQ hml hl.1 hT 94 (gX5_isWord_94 l g tt ad hD S hI 11 (by decide)) mX5_isWord q627 (by decide) c12 rfl rfl ⟨(Nat.le_of_ble_eq_true rfl), (Nat.le_of_ble_eq_true rfl)⟩ ⟨(Nat.le_of_ble_eq_true rfl), (Nat.le_of_ble_eq_true rfl)⟩ (Nat.le_of_ble_eq_true rfl) rfl dX5_readWay_10 (fun r22 S22 H locs hp22 hQ _ => ?_)
    obtain ⟨rfl, b22⟩ := hp22
    refine lv_if_ne (tgt := 18) hx hb dX5_readWay_13 (by decide) (fun k23 => ?_) (fun k23 => ?_)
    · have h24 := ib_ne k23
      have b25 : Bd r22 (1) (1) := rf_nlo b22 (by decide : Bd 0 (0) (0)) h24
      refine lv_aload_n hx hb dX5_readWay_18 rfl (lv_at hl 0 rfl) ?_
      refine xcVv E hs hQ hml hl.1 94 (gX5_advance_94 l g ad hD S hI ) mX5_advance q598 (by decide) c12 rfl rfl ⟨(Nat.le_of_ble_eq_true rfl), (Nat.le_of_ble_eq_true rfl)⟩ ⟨(Nat.le_of_ble_eq_true rfl), (Nat.le_of_ble_eq_true rfl)⟩ (Nat.le_of_ble_eq_true rfl) rfl dX5_readWay_19 (fun S26 H locs hp26 hQ _ => ?_)
      obtain ⟨hI, o26⟩ := hp26
      refine lv_iconst (v := (-1)) hx hb dX5_readWay_22 (by decide) ?_
      exact xri E hr hlk hQ (⟨hI, (o_trans o_refl o26 (by decide)), (ib_wk (by decide : Bd (-1) (-1) (-1)) (by decide) (by decide))⟩) dX5_readWay_23
    · have h27 := ib_eq k23
      have b28 : Bd r22 (0) (0) := ⟨(b22).1, ((rf_eq b22 (by decide : Bd 0 (0) (0)) h27).1).2⟩
      refine lv_iconst (v := 1) hx hb dX5_readWay_16 (by decide) ?_
      exact xri E hr hlk hQ (⟨hI, o_refl, (ib_wk (by decide : Bd 1 (1) (1)) (by decide) (by decide))⟩) dX5_readWay_17
set_option maxHeartbeats 4000000 in
set_option maxRecDepth 100000 in
theorem gX5_readCurrent_94 (l : Launch) (g : GG) (tt : TT) (ad : Nat → Nat) (hD : Dj ad 122) (S : SS) (hI : InvX g ad S) : Met l yX5_readCurrent (wG (.code yX5_readCurrent cX5_readCurrent 4 none)) (Rm 6) (XPreT g tt ad 122 S [.ref (ad 94)]) (va_Qv (fun S' => InvX g ad S' ∧ (∀ j, j ∉ ([23, 24, 94] : List Nat) → S' j = S j) ∧ (0 ≤ fld (S 20) 0 + (-1) * fld (S' 20) 0 ∧ 0 ≤ fld (S' 20) 0 + (-1) * fld (S 20) 0) ∧ (0 ≤ fld (S 20) 1 + (-1) * fld (S' 20) 1 ∧ 0 ≤ fld (S' 20) 1 + (-1) * fld (S 20) 1) ∧ (0 ≤ fld (S 20) 7 + (-1) * fld (S' 20) 7 ∧ 0 ≤ fld (S' 20) 7 + (-1) * fld (S 20) 7) ∧ (0 ≤ fld (S 20) 12 + (-1) * fld (S' 20) 12 ∧ 0 ≤ fld (S' 20) 12 + (-1) * fld (S 20) 12)) (QB g ad 122) (FA ad 122)) 0 0 (FA ad 122) := by
  refine xmetT cX5_readCurrent "EbbWreck$Reader" (by decide) rfl (Nat.le_of_ble_eq_true rfl) (fun p e s m below meth c E hT hr hlk hml hQ ls hl => ?_)
  have hx := E.1
  have hb := E.2.1
  have hs : Sp ad 122 (FA ad 122) := Sp.fa hD
  have hl : lv_has ls 4 [(0, .ref (ad 94))] := hl
  obtain ⟨v1, v3, v5, v6, v7, v9, c11, b2, b4, b8, b10⟩ := invX_20 hI
  have c11 : S 20 = .inr (1, [.int v1, .int v3, .int v5, .ref (ad 21), .ref (ad 23), .ref (ad 24), .int v6, .int v7, .ref (ad 25), .ref (ad 26), .ref (ad 27), .ref (ad 28), .int v9, .ref (ad 33), .ref (ad 34)]) := c11
  refine lv_aload_n hx hb dX5_readCurrent_0 rfl (lv_at hl 0 rfl) ?_
  obtain ⟨v13, v15, v16, v18, v20, v21, v23, c24, b14, b17, b19, b22⟩ := invX_94 hI
  have c24 : S 94 = .inr (5, [.ref (ad 1), .ref (ad 20), .int v13, .int v15, .int v16, .int v18, .int v20, .int v21, .int v23]) := c24
  refine xcVv E hs hQ hml hl.1 94 (gX5_advance_94 l g ad hD S hI ) mX5_advance q598 (by decide) c24 rfl rfl ⟨(Nat.le_of_ble_eq_true rfl), (Nat.le_of_ble_eq_true rfl)⟩ ⟨(Nat.le_of_ble_eq_true rfl), (Nat.le_of_ble_eq_true rfl)⟩ (Nat.le_of_ble_eq_true rfl) rfl dX5_readCurrent_1 (fun S12 H locs hp12 hQ _ => ?_)
  obtain ⟨hI, o12⟩ := hp12
  refine lv_aload_n hx hb dX5_readCurrent_4 rfl (lv_at hl 0 rfl) ?_
  refine lv_iconst (v := 0) hx hb dX5_readCurrent_5 (by decide) ?_
  refine lv_aload_n hx hb dX5_readCurrent_6 rfl (lv_at hl 0 rfl) ?_
  obtain ⟨v25, v27, v28, v30, v32, v33, v35, c36, b26, b29, b31, b34⟩ := invX_94 hI
  have c36 : S12 94 = .inr (5, [.ref (ad 1), .ref (ad 20), .int v25, .int v27, .int v28, .int v30, .int v32, .int v33, .int v35]) := c36
  refine xget E hQ 94 (by decide) c36 rfl 1 (by decide) q343 rfl dX5_readCurrent_7 ?_
  have c37 : S12 20 = .inr (1, [.int v1, .int v3, .int v5, .ref (ad 21), .ref (ad 23), .ref (ad 24), .int v6, .int v7, .ref (ad 25), .ref (ad 26), .ref (ad 27), .ref (ad 28), .int v9, .ref (ad 33), .ref (ad 34)]) := ((o12 20 (by decide)).trans c11)
  refine xget E hQ 20 (by decide) c37 rfl 1 (by decide) q245 rfl dX5_readCurrent_10 ?_
  refine lv_iconst (v := 1) hx hb dX5_readCurrent_13 (by decide) ?_
  refine lv_isub hx hb dX5_readCurrent_14 ?_
  refine lv_topi (fun z38 e39 => ?_)
  have t40 := ib_sub e39 b4 (by decide : Bd 1 (1) (1)) (by decide) (by decide)
  have b41 : Bd z38 (-1) (11) := ib_subb t40 b4 (by decide : Bd 1 (1) (1))
  have t40 : z38.toInt = v3.toInt - 1 := fold_sub t40 rfl (by decide)
  refine xcVi E hs hQ hml hl.1 94 (gX5_expectNumber_8 l g ad hD S12 hI 0 z38 (by decide : Bd 0 (0) (0)) b41) mX5_expectNumber q684 (by decide) c36 rfl rfl ⟨(Nat.le_of_ble_eq_true rfl), (Nat.le_of_ble_eq_true rfl)⟩ ⟨(Nat.le_of_ble_eq_true rfl), (Nat.le_of_ble_eq_true rfl)⟩ (Nat.le_of_ble_eq_true rfl) rfl dX5_readCurrent_15 (fun r42 S42 H locs hp42 hQ _ => ?_)
  obtain ⟨hI, o42, b42⟩ := hp42
  refine lv_istore_n (lv' := [(1, .int r42), (0, .ref (ad 94))]) hx hb dX5_readCurrent_18 rfl hl (by decide) rfl (fun ls hl => ?_)
  refine lv_aload_n hx hb dX5_readCurrent_19 rfl (lv_at hl 1 rfl) ?_
  refine va_ldcS hx hb E.2.2.1 (hT.2.2.2 7 (by decide) : vk_R "EbbWreck$Reader" 137 "flood" (tt.1 7) s) dX5_readCurrent_20 ?_
  obtain ⟨v44, v46, v47, v49, v51, v52, v54, c55, b45, b48, b50, b53⟩ := invX_94 hI
  have c55 : S42 94 = .inr (5, [.ref (ad 1), .ref (ad 20), .int v44, .int v46, .int v47, .int v49, .int v51, .int v52, .int v54]) := c55
  refine xcVvT E hs hQ hml hl.1 hT 94 (gX5_expectWord_94 l g tt ad hD S42 hI 7 (by decide)) mX5_expectWord q623 (by decide) c55 rfl rfl ⟨(Nat.le_of_ble_eq_true rfl), (Nat.le_of_ble_eq_true rfl)⟩ ⟨(Nat.le_of_ble_eq_true rfl), (Nat.le_of_ble_eq_true rfl)⟩ (Nat.le_of_ble_eq_true rfl) rfl dX5_readCurrent_22 (fun S43 H locs hp43 hQ _ => ?_)
  obtain ⟨hI, o43⟩ := hp43
  refine lv_aload_n hx hb dX5_readCurrent_25 rfl (lv_at hl 1 rfl) ?_
  obtain ⟨v57, v59, v60, v62, v64, v65, v67, c68, b58, b61, b63, b66⟩ := invX_94 hI
  have c68 : S43 94 = .inr (5, [.ref (ad 1), .ref (ad 20), .int v57, .int v59, .int v60, .int v62, .int v64, .int v65, .int v67]) := c68
  refine xcViT E hs hQ hml hl.1 hT 94 (gX5_readWay_94 l g tt ad hD S43 hI ) mX5_readWay q698 (by decide) c68 rfl rfl ⟨(Nat.le_of_ble_eq_true rfl), (Nat.le_of_ble_eq_true rfl)⟩ ⟨(Nat.le_of_ble_eq_true rfl), (Nat.le_of_ble_eq_true rfl)⟩ (Nat.le_of_ble_eq_true rfl) rfl dX5_readCurrent_26 (fun r56 S56 H locs hp56 hQ _ => ?_)
  obtain ⟨hI, o56, b56⟩ := hp56
  refine lv_aload_n hx hb dX5_readCurrent_29 rfl (lv_at hl 1 rfl) ?_
  refine lv_iconst (v := 0) hx hb dX5_readCurrent_30 (by decide) ?_
  refine lv_iconst (v := 3) hx hb dX5_readCurrent_31 (by decide) ?_
  obtain ⟨v70, v72, v73, v75, v77, v78, v80, c81, b71, b74, b76, b79⟩ := invX_94 hI
  have c81 : S56 94 = .inr (5, [.ref (ad 1), .ref (ad 20), .int v70, .int v72, .int v73, .int v75, .int v77, .int v78, .int v80]) := c81
  refine xcVi E hs hQ hml hl.1 94 (gX5_expectNumber_4 l g ad hD S56 hI 0 3 (by decide : Bd 0 (0) (0)) (by decide : Bd 3 (3) (3))) mX5_expectNumber q684 (by decide) c81 rfl rfl ⟨(Nat.le_of_ble_eq_true rfl), (Nat.le_of_ble_eq_true rfl)⟩ ⟨(Nat.le_of_ble_eq_true rfl), (Nat.le_of_ble_eq_true rfl)⟩ (Nat.le_of_ble_eq_true rfl) rfl dX5_readCurrent_32 (fun r69 S69 H locs hp69 hQ _ => ?_)
  obtain ⟨hI, o69, b69⟩ := hp69
  refine lv_imul hx hb dX5_readCurrent_35 ?_
  refine lv_topi (fun z82 e83 => ?_)
  refine lv_istore_n (lv' := [(2, .int z82), (1, .int r42), (0, .ref (ad 94))]) hx hb dX5_readCurrent_36 rfl hl (by decide) rfl (fun ls hl => ?_)
  refine lv_aload_n hx hb dX5_readCurrent_37 rfl (lv_at hl 2 rfl) ?_
  refine va_ldcS hx hb E.2.2.1 (hT.2.2.2 9 (by decide) : vk_R "EbbWreck$Reader" 141 "ebb" (tt.1 9) s) dX5_readCurrent_38 ?_
  obtain ⟨v85, v87, v88, v90, v92, v93, v95, c96, b86, b89, b91, b94⟩ := invX_94 hI
  have c96 : S69 94 = .inr (5, [.ref (ad 1), .ref (ad 20), .int v85, .int v87, .int v88, .int v90, .int v92, .int v93, .int v95]) := c96
  refine xcVvT E hs hQ hml hl.1 hT 94 (gX5_expectWord_94 l g tt ad hD S69 hI 9 (by decide)) mX5_expectWord q623 (by decide) c96 rfl rfl ⟨(Nat.le_of_ble_eq_true rfl), (Nat.le_of_ble_eq_true rfl)⟩ ⟨(Nat.le_of_ble_eq_true rfl), (Nat.le_of_ble_eq_true rfl)⟩ (Nat.le_of_ble_eq_true rfl) rfl dX5_readCurrent_40 (fun S84 H locs hp84 hQ _ => ?_)
  obtain ⟨hI, o84⟩ := hp84
  refine lv_aload_n hx hb dX5_readCurrent_43 rfl (lv_at hl 2 rfl) ?_
  obtain ⟨v98, v100, v101, v103, v105, v106, v108, c109, b99, b102, b104, b107⟩ := invX_94 hI
  have c109 : S84 94 = .inr (5, [.ref (ad 1), .ref (ad 20), .int v98, .int v100, .int v101, .int v103, .int v105, .int v106, .int v108]) := c109
  refine xcViT E hs hQ hml hl.1 hT 94 (gX5_readWay_94 l g tt ad hD S84 hI ) mX5_readWay q698 (by decide) c109 rfl rfl ⟨(Nat.le_of_ble_eq_true rfl), (Nat.le_of_ble_eq_true rfl)⟩ ⟨(Nat.le_of_ble_eq_true rfl), (Nat.le_of_ble_eq_true rfl)⟩ (Nat.le_of_ble_eq_true rfl) rfl dX5_readCurrent_44 (fun r97 S97 H locs hp97 hQ _ => ?_)
  obtain ⟨hI, o97, b97⟩ := hp97
  refine lv_aload_n hx hb dX5_readCurrent_47 rfl (lv_at hl 2 rfl) ?_
  refine lv_iconst (v := 0) hx hb dX5_readCurrent_48 (by decide) ?_
  refine lv_iconst (v := 3) hx hb dX5_readCurrent_49 (by decide) ?_
  obtain ⟨v111, v113, v114, v116, v118, v119, v121, c122, b112, b115, b117, b120⟩ := invX_94 hI
  have c122 : S97 94 = .inr (5, [.ref (ad 1), .ref (ad 20), .int v111, .int v113, .int v114, .int v116, .int v118, .int v119, .int v121]) := c122
  refine xcVi E hs hQ hml hl.1 94 (gX5_expectNumber_4 l g ad hD S97 hI 0 3 (by decide : Bd 0 (0) (0)) (by decide : Bd 3 (3) (3))) mX5_expectNumber q684 (by decide) c122 rfl rfl ⟨(Nat.le_of_ble_eq_true rfl), (Nat.le_of_ble_eq_true rfl)⟩ ⟨(Nat.le_of_ble_eq_true rfl), (Nat.le_of_ble_eq_true rfl)⟩ (Nat.le_of_ble_eq_true rfl) rfl dX5_readCurrent_50 (fun r110 S110 H locs hp110 hQ _ => ?_)
  obtain ⟨hI, o110, b110⟩ := hp110
  refine lv_imul hx hb dX5_readCurrent_53 ?_
  refine lv_topi (fun z123 e124 => ?_)
  refine lv_istore_n (lv' := [(3, .int z123), (2, .int z82), (1, .int r42), (0, .ref (ad 94))]) hx hb dX5_readCurrent_54 rfl hl (by decide) rfl (fun ls hl => ?_)
  refine lv_aload_n hx hb dX5_readCurrent_55 rfl (lv_at hl 3 rfl) ?_
  obtain ⟨v125, v127, v128, v130, v132, v133, v135, c136, b126, b129, b131, b134⟩ := invX_94 hI
  have c136 : S110 94 = .inr (5, [.ref (ad 1), .ref (ad 20), .int v125, .int v127, .int v128, .int v130, .int v132, .int v133, .int v135]) := c136
  refine xget E hQ 94 (by decide) c136 rfl 1 (by decide) q343 rfl dX5_readCurrent_56 ?_
  have c137 : S110 20 = .inr (1, [.int v1, .int v3, .int v5, .ref (ad 21), .ref (ad 23), .ref (ad 24), .int v6, .int v7, .ref (ad 25), .ref (ad 26), .ref (ad 27), .ref (ad 28), .int v9, .ref (ad 33), .ref (ad 34)]) := ((o110 20 (by decide)).trans ((o97 20 (by decide)).trans ((o84 20 (by decide)).trans ((o69 20 (by decide)).trans ((o56 20 (by decide)).trans ((o43 20 (by decide)).trans ((o42 20 (by decide)).trans c37)))))))
  refine xget E hQ 20 (by decide) c137 rfl 4 (by decide) q259 rfl dX5_readCurrent_59 ?_
  refine lv_iload_n hx hb dX5_readCurrent_62 rfl (lv_at hl 2 rfl) ?_
  refine lv_iload_n hx hb dX5_readCurrent_63 rfl (lv_at hl 1 rfl) ?_
  obtain ⟨f138, c139⟩ := invX_23 hI
  refine xiast E hs hQ 23 (by decide) c139 (ib_in b42 (by decide) (by decide)) dX5_readCurrent_64 (fun H locs S141 eS141 hQ => ?_)
  have hI := invX_up_23 hI eS141 ⟨_, rfl⟩
  have c142 : S141 23 = .inl (g.2 0, 12, .inl (upd f138 (r42 : Int32).toNatClampNeg z82)) := up_at eS141 rfl
  refine lv_aload_n hx hb dX5_readCurrent_65 rfl (lv_at hl 3 rfl) ?_
  have c143 : S141 94 = .inr (5, [.ref (ad 1), .ref (ad 20), .int v125, .int v127, .int v128, .int v130, .int v132, .int v133, .int v135]) := (up_ne eS141 (by decide) c136)
  refine xget E hQ 94 (by decide) c143 rfl 1 (by decide) q343 rfl dX5_readCurrent_66 ?_
  have c144 : S141 20 = .inr (1, [.int v1, .int v3, .int v5, .ref (ad 21), .ref (ad 23), .ref (ad 24), .int v6, .int v7, .ref (ad 25), .ref (ad 26), .ref (ad 27), .ref (ad 28), .int v9, .ref (ad 33), .ref (ad 34)]) := (up_ne eS141 (by decide) c137)
  refine xget E hQ 20 (by decide) c144 rfl 5 (by decide) q262 rfl dX5_readCurrent_69 ?_
  refine lv_iload_n hx hb dX5_readCurrent_72 rfl (lv_at hl 2 rfl) ?_
  refine lv_iload_n hx hb dX5_readCurrent_73 rfl (lv_at hl 0 rfl) ?_
  obtain ⟨f145, c146⟩ := invX_24 hI
  refine xiast E hs hQ 24 (by decide) c146 (ib_in b42 (by decide) (by decide)) dX5_readCurrent_74 (fun H locs S148 eS148 hQ => ?_)
  have hI := invX_up_24 hI eS148 ⟨_, rfl⟩
  have c149 : S148 24 = .inl (g.2 0, 12, .inl (upd f145 (r42 : Int32).toNatClampNeg z123)) := up_at eS148 rfl
  have q150 : fld (S 20) 0 = v1.toInt := fld_of c11 rfl
  have c151 : S148 20 = .inr (1, [.int v1, .int v3, .int v5, .ref (ad 21), .ref (ad 23), .ref (ad 24), .int v6, .int v7, .ref (ad 25), .ref (ad 26), .ref (ad 27), .ref (ad 28), .int v9, .ref (ad 33), .ref (ad 34)]) := (up_ne eS148 (by decide) c144)
  have q152 : fld (S148 20) 0 = v1.toInt := fld_of c151 rfl
  have q153 : fld (S 20) 1 = v3.toInt := fld_of c11 rfl
  have q154 : fld (S148 20) 1 = v3.toInt := fld_of c151 rfl
  have q155 : fld (S 20) 7 = v7.toInt := fld_of c11 rfl
  have q156 : fld (S148 20) 7 = v7.toInt := fld_of c151 rfl
  have q157 : fld (S 20) 12 = v9.toInt := fld_of c11 rfl
  have q158 : fld (S148 20) 12 = v9.toInt := fld_of c151 rfl
  exact xrv E hr hlk hQ (⟨hI, (up_o (up_o (o_trans (o_trans (o_trans (o_trans (o_trans (o_trans (o_trans (o_trans o_refl o12 (by decide)) o42 (by decide)) o43 (by decide)) o56 (by decide)) o69 (by decide)) o84 (by decide)) o97 (by decide)) o110 (by decide)) eS141 (by decide)) eS148 (by decide)), ⟨by omega, by omega⟩, ⟨by omega, by omega⟩, ⟨by omega, by omega⟩, ⟨by omega, by omega⟩⟩) dX5_readCurrent_75
set_option maxHeartbeats 4000000 in
set_option maxRecDepth 100000 in
theorem gX5_readBeach_94 (l : Launch) (g : GG) (ad : Nat → Nat) (hD : Dj ad 122) (S : SS) (hI : InvX g ad S) : Met l yX5_readBeach (wG (.code yX5_readBeach cX5_readBeach 1 none)) (Rm 3) (XPre g ad 122 S [.ref (ad 94)]) (va_Qv (fun S' => InvX g ad S' ∧ (∀ j, j ∉ ([20, 94] : List Nat) → S' j = S j) ∧ (0 ≤ fld (S 20) 0 + (-1) * fld (S' 20) 0 ∧ 0 ≤ fld (S' 20) 0 + (-1) * fld (S 20) 0) ∧ (0 ≤ fld (S 20) 1 + (-1) * fld (S' 20) 1 ∧ 0 ≤ fld (S' 20) 1 + (-1) * fld (S 20) 1) ∧ (0 ≤ fld (S 20) 7 + (-1) * fld (S' 20) 7 ∧ 0 ≤ fld (S' 20) 7 + (-1) * fld (S 20) 7) ∧ (0 ≤ fld (S 20) 12 + (-1) * fld (S' 20) 12 ∧ 0 ≤ fld (S' 20) 12 + (-1) * fld (S 20) 12)) (QB g ad 122) (FA ad 122)) 0 0 (FA ad 122) := by
  refine xmet cX5_readBeach "EbbWreck$Reader" (by decide) rfl (Nat.le_of_ble_eq_true rfl) (fun p e s m below meth c E hr hlk hml hQ ls hl => ?_)
  have hx := E.1
  have hb := E.2.1
  have hs : Sp ad 122 (FA ad 122) := Sp.fa hD
  have hl : lv_has ls 1 [(0, .ref (ad 94))] := hl
  obtain ⟨v1, v3, v5, v6, v7, v9, c11, b2, b4, b8, b10⟩ := invX_20 hI
  have c11 : S 20 = .inr (1, [.int v1, .int v3, .int v5, .ref (ad 21), .ref (ad 23), .ref (ad 24), .int v6, .int v7, .ref (ad 25), .ref (ad 26), .ref (ad 27), .ref (ad 28), .int v9, .ref (ad 33), .ref (ad 34)]) := c11
  refine lv_aload_n hx hb dX5_readBeach_0 rfl (lv_at hl 0 rfl) ?_
  obtain ⟨v13, v15, v16, v18, v20, v21, v23, c24, b14, b17, b19, b22⟩ := invX_94 hI
  have c24 : S 94 = .inr (5, [.ref (ad 1), .ref (ad 20), .int v13, .int v15, .int v16, .int v18, .int v20, .int v21, .int v23]) := c24
  refine xcVv E hs hQ hml hl.1 94 (gX5_advance_94 l g ad hD S hI ) mX5_advance q598 (by decide) c24 rfl rfl ⟨(Nat.le_of_ble_eq_true rfl), (Nat.le_of_ble_eq_true rfl)⟩ ⟨(Nat.le_of_ble_eq_true rfl), (Nat.le_of_ble_eq_true rfl)⟩ (Nat.le_of_ble_eq_true rfl) rfl dX5_readBeach_1 (fun S12 H locs hp12 hQ _ => ?_)
  obtain ⟨hI, o12⟩ := hp12
  refine lv_aload_n hx hb dX5_readBeach_4 rfl (lv_at hl 0 rfl) ?_
  obtain ⟨v25, v27, v28, v30, v32, v33, v35, c36, b26, b29, b31, b34⟩ := invX_94 hI
  have c36 : S12 94 = .inr (5, [.ref (ad 1), .ref (ad 20), .int v25, .int v27, .int v28, .int v30, .int v32, .int v33, .int v35]) := c36
  refine xget E hQ 94 (by decide) c36 rfl 1 (by decide) q343 rfl dX5_readBeach_5 ?_
  refine lv_dup hx hb dX5_readBeach_8 rfl ?_
  have c37 : S12 20 = .inr (1, [.int v1, .int v3, .int v5, .ref (ad 21), .ref (ad 23), .ref (ad 24), .int v6, .int v7, .ref (ad 25), .ref (ad 26), .ref (ad 27), .ref (ad 28), .int v9, .ref (ad 33), .ref (ad 34)]) := ((o12 20 (by decide)).trans c11)
  refine xget E hQ 20 (by decide) c37 rfl 6 (by decide) q267 rfl dX5_readBeach_9 ?_
  refine lv_iconst (v := 1) hx hb dX5_readBeach_12 (by decide) ?_
  refine lv_aload_n hx hb dX5_readBeach_13 rfl (lv_at hl 0 rfl) ?_
  refine lv_iconst (v := 0) hx hb dX5_readBeach_14 (by decide) ?_
  refine lv_aload_n hx hb dX5_readBeach_15 rfl (lv_at hl 0 rfl) ?_
  refine xget E hQ 94 (by decide) c36 rfl 1 (by decide) q343 rfl dX5_readBeach_16 ?_
  refine xget E hQ 20 (by decide) c37 rfl 1 (by decide) q245 rfl dX5_readBeach_19 ?_
  refine lv_iconst (v := 1) hx hb dX5_readBeach_22 (by decide) ?_
  refine lv_isub hx hb dX5_readBeach_23 ?_
  refine lv_topi (fun z38 e39 => ?_)
  have t40 := ib_sub e39 b4 (by decide : Bd 1 (1) (1)) (by decide) (by decide)
  have b41 : Bd z38 (-1) (11) := ib_subb t40 b4 (by decide : Bd 1 (1) (1))
  have t40 : z38.toInt = v3.toInt - 1 := fold_sub t40 rfl (by decide)
  refine xcVi E hs hQ hml hl.1 94 (gX5_expectNumber_8 l g ad hD S12 hI 0 z38 (by decide : Bd 0 (0) (0)) b41) mX5_expectNumber q684 (by decide) c36 rfl rfl ⟨(Nat.le_of_ble_eq_true rfl), (Nat.le_of_ble_eq_true rfl)⟩ ⟨(Nat.le_of_ble_eq_true rfl), (Nat.le_of_ble_eq_true rfl)⟩ (Nat.le_of_ble_eq_true rfl) rfl dX5_readBeach_24 (fun r42 S42 H locs hp42 hQ _ => ?_)
  obtain ⟨hI, o42, b42⟩ := hp42
  refine lv_ishl hx hb dX5_readBeach_27 ?_
  refine lv_topi (fun z43 e44 => ?_)
  refine lv_ior hx hb dX5_readBeach_28 ?_
  refine lv_topi (fun z45 e46 => ?_)
  have c47 : S42 20 = .inr (1, [.int v1, .int v3, .int v5, .ref (ad 21), .ref (ad 23), .ref (ad 24), .int v6, .int v7, .ref (ad 25), .ref (ad 26), .ref (ad 27), .ref (ad 28), .int v9, .ref (ad 33), .ref (ad 34)]) := ((o42 20 (by decide)).trans c37)
  refine xputi E hs hQ 20 (by decide) c47 rfl 6 (by decide) q267 rfl rfl (Nat.le_of_ble_eq_true rfl) dX5_readBeach_29 (fun H locs S48 eS48 hQ => ?_)
  have hI := invX_up_20 hI eS48 ⟨v1, v3, v5, z45, v7, v9, rfl, b2, b4, b8, b10⟩
  have c49 : S48 20 = .inr (1, [.int v1, .int v3, .int v5, .ref (ad 21), .ref (ad 23), .ref (ad 24), .int z45, .int v7, .ref (ad 25), .ref (ad 26), .ref (ad 27), .ref (ad 28), .int v9, .ref (ad 33), .ref (ad 34)]) := up_at eS48 rfl
  have q50 : fld (S 20) 0 = v1.toInt := fld_of c11 rfl
  have q51 : fld (S48 20) 0 = v1.toInt := fld_of c49 rfl
  have q52 : fld (S 20) 1 = v3.toInt := fld_of c11 rfl
  have q53 : fld (S48 20) 1 = v3.toInt := fld_of c49 rfl
  have q54 : fld (S 20) 7 = v7.toInt := fld_of c11 rfl
  have q55 : fld (S48 20) 7 = v7.toInt := fld_of c49 rfl
  have q56 : fld (S 20) 12 = v9.toInt := fld_of c11 rfl
  have q57 : fld (S48 20) 12 = v9.toInt := fld_of c49 rfl
  exact xrv E hr hlk hQ (⟨hI, (up_o (o_trans (o_trans o_refl o12 (by decide)) o42 (by decide)) eS48 (by decide)), ⟨by omega, by omega⟩, ⟨by omega, by omega⟩, ⟨by omega, by omega⟩, ⟨by omega, by omega⟩⟩) dX5_readBeach_32
set_option maxHeartbeats 4000000 in
set_option maxRecDepth 100000 in
theorem gX5_readThing_94 (l : Launch) (g : GG) (tt : TT) (ad : Nat → Nat) (hD : Dj ad 122) (S : SS) (hI : InvX g ad S) (hq1 : 0 ≤ fld (S 20) 1 + (-1)) : Met l yX5_readThing (wG (.code yX5_readThing cX5_readThing 1 none)) (Rm 6) (XPreT g tt ad 122 S [.ref (ad 94)]) (va_Qv (fun S' => InvX g ad S' ∧ (∀ j, j ∉ ([20, 25, 26, 27, 94] : List Nat) → S' j = S j) ∧ (0 ≤ fld (S 20) 0 + (-1) * fld (S' 20) 0 ∧ 0 ≤ fld (S' 20) 0 + (-1) * fld (S 20) 0) ∧ (0 ≤ fld (S 20) 1 + (-1) * fld (S' 20) 1 ∧ 0 ≤ fld (S' 20) 1 + (-1) * fld (S 20) 1) ∧ (0 ≤ fld (S 20) 12 + (-1) * fld (S' 20) 12 ∧ 0 ≤ fld (S' 20) 12 + (-1) * fld (S 20) 12)) (QB g ad 122) (FA ad 122)) 0 0 (FA ad 122) := by
  refine xmetT cX5_readThing "EbbWreck$Reader" (by decide) rfl (Nat.le_of_ble_eq_true rfl) (fun p e s m below meth c E hT hr hlk hml hQ ls hl => ?_)
  have hx := E.1
  have hb := E.2.1
  have hs : Sp ad 122 (FA ad 122) := Sp.fa hD
  have hl : lv_has ls 1 [(0, .ref (ad 94))] := hl
  obtain ⟨v1, v3, v5, v6, v7, v9, c11, b2, b4, b8, b10⟩ := invX_20 hI
  have c11 : S 20 = .inr (1, [.int v1, .int v3, .int v5, .ref (ad 21), .ref (ad 23), .ref (ad 24), .int v6, .int v7, .ref (ad 25), .ref (ad 26), .ref (ad 27), .ref (ad 28), .int v9, .ref (ad 33), .ref (ad 34)]) := c11
  have q12 : fld (S 20) 1 = v3.toInt := fld_of c11 rfl
  have b13 : Bd v3 (1) (12) := ⟨by omega, by omega⟩
  refine lv_aload_n hx hb dX5_readThing_0 rfl (lv_at hl 0 rfl) ?_
  obtain ⟨v14, v16, v17, v19, v21, v22, v24, c25, b15, b18, b20, b23⟩ := invX_94 hI
  have c25 : S 94 = .inr (5, [.ref (ad 1), .ref (ad 20), .int v14, .int v16, .int v17, .int v19, .int v21, .int v22, .int v24]) := c25
  refine xget E hQ 94 (by decide) c25 rfl 1 (by decide) q343 rfl dX5_readThing_1 ?_
  refine xget E hQ 20 (by decide) c11 rfl 7 (by decide) q273 rfl dX5_readThing_4 ?_
  refine lv_bipush (v := 8) hx hb dX5_readThing_7 (by decide) ?_
  refine lv_icmp_lt (tgt := 18) hx hb dX5_readThing_9 (by decide) (fun k26 => ?_) (fun k26 => ?_)
  · have h27 := ib_lt k26
    have b28 : Bd v7 (0) (7) := ⟨(b8).1, ((rf_lt b8 (by decide : Bd 8 (8) (8)) h27).1).2⟩
    refine lv_aload_n hx hb dX5_readThing_18 rfl (lv_at hl 0 rfl) ?_
    refine xcVv E hs hQ hml hl.1 94 (gX5_advance_94 l g ad hD S hI ) mX5_advance q598 (by decide) c25 rfl rfl ⟨(Nat.le_of_ble_eq_true rfl), (Nat.le_of_ble_eq_true rfl)⟩ ⟨(Nat.le_of_ble_eq_true rfl), (Nat.le_of_ble_eq_true rfl)⟩ (Nat.le_of_ble_eq_true rfl) rfl dX5_readThing_19 (fun S29 H locs hp29 hQ _ => ?_)
    obtain ⟨hI, o29⟩ := hp29
    refine lv_aload_n hx hb dX5_readThing_22 rfl (lv_at hl 0 rfl) ?_
    refine va_ldcS hx hb E.2.2.1 (hT.2.2.2 12 (by decide) : vk_R "EbbWreck$Reader" 175 "worth" (tt.1 12) s) dX5_readThing_23 ?_
    obtain ⟨v31, v33, v34, v36, v38, v39, v41, c42, b32, b35, b37, b40⟩ := invX_94 hI
    have c42 : S29 94 = .inr (5, [.ref (ad 1), .ref (ad 20), .int v31, .int v33, .int v34, .int v36, .int v38, .int v39, .int v41]) := c42
    refine xcVvT E hs hQ hml hl.1 hT 94 (gX5_expectWord_94 l g tt ad hD S29 hI 12 (by decide)) mX5_expectWord q623 (by decide) c42 rfl rfl ⟨(Nat.le_of_ble_eq_true rfl), (Nat.le_of_ble_eq_true rfl)⟩ ⟨(Nat.le_of_ble_eq_true rfl), (Nat.le_of_ble_eq_true rfl)⟩ (Nat.le_of_ble_eq_true rfl) rfl dX5_readThing_25 (fun S30 H locs hp30 hQ _ => ?_)
    obtain ⟨hI, o30⟩ := hp30
    refine lv_aload_n hx hb dX5_readThing_28 rfl (lv_at hl 0 rfl) ?_
    obtain ⟨v43, v45, v46, v48, v50, v51, v53, c54, b44, b47, b49, b52⟩ := invX_94 hI
    have c54 : S30 94 = .inr (5, [.ref (ad 1), .ref (ad 20), .int v43, .int v45, .int v46, .int v48, .int v50, .int v51, .int v53]) := c54
    refine xget E hQ 94 (by decide) c54 rfl 1 (by decide) q343 rfl dX5_readThing_29 ?_
    have c55 : S30 20 = .inr (1, [.int v1, .int v3, .int v5, .ref (ad 21), .ref (ad 23), .ref (ad 24), .int v6, .int v7, .ref (ad 25), .ref (ad 26), .ref (ad 27), .ref (ad 28), .int v9, .ref (ad 33), .ref (ad 34)]) := ((o30 20 (by decide)).trans ((o29 20 (by decide)).trans c11))
    refine xget E hQ 20 (by decide) c55 rfl 8 (by decide) q278 rfl dX5_readThing_32 ?_
    refine lv_aload_n hx hb dX5_readThing_35 rfl (lv_at hl 0 rfl) ?_
    refine xget E hQ 94 (by decide) c54 rfl 1 (by decide) q343 rfl dX5_readThing_36 ?_
    refine xget E hQ 20 (by decide) c55 rfl 7 (by decide) q273 rfl dX5_readThing_39 ?_
    refine lv_aload_n hx hb dX5_readThing_42 rfl (lv_at hl 0 rfl) ?_
    refine lv_iconst (v := 0) hx hb dX5_readThing_43 (by decide) ?_
    refine lv_sipush (v := 999) hx hb dX5_readThing_44 (by decide) ?_
    refine xcVi E hs hQ hml hl.1 94 (gX5_expectNumber_5 l g ad hD S30 hI 0 999 (by decide : Bd 0 (0) (0)) (by decide : Bd 999 (999) (999))) mX5_expectNumber q684 (by decide) c54 rfl rfl ⟨(Nat.le_of_ble_eq_true rfl), (Nat.le_of_ble_eq_true rfl)⟩ ⟨(Nat.le_of_ble_eq_true rfl), (Nat.le_of_ble_eq_true rfl)⟩ (Nat.le_of_ble_eq_true rfl) rfl dX5_readThing_47 (fun r56 S56 H locs hp56 hQ _ => ?_)
    obtain ⟨hI, o56, b56⟩ := hp56
    obtain ⟨f57, c58⟩ := invX_25 hI
    refine xiast E hs hQ 25 (by decide) c58 (ib_in b28 (by decide) (by decide)) dX5_readThing_50 (fun H locs S60 eS60 hQ => ?_)
    have hI := invX_up_25 hI eS60 ⟨_, rfl⟩
    have c61 : S60 25 = .inl (g.2 0, 8, .inl (upd f57 (v7 : Int32).toNatClampNeg r56)) := up_at eS60 rfl
    refine lv_aload_n hx hb dX5_readThing_51 rfl (lv_at hl 0 rfl) ?_
    refine va_ldcS hx hb E.2.2.1 (hT.2.2.2 13 (by decide) : vk_R "EbbWreck$Reader" 180 "at" (tt.1 13) s) dX5_readThing_52 ?_
    obtain ⟨v63, v65, v66, v68, v70, v71, v73, c74, b64, b67, b69, b72⟩ := invX_94 hI
    have c74 : S60 94 = .inr (5, [.ref (ad 1), .ref (ad 20), .int v63, .int v65, .int v66, .int v68, .int v70, .int v71, .int v73]) := c74
    refine xcVvT E hs hQ hml hl.1 hT 94 (gX5_expectWord_94 l g tt ad hD S60 hI 13 (by decide)) mX5_expectWord q623 (by decide) c74 rfl rfl ⟨(Nat.le_of_ble_eq_true rfl), (Nat.le_of_ble_eq_true rfl)⟩ ⟨(Nat.le_of_ble_eq_true rfl), (Nat.le_of_ble_eq_true rfl)⟩ (Nat.le_of_ble_eq_true rfl) rfl dX5_readThing_54 (fun S62 H locs hp62 hQ _ => ?_)
    obtain ⟨hI, o62⟩ := hp62
    refine lv_aload_n hx hb dX5_readThing_57 rfl (lv_at hl 0 rfl) ?_
    obtain ⟨v75, v77, v78, v80, v82, v83, v85, c86, b76, b79, b81, b84⟩ := invX_94 hI
    have c86 : S62 94 = .inr (5, [.ref (ad 1), .ref (ad 20), .int v75, .int v77, .int v78, .int v80, .int v82, .int v83, .int v85]) := c86
    refine xget E hQ 94 (by decide) c86 rfl 1 (by decide) q343 rfl dX5_readThing_58 ?_
    have c87 : S62 20 = .inr (1, [.int v1, .int v3, .int v5, .ref (ad 21), .ref (ad 23), .ref (ad 24), .int v6, .int v7, .ref (ad 25), .ref (ad 26), .ref (ad 27), .ref (ad 28), .int v9, .ref (ad 33), .ref (ad 34)]) := ((o62 20 (by decide)).trans (up_ne eS60 (by decide) ((o56 20 (by decide)).trans c55)))
    refine xget E hQ 20 (by decide) c87 rfl 9 (by decide) q283 rfl dX5_readThing_61 ?_
    refine lv_aload_n hx hb dX5_readThing_64 rfl (lv_at hl 0 rfl) ?_
    refine xget E hQ 94 (by decide) c86 rfl 1 (by decide) q343 rfl dX5_readThing_65 ?_
    refine xget E hQ 20 (by decide) c87 rfl 7 (by decide) q273 rfl dX5_readThing_68 ?_
    refine lv_aload_n hx hb dX5_readThing_71 rfl (lv_at hl 0 rfl) ?_
    refine lv_iconst (v := 0) hx hb dX5_readThing_72 (by decide) ?_
    refine lv_aload_n hx hb dX5_readThing_73 rfl (lv_at hl 0 rfl) ?_
    refine xget E hQ 94 (by decide) c86 rfl 1 (by decide) q343 rfl dX5_readThing_74 ?_
    refine xget E hQ 20 (by decide) c87 rfl 1 (by decide) q245 rfl dX5_readThing_77 ?_
    refine lv_iconst (v := 1) hx hb dX5_readThing_80 (by decide) ?_
    refine lv_isub hx hb dX5_readThing_81 ?_
    refine lv_topi (fun z88 e89 => ?_)
    have t90 := ib_sub e89 b13 (by decide : Bd 1 (1) (1)) (by decide) (by decide)
    have b91 : Bd z88 (0) (11) := ib_subb t90 b13 (by decide : Bd 1 (1) (1))
    have t90 : z88.toInt = v3.toInt - 1 := fold_sub t90 rfl (by decide)
    refine xcVi E hs hQ hml hl.1 94 (gX5_expectNumber_8 l g ad hD S62 hI 0 z88 (by decide : Bd 0 (0) (0)) (ib_wk b91 (by decide) (by decide))) mX5_expectNumber q684 (by decide) c86 rfl rfl ⟨(Nat.le_of_ble_eq_true rfl), (Nat.le_of_ble_eq_true rfl)⟩ ⟨(Nat.le_of_ble_eq_true rfl), (Nat.le_of_ble_eq_true rfl)⟩ (Nat.le_of_ble_eq_true rfl) rfl dX5_readThing_82 (fun r92 S92 H locs hp92 hQ _ => ?_)
    obtain ⟨hI, o92, b92⟩ := hp92
    obtain ⟨f93, c94, b95⟩ := invX_26 hI
    refine xiast E hs hQ 26 (by decide) c94 (ib_in b28 (by decide) (by decide)) dX5_readThing_85 (fun H locs S96 eS96 hQ => ?_)
    have hI := invX_up_26 hI eS96 ⟨_, rfl, upd_b b95 b92⟩
    have b98 : ∀ j, Bd ((upd f93 (v7 : Int32).toNatClampNeg r92) j) (0) (11) := upd_b b95 b92
    have c97 : S96 26 = .inl (g.2 0, 8, .inl (upd f93 (v7 : Int32).toNatClampNeg r92)) := up_at eS96 rfl
    refine lv_aload_n hx hb dX5_readThing_86 rfl (lv_at hl 0 rfl) ?_
    refine va_ldcS hx hb E.2.2.1 (hT.2.2.2 14 (by decide) : vk_R "EbbWreck$Reader" 185 "from" (tt.1 14) s) dX5_readThing_87 ?_
    obtain ⟨v100, v102, v103, v105, v107, v108, v110, c111, b101, b104, b106, b109⟩ := invX_94 hI
    have c111 : S96 94 = .inr (5, [.ref (ad 1), .ref (ad 20), .int v100, .int v102, .int v103, .int v105, .int v107, .int v108, .int v110]) := c111
    refine xcVvT E hs hQ hml hl.1 hT 94 (gX5_expectWord_94 l g tt ad hD S96 hI 14 (by decide)) mX5_expectWord q623 (by decide) c111 rfl rfl ⟨(Nat.le_of_ble_eq_true rfl), (Nat.le_of_ble_eq_true rfl)⟩ ⟨(Nat.le_of_ble_eq_true rfl), (Nat.le_of_ble_eq_true rfl)⟩ (Nat.le_of_ble_eq_true rfl) rfl dX5_readThing_89 (fun S99 H locs hp99 hQ _ => ?_)
    obtain ⟨hI, o99⟩ := hp99
    refine lv_aload_n hx hb dX5_readThing_92 rfl (lv_at hl 0 rfl) ?_
    obtain ⟨v112, v114, v115, v117, v119, v120, v122, c123, b113, b116, b118, b121⟩ := invX_94 hI
    have c123 : S99 94 = .inr (5, [.ref (ad 1), .ref (ad 20), .int v112, .int v114, .int v115, .int v117, .int v119, .int v120, .int v122]) := c123
    refine xget E hQ 94 (by decide) c123 rfl 1 (by decide) q343 rfl dX5_readThing_93 ?_
    have c124 : S99 20 = .inr (1, [.int v1, .int v3, .int v5, .ref (ad 21), .ref (ad 23), .ref (ad 24), .int v6, .int v7, .ref (ad 25), .ref (ad 26), .ref (ad 27), .ref (ad 28), .int v9, .ref (ad 33), .ref (ad 34)]) := ((o99 20 (by decide)).trans (up_ne eS96 (by decide) ((o92 20 (by decide)).trans c87)))
    refine xget E hQ 20 (by decide) c124 rfl 10 (by decide) q288 rfl dX5_readThing_96 ?_
    refine lv_aload_n hx hb dX5_readThing_99 rfl (lv_at hl 0 rfl) ?_
    refine xget E hQ 94 (by decide) c123 rfl 1 (by decide) q343 rfl dX5_readThing_100 ?_
    refine xget E hQ 20 (by decide) c124 rfl 7 (by decide) q273 rfl dX5_readThing_103 ?_
    refine lv_aload_n hx hb dX5_readThing_106 rfl (lv_at hl 0 rfl) ?_
    refine lv_iconst (v := 0) hx hb dX5_readThing_107 (by decide) ?_
    refine lv_bipush (v := 99) hx hb dX5_readThing_108 (by decide) ?_
    refine xcVi E hs hQ hml hl.1 94 (gX5_expectNumber_6 l g ad hD S99 hI 0 99 (by decide : Bd 0 (0) (0)) (by decide : Bd 99 (99) (99))) mX5_expectNumber q684 (by decide) c123 rfl rfl ⟨(Nat.le_of_ble_eq_true rfl), (Nat.le_of_ble_eq_true rfl)⟩ ⟨(Nat.le_of_ble_eq_true rfl), (Nat.le_of_ble_eq_true rfl)⟩ (Nat.le_of_ble_eq_true rfl) rfl dX5_readThing_110 (fun r125 S125 H locs hp125 hQ _ => ?_)
    obtain ⟨hI, o125, b125⟩ := hp125
    obtain ⟨f126, c127, b128⟩ := invX_27 hI
    refine xiast E hs hQ 27 (by decide) c127 (ib_in b28 (by decide) (by decide)) dX5_readThing_113 (fun H locs S129 eS129 hQ => ?_)
    have hI := invX_up_27 hI eS129 ⟨_, rfl, upd_b b128 b125⟩
    have b131 : ∀ j, Bd ((upd f126 (v7 : Int32).toNatClampNeg r125) j) (0) (99) := upd_b b128 b125
    have c130 : S129 27 = .inl (g.2 0, 8, .inl (upd f126 (v7 : Int32).toNatClampNeg r125)) := up_at eS129 rfl
    refine lv_aload_n hx hb dX5_readThing_114 rfl (lv_at hl 0 rfl) ?_
    obtain ⟨v132, v134, v135, v137, v139, v140, v142, c143, b133, b136, b138, b141⟩ := invX_94 hI
    have c143 : S129 94 = .inr (5, [.ref (ad 1), .ref (ad 20), .int v132, .int v134, .int v135, .int v137, .int v139, .int v140, .int v142]) := c143
    refine xget E hQ 94 (by decide) c143 rfl 1 (by decide) q343 rfl dX5_readThing_115 ?_
    refine lv_dup hx hb dX5_readThing_118 rfl ?_
    have c144 : S129 20 = .inr (1, [.int v1, .int v3, .int v5, .ref (ad 21), .ref (ad 23), .ref (ad 24), .int v6, .int v7, .ref (ad 25), .ref (ad 26), .ref (ad 27), .ref (ad 28), .int v9, .ref (ad 33), .ref (ad 34)]) := (up_ne eS129 (by decide) ((o125 20 (by decide)).trans c124))
    refine xget E hQ 20 (by decide) c144 rfl 7 (by decide) q273 rfl dX5_readThing_119 ?_
    refine lv_iconst (v := 1) hx hb dX5_readThing_122 (by decide) ?_
    refine lv_iadd hx hb dX5_readThing_123 ?_
    refine lv_topi (fun z145 e146 => ?_)
    have t147 := ib_add e146 b28 (by decide : Bd 1 (1) (1)) (by decide) (by decide)
    have b148 : Bd z145 (1) (8) := ib_addb t147 b28 (by decide : Bd 1 (1) (1))
    have t147 : z145.toInt = v7.toInt + 1 := fold_add t147 rfl (by decide)
    refine xputi E hs hQ 20 (by decide) c144 rfl 7 (by decide) q273 rfl rfl (Nat.le_of_ble_eq_true rfl) dX5_readThing_124 (fun H locs S149 eS149 hQ => ?_)
    have hI := invX_up_20 hI eS149 ⟨v1, v3, v5, v6, z145, v9, rfl, b2, (ib_wk b13 (by decide) (by decide)), (ib_wk b148 (by decide) (by decide)), b10⟩
    have c150 : S149 20 = .inr (1, [.int v1, .int v3, .int v5, .ref (ad 21), .ref (ad 23), .ref (ad 24), .int v6, .int z145, .ref (ad 25), .ref (ad 26), .ref (ad 27), .ref (ad 28), .int v9, .ref (ad 33), .ref (ad 34)]) := up_at eS149 rfl
    have q151 : fld (S 20) 0 = v1.toInt := fld_of c11 rfl
    have q152 : fld (S149 20) 0 = v1.toInt := fld_of c150 rfl
    have q153 : fld (S149 20) 1 = v3.toInt := fld_of c150 rfl
    have q154 : fld (S 20) 12 = v9.toInt := fld_of c11 rfl
    have q155 : fld (S149 20) 12 = v9.toInt := fld_of c150 rfl
    exact xrv E hr hlk hQ (⟨hI, (up_o (up_o (o_trans (o_trans (up_o (o_trans (o_trans (up_o (o_trans (o_trans (o_trans o_refl o29 (by decide)) o30 (by decide)) o56 (by decide)) eS60 (by decide)) o62 (by decide)) o92 (by decide)) eS96 (by decide)) o99 (by decide)) o125 (by decide)) eS129 (by decide)) eS149 (by decide)), ⟨by omega, by omega⟩, ⟨by omega, by omega⟩, ⟨by omega, by omega⟩⟩) dX5_readThing_127
  · have h156 := ib_nlt k26
    have b157 : Bd v7 (8) (8) := ⟨((rf_le (by decide : Bd 8 (8) (8)) b8 h156).2).1, (b8).2⟩
    refine lv_aload_n hx hb dX5_readThing_12 rfl (lv_at hl 0 rfl) ?_
    refine lv_iconst (v := 3) hx hb dX5_readThing_13 (by decide) ?_
    refine xcVv E hs hQ hml hl.1 94 (gX5_fail_94 l g ad hD S hI 3 (ib_wk (by decide : Bd 3 (3) (3)) (by decide) (by decide))) mX5_fail q679 (by decide) c25 rfl rfl ⟨(Nat.le_of_ble_eq_true rfl), (Nat.le_of_ble_eq_true rfl)⟩ ⟨(Nat.le_of_ble_eq_true rfl), (Nat.le_of_ble_eq_true rfl)⟩ (Nat.le_of_ble_eq_true rfl) rfl dX5_readThing_14 (fun S158 H locs hp158 hQ _ => ?_)
    obtain ⟨hI, o158, g158_0⟩ := hp158
    obtain ⟨v159, v161, v162, v164, v166, v167, v169, c170, b160, b163, b165, b168⟩ := invX_94 hI
    have c170 : S158 94 = .inr (5, [.ref (ad 1), .ref (ad 20), .int v159, .int v161, .int v162, .int v164, .int v166, .int v167, .int v169]) := c170
    have q171 : fld (S158 94) 7 = v167.toInt := fld_of c170 rfl
    have b172 : Bd v167 (1) (3) := ⟨by omega, by omega⟩
    have q173 : fld (S 20) 0 = v1.toInt := fld_of c11 rfl
    have c174 : S158 20 = .inr (1, [.int v1, .int v3, .int v5, .ref (ad 21), .ref (ad 23), .ref (ad 24), .int v6, .int v7, .ref (ad 25), .ref (ad 26), .ref (ad 27), .ref (ad 28), .int v9, .ref (ad 33), .ref (ad 34)]) := ((o158 20 (by decide)).trans c11)
    have q175 : fld (S158 20) 0 = v1.toInt := fld_of c174 rfl
    have q176 : fld (S158 20) 1 = v3.toInt := fld_of c174 rfl
    have q177 : fld (S 20) 12 = v9.toInt := fld_of c11 rfl
    have q178 : fld (S158 20) 12 = v9.toInt := fld_of c174 rfl
    exact xrv E hr hlk hQ (⟨hI, (o_trans o_refl o158 (by decide)), ⟨by omega, by omega⟩, ⟨by omega, by omega⟩, ⟨by omega, by omega⟩⟩) dX5_readThing_17
set_option maxHeartbeats 4000000 in
set_option maxRecDepth 100000 in
theorem gX5_readSitter_94 (l : Launch) (g : GG) (tt : TT) (ad : Nat → Nat) (hD : Dj ad 122) (S : SS) (hI : InvX g ad S) (hq1 : 0 ≤ fld (S 20) 1 + (-1)) : Met l yX5_readSitter (wG (.code yX5_readSitter cX5_readSitter 1 none)) (Rm 6) (XPreT g tt ad 122 S [.ref (ad 94)]) (va_Qv (fun S' => InvX g ad S' ∧ (∀ j, j ∉ ([20, 33, 94] : List Nat) → S' j = S j) ∧ (0 ≤ fld (S 20) 0 + (-1) * fld (S' 20) 0 ∧ 0 ≤ fld (S' 20) 0 + (-1) * fld (S 20) 0) ∧ (0 ≤ fld (S 20) 1 + (-1) * fld (S' 20) 1 ∧ 0 ≤ fld (S' 20) 1 + (-1) * fld (S 20) 1) ∧ (0 ≤ fld (S 20) 7 + (-1) * fld (S' 20) 7 ∧ 0 ≤ fld (S' 20) 7 + (-1) * fld (S 20) 7)) (QB g ad 122) (FA ad 122)) 0 0 (FA ad 122) := by
  refine xmetT cX5_readSitter "EbbWreck$Reader" (by decide) rfl (Nat.le_of_ble_eq_true rfl) (fun p e s m below meth c E hT hr hlk hml hQ ls hl => ?_)
  have hx := E.1
  have hb := E.2.1
  have hs : Sp ad 122 (FA ad 122) := Sp.fa hD
  have hl : lv_has ls 1 [(0, .ref (ad 94))] := hl
  obtain ⟨v1, v3, v5, v6, v7, v9, c11, b2, b4, b8, b10⟩ := invX_20 hI
  have c11 : S 20 = .inr (1, [.int v1, .int v3, .int v5, .ref (ad 21), .ref (ad 23), .ref (ad 24), .int v6, .int v7, .ref (ad 25), .ref (ad 26), .ref (ad 27), .ref (ad 28), .int v9, .ref (ad 33), .ref (ad 34)]) := c11
  have q12 : fld (S 20) 1 = v3.toInt := fld_of c11 rfl
  have b13 : Bd v3 (1) (12) := ⟨by omega, by omega⟩
  refine lv_aload_n hx hb dX5_readSitter_0 rfl (lv_at hl 0 rfl) ?_
  obtain ⟨v14, v16, v17, v19, v21, v22, v24, c25, b15, b18, b20, b23⟩ := invX_94 hI
  have c25 : S 94 = .inr (5, [.ref (ad 1), .ref (ad 20), .int v14, .int v16, .int v17, .int v19, .int v21, .int v22, .int v24]) := c25
  refine xget E hQ 94 (by decide) c25 rfl 1 (by decide) q343 rfl dX5_readSitter_1 ?_
  refine xget E hQ 20 (by decide) c11 rfl 12 (by decide) q296 rfl dX5_readSitter_4 ?_
  refine lv_iconst (v := 3) hx hb dX5_readSitter_7 (by decide) ?_
  refine lv_icmp_lt (tgt := 17) hx hb dX5_readSitter_8 (by decide) (fun k26 => ?_) (fun k26 => ?_)
  · have h27 := ib_lt k26
    have b28 : Bd v9 (0) (2) := ⟨(b10).1, ((rf_lt b10 (by decide : Bd 3 (3) (3)) h27).1).2⟩
    refine lv_aload_n hx hb dX5_readSitter_17 rfl (lv_at hl 0 rfl) ?_
    refine xcVv E hs hQ hml hl.1 94 (gX5_advance_94 l g ad hD S hI ) mX5_advance q598 (by decide) c25 rfl rfl ⟨(Nat.le_of_ble_eq_true rfl), (Nat.le_of_ble_eq_true rfl)⟩ ⟨(Nat.le_of_ble_eq_true rfl), (Nat.le_of_ble_eq_true rfl)⟩ (Nat.le_of_ble_eq_true rfl) rfl dX5_readSitter_18 (fun S29 H locs hp29 hQ _ => ?_)
    obtain ⟨hI, o29⟩ := hp29
    refine lv_aload_n hx hb dX5_readSitter_21 rfl (lv_at hl 0 rfl) ?_
    refine va_ldcS hx hb E.2.2.1 (hT.2.2.2 13 (by decide) : vk_R "EbbWreck$Reader" 180 "at" (tt.1 13) s) dX5_readSitter_22 ?_
    obtain ⟨v31, v33, v34, v36, v38, v39, v41, c42, b32, b35, b37, b40⟩ := invX_94 hI
    have c42 : S29 94 = .inr (5, [.ref (ad 1), .ref (ad 20), .int v31, .int v33, .int v34, .int v36, .int v38, .int v39, .int v41]) := c42
    refine xcVvT E hs hQ hml hl.1 hT 94 (gX5_expectWord_94 l g tt ad hD S29 hI 13 (by decide)) mX5_expectWord q623 (by decide) c42 rfl rfl ⟨(Nat.le_of_ble_eq_true rfl), (Nat.le_of_ble_eq_true rfl)⟩ ⟨(Nat.le_of_ble_eq_true rfl), (Nat.le_of_ble_eq_true rfl)⟩ (Nat.le_of_ble_eq_true rfl) rfl dX5_readSitter_24 (fun S30 H locs hp30 hQ _ => ?_)
    obtain ⟨hI, o30⟩ := hp30
    refine lv_aload_n hx hb dX5_readSitter_27 rfl (lv_at hl 0 rfl) ?_
    obtain ⟨v43, v45, v46, v48, v50, v51, v53, c54, b44, b47, b49, b52⟩ := invX_94 hI
    have c54 : S30 94 = .inr (5, [.ref (ad 1), .ref (ad 20), .int v43, .int v45, .int v46, .int v48, .int v50, .int v51, .int v53]) := c54
    refine xget E hQ 94 (by decide) c54 rfl 1 (by decide) q343 rfl dX5_readSitter_28 ?_
    have c55 : S30 20 = .inr (1, [.int v1, .int v3, .int v5, .ref (ad 21), .ref (ad 23), .ref (ad 24), .int v6, .int v7, .ref (ad 25), .ref (ad 26), .ref (ad 27), .ref (ad 28), .int v9, .ref (ad 33), .ref (ad 34)]) := ((o30 20 (by decide)).trans ((o29 20 (by decide)).trans c11))
    refine xget E hQ 20 (by decide) c55 rfl 13 (by decide) q300 rfl dX5_readSitter_31 ?_
    refine lv_aload_n hx hb dX5_readSitter_34 rfl (lv_at hl 0 rfl) ?_
    refine xget E hQ 94 (by decide) c54 rfl 1 (by decide) q343 rfl dX5_readSitter_35 ?_
    refine xget E hQ 20 (by decide) c55 rfl 12 (by decide) q296 rfl dX5_readSitter_38 ?_
    refine lv_aload_n hx hb dX5_readSitter_41 rfl (lv_at hl 0 rfl) ?_
    refine lv_iconst (v := 0) hx hb dX5_readSitter_42 (by decide) ?_
    refine lv_aload_n hx hb dX5_readSitter_43 rfl (lv_at hl 0 rfl) ?_
    refine xget E hQ 94 (by decide) c54 rfl 1 (by decide) q343 rfl dX5_readSitter_44 ?_
    refine xget E hQ 20 (by decide) c55 rfl 1 (by decide) q245 rfl dX5_readSitter_47 ?_
    refine lv_iconst (v := 1) hx hb dX5_readSitter_50 (by decide) ?_
    refine lv_isub hx hb dX5_readSitter_51 ?_
    refine lv_topi (fun z56 e57 => ?_)
    have t58 := ib_sub e57 b13 (by decide : Bd 1 (1) (1)) (by decide) (by decide)
    have b59 : Bd z56 (0) (11) := ib_subb t58 b13 (by decide : Bd 1 (1) (1))
    have t58 : z56.toInt = v3.toInt - 1 := fold_sub t58 rfl (by decide)
    refine xcVi E hs hQ hml hl.1 94 (gX5_expectNumber_8 l g ad hD S30 hI 0 z56 (by decide : Bd 0 (0) (0)) (ib_wk b59 (by decide) (by decide))) mX5_expectNumber q684 (by decide) c54 rfl rfl ⟨(Nat.le_of_ble_eq_true rfl), (Nat.le_of_ble_eq_true rfl)⟩ ⟨(Nat.le_of_ble_eq_true rfl), (Nat.le_of_ble_eq_true rfl)⟩ (Nat.le_of_ble_eq_true rfl) rfl dX5_readSitter_52 (fun r60 S60 H locs hp60 hQ _ => ?_)
    obtain ⟨hI, o60, b60⟩ := hp60
    obtain ⟨f61, c62, b63⟩ := invX_33 hI
    refine xiast E hs hQ 33 (by decide) c62 (ib_in b28 (by decide) (by decide)) dX5_readSitter_55 (fun H locs S64 eS64 hQ => ?_)
    have hI := invX_up_33 hI eS64 ⟨_, rfl, upd_b b63 b60⟩
    have b66 : ∀ j, Bd ((upd f61 (v9 : Int32).toNatClampNeg r60) j) (0) (11) := upd_b b63 b60
    have c65 : S64 33 = .inl (g.2 0, 3, .inl (upd f61 (v9 : Int32).toNatClampNeg r60)) := up_at eS64 rfl
    refine lv_aload_n hx hb dX5_readSitter_56 rfl (lv_at hl 0 rfl) ?_
    obtain ⟨v67, v69, v70, v72, v74, v75, v77, c78, b68, b71, b73, b76⟩ := invX_94 hI
    have c78 : S64 94 = .inr (5, [.ref (ad 1), .ref (ad 20), .int v67, .int v69, .int v70, .int v72, .int v74, .int v75, .int v77]) := c78
    refine xget E hQ 94 (by decide) c78 rfl 1 (by decide) q343 rfl dX5_readSitter_57 ?_
    refine lv_dup hx hb dX5_readSitter_60 rfl ?_
    have c79 : S64 20 = .inr (1, [.int v1, .int v3, .int v5, .ref (ad 21), .ref (ad 23), .ref (ad 24), .int v6, .int v7, .ref (ad 25), .ref (ad 26), .ref (ad 27), .ref (ad 28), .int v9, .ref (ad 33), .ref (ad 34)]) := (up_ne eS64 (by decide) ((o60 20 (by decide)).trans c55))
    refine xget E hQ 20 (by decide) c79 rfl 12 (by decide) q296 rfl dX5_readSitter_61 ?_
    refine lv_iconst (v := 1) hx hb dX5_readSitter_64 (by decide) ?_
    refine lv_iadd hx hb dX5_readSitter_65 ?_
    refine lv_topi (fun z80 e81 => ?_)
    have t82 := ib_add e81 b28 (by decide : Bd 1 (1) (1)) (by decide) (by decide)
    have b83 : Bd z80 (1) (3) := ib_addb t82 b28 (by decide : Bd 1 (1) (1))
    have t82 : z80.toInt = v9.toInt + 1 := fold_add t82 rfl (by decide)
    refine xputi E hs hQ 20 (by decide) c79 rfl 12 (by decide) q296 rfl rfl (Nat.le_of_ble_eq_true rfl) dX5_readSitter_66 (fun H locs S84 eS84 hQ => ?_)
    have hI := invX_up_20 hI eS84 ⟨v1, v3, v5, v6, v7, z80, rfl, b2, (ib_wk b13 (by decide) (by decide)), b8, (ib_wk b83 (by decide) (by decide))⟩
    have c85 : S84 20 = .inr (1, [.int v1, .int v3, .int v5, .ref (ad 21), .ref (ad 23), .ref (ad 24), .int v6, .int v7, .ref (ad 25), .ref (ad 26), .ref (ad 27), .ref (ad 28), .int z80, .ref (ad 33), .ref (ad 34)]) := up_at eS84 rfl
    have q86 : fld (S 20) 0 = v1.toInt := fld_of c11 rfl
    have q87 : fld (S84 20) 0 = v1.toInt := fld_of c85 rfl
    have q88 : fld (S84 20) 1 = v3.toInt := fld_of c85 rfl
    have q89 : fld (S 20) 7 = v7.toInt := fld_of c11 rfl
    have q90 : fld (S84 20) 7 = v7.toInt := fld_of c85 rfl
    exact xrv E hr hlk hQ (⟨hI, (up_o (up_o (o_trans (o_trans (o_trans o_refl o29 (by decide)) o30 (by decide)) o60 (by decide)) eS64 (by decide)) eS84 (by decide)), ⟨by omega, by omega⟩, ⟨by omega, by omega⟩, ⟨by omega, by omega⟩⟩) dX5_readSitter_69
  · have h91 := ib_nlt k26
    have b92 : Bd v9 (3) (3) := ⟨((rf_le (by decide : Bd 3 (3) (3)) b10 h91).2).1, (b10).2⟩
    refine lv_aload_n hx hb dX5_readSitter_11 rfl (lv_at hl 0 rfl) ?_
    refine lv_iconst (v := 3) hx hb dX5_readSitter_12 (by decide) ?_
    refine xcVv E hs hQ hml hl.1 94 (gX5_fail_94 l g ad hD S hI 3 (ib_wk (by decide : Bd 3 (3) (3)) (by decide) (by decide))) mX5_fail q679 (by decide) c25 rfl rfl ⟨(Nat.le_of_ble_eq_true rfl), (Nat.le_of_ble_eq_true rfl)⟩ ⟨(Nat.le_of_ble_eq_true rfl), (Nat.le_of_ble_eq_true rfl)⟩ (Nat.le_of_ble_eq_true rfl) rfl dX5_readSitter_13 (fun S93 H locs hp93 hQ _ => ?_)
    obtain ⟨hI, o93, g93_0⟩ := hp93
    obtain ⟨v94, v96, v97, v99, v101, v102, v104, c105, b95, b98, b100, b103⟩ := invX_94 hI
    have c105 : S93 94 = .inr (5, [.ref (ad 1), .ref (ad 20), .int v94, .int v96, .int v97, .int v99, .int v101, .int v102, .int v104]) := c105
    have q106 : fld (S93 94) 7 = v102.toInt := fld_of c105 rfl
    have b107 : Bd v102 (1) (3) := ⟨by omega, by omega⟩
    have q108 : fld (S 20) 0 = v1.toInt := fld_of c11 rfl
    have c109 : S93 20 = .inr (1, [.int v1, .int v3, .int v5, .ref (ad 21), .ref (ad 23), .ref (ad 24), .int v6, .int v7, .ref (ad 25), .ref (ad 26), .ref (ad 27), .ref (ad 28), .int v9, .ref (ad 33), .ref (ad 34)]) := ((o93 20 (by decide)).trans c11)
    have q110 : fld (S93 20) 0 = v1.toInt := fld_of c109 rfl
    have q111 : fld (S93 20) 1 = v3.toInt := fld_of c109 rfl
    have q112 : fld (S 20) 7 = v7.toInt := fld_of c11 rfl
    have q113 : fld (S93 20) 7 = v7.toInt := fld_of c109 rfl
    exact xrv E hr hlk hQ (⟨hI, (o_trans o_refl o93 (by decide)), ⟨by omega, by omega⟩, ⟨by omega, by omega⟩, ⟨by omega, by omega⟩⟩) dX5_readSitter_16
set_option maxHeartbeats 4000000 in
set_option maxRecDepth 100000 in
theorem gX6_isFull_28 (l : Launch) (g : GG) (ad : Nat → Nat) (hD : Dj ad 122) (S : SS) (hI : InvX g ad S) : Met l yX6_isFull (wG (.code yX6_isFull cX6_isFull 1 (some .boolean))) (Rm 0) (XPre g ad 122 S [.ref (ad 28)]) (va_Qi (fun r S' => S = S' ∧ Bd r (0) (1) ∧ (((-1) * r.toInt < 0 ∨ (0 ≤ (-1) * fld (S 28) 0 + 5)))) (QB g ad 122) (FA ad 122)) 0 0 (FA ad 122) := by
  refine xmet cX6_isFull "EbbWreck$RuleBook" (by decide) rfl (Nat.le_of_ble_eq_true rfl) (fun p e s m below meth c E hr hlk hml hQ ls hl => ?_)
  have hx := E.1
  have hb := E.2.1
  have hs : Sp ad 122 (FA ad 122) := Sp.fa hD
  have hl : lv_has ls 1 [(0, .ref (ad 28))] := hl
  obtain ⟨v1, c3, b2⟩ := invX_28 hI
  have c3 : S 28 = .inr (6, [.int v1, .ref (ad 29), .ref (ad 30), .ref (ad 31), .ref (ad 32)]) := c3
  refine lv_aload_n hx hb dX6_isFull_0 rfl (lv_at hl 0 rfl) ?_
  refine xget E hQ 28 (by decide) c3 rfl 0 (by decide) q186 rfl dX6_isFull_1 ?_
  refine lv_bipush (v := 6) hx hb dX6_isFull_4 (by decide) ?_
  refine lv_icmp_lt (tgt := 13) hx hb dX6_isFull_6 (by decide) (fun k4 => ?_) (fun k4 => ?_)
  · have h5 := ib_lt k4
    have b6 : Bd v1 (0) (5) := ⟨(b2).1, ((rf_lt b2 (by decide : Bd 6 (6) (6)) h5).1).2⟩
    refine lv_iconst (v := 0) hx hb dX6_isFull_13 (by decide) ?_
    have q7 : fld (S 28) 0 = v1.toInt := fld_of c3 rfl
    have q8 : (0 : Int32).toInt = 0 := by decide
    exact xrz E hr hlk hQ rfl (⟨rfl, (ib_wk (by decide : Bd 0 (0) (0)) (by decide) (by decide)), Or.inr (by omega)⟩) dX6_isFull_14
  · have h9 := ib_nlt k4
    have b10 : Bd v1 (6) (6) := ⟨((rf_le (by decide : Bd 6 (6) (6)) b2 h9).2).1, (b2).2⟩
    refine lv_iconst (v := 1) hx hb dX6_isFull_9 (by decide) ?_
    refine lv_goto (tgt := 14) hx hb dX6_isFull_10 (by decide) ?_
    have q11 : fld (S 28) 0 = v1.toInt := fld_of c3 rfl
    have q12 : (1 : Int32).toInt = 1 := by decide
    exact xrz E hr hlk hQ rfl (⟨rfl, (ib_wk (by decide : Bd 1 (1) (1)) (by decide) (by decide)), Or.inl (by omega)⟩) dX6_isFull_14
set_option maxHeartbeats 4000000 in
set_option maxRecDepth 100000 in
theorem gX6_addRule_28 (l : Launch) (g : GG) (ad : Nat → Nat) (hD : Dj ad 122) (S : SS) (hI : InvX g ad S) (a1 : Int32) (a2 : Int32) (a3 : Int32) (a4 : Int32) : Met l yX6_addRule (wG (.code yX6_addRule cX6_addRule 5 none)) (Rm 1) (XPre g ad 122 S [.ref (ad 28), .int a1, .int a2, .int a3, .int a4]) (va_Qv (fun S' => InvX g ad S' ∧ (∀ j, j ∉ ([28, 29, 30, 31, 32] : List Nat) → S' j = S j)) (QB g ad 122) (FA ad 122)) 0 0 (FA ad 122) := by
  refine xmet cX6_addRule "EbbWreck$RuleBook" (by decide) rfl (Nat.le_of_ble_eq_true rfl) (fun p e s m below meth c E hr hlk hml hQ ls hl => ?_)
  have hx := E.1
  have hb := E.2.1
  have hs : Sp ad 122 (FA ad 122) := Sp.fa hD
  have hl : lv_has ls 5 [(0, .ref (ad 28)), (1, .int a1), (2, .int a2), (3, .int a3), (4, .int a4)] := hl
  refine lv_aload_n hx hb dX6_addRule_0 rfl (lv_at hl 0 rfl) ?_
  obtain ⟨v1, c3, b2⟩ := invX_28 hI
  have c3 : S 28 = .inr (6, [.int v1, .ref (ad 29), .ref (ad 30), .ref (ad 31), .ref (ad 32)]) := c3
  refine xcVi E hs hQ hml hl.1 28 (gX6_isFull_28 l g ad hD S hI ) mX6_isFull q735 (by decide) c3 rfl rfl ⟨(Nat.le_of_ble_eq_true rfl), (Nat.le_of_ble_eq_true rfl)⟩ ⟨(Nat.le_of_ble_eq_true rfl), (Nat.le_of_ble_eq_true rfl)⟩ (Nat.le_of_ble_eq_true rfl) rfl dX6_addRule_1 (fun r4 S4 H locs hp4 hQ _ => ?_)
  obtain ⟨rfl, b4, g4_0⟩ := hp4
  have q5 : fld (S 28) 0 = v1.toInt := fld_of c3 rfl
  refine lv_if_ne (tgt := 58) hx hb dX6_addRule_4 (by decide) (fun k6 => ?_) (fun k6 => ?_)
  · have h7 := ib_ne k6
    have b8 : Bd r4 (1) (1) := rf_nlo b4 (by decide : Bd 0 (0) (0)) h7
    clear g4_0
    exact xrv E hr hlk hQ (⟨hI, o_refl⟩) dX6_addRule_58
  · have h9 := ib_eq k6
    have b10 : Bd r4 (0) (0) := ⟨(b4).1, ((rf_eq b4 (by decide : Bd 0 (0) (0)) h9).1).2⟩
    have g11 := g4_0.resolve_left (by omega)
    clear g4_0
    have b12 : Bd v1 (0) (5) := ⟨by omega, by omega⟩
    refine lv_aload_n hx hb dX6_addRule_7 rfl (lv_at hl 0 rfl) ?_
    refine xget E hQ 28 (by decide) c3 rfl 1 (by decide) q189 rfl dX6_addRule_8 ?_
    refine lv_aload_n hx hb dX6_addRule_11 rfl (lv_at hl 0 rfl) ?_
    refine xget E hQ 28 (by decide) c3 rfl 0 (by decide) q186 rfl dX6_addRule_12 ?_
    refine lv_iload_n hx hb dX6_addRule_15 rfl (lv_at hl 1 rfl) ?_
    obtain ⟨f13, c14⟩ := invX_29 hI
    refine xiast E hs hQ 29 (by decide) c14 (ib_in b12 (by decide) (by decide)) dX6_addRule_16 (fun H locs S16 eS16 hQ => ?_)
    have hI := invX_up_29 hI eS16 ⟨_, rfl⟩
    have c17 : S16 29 = .inl (g.2 0, 6, .inl (upd f13 (v1 : Int32).toNatClampNeg a1)) := up_at eS16 rfl
    refine lv_aload_n hx hb dX6_addRule_17 rfl (lv_at hl 0 rfl) ?_
    have c18 : S16 28 = .inr (6, [.int v1, .ref (ad 29), .ref (ad 30), .ref (ad 31), .ref (ad 32)]) := (up_ne eS16 (by decide) c3)
    refine xget E hQ 28 (by decide) c18 rfl 2 (by decide) q191 rfl dX6_addRule_18 ?_
    refine lv_aload_n hx hb dX6_addRule_21 rfl (lv_at hl 0 rfl) ?_
    refine xget E hQ 28 (by decide) c18 rfl 0 (by decide) q186 rfl dX6_addRule_22 ?_
    refine lv_iload_n hx hb dX6_addRule_25 rfl (lv_at hl 2 rfl) ?_
    obtain ⟨f19, c20⟩ := invX_30 hI
    refine xiast E hs hQ 30 (by decide) c20 (ib_in b12 (by decide) (by decide)) dX6_addRule_26 (fun H locs S22 eS22 hQ => ?_)
    have hI := invX_up_30 hI eS22 ⟨_, rfl⟩
    have c23 : S22 30 = .inl (g.2 0, 6, .inl (upd f19 (v1 : Int32).toNatClampNeg a2)) := up_at eS22 rfl
    refine lv_aload_n hx hb dX6_addRule_27 rfl (lv_at hl 0 rfl) ?_
    have c24 : S22 28 = .inr (6, [.int v1, .ref (ad 29), .ref (ad 30), .ref (ad 31), .ref (ad 32)]) := (up_ne eS22 (by decide) c18)
    refine xget E hQ 28 (by decide) c24 rfl 3 (by decide) q193 rfl dX6_addRule_28 ?_
    refine lv_aload_n hx hb dX6_addRule_31 rfl (lv_at hl 0 rfl) ?_
    refine xget E hQ 28 (by decide) c24 rfl 0 (by decide) q186 rfl dX6_addRule_32 ?_
    refine lv_iload_n hx hb dX6_addRule_35 rfl (lv_at hl 3 rfl) ?_
    obtain ⟨f25, c26⟩ := invX_31 hI
    refine xiast E hs hQ 31 (by decide) c26 (ib_in b12 (by decide) (by decide)) dX6_addRule_36 (fun H locs S28 eS28 hQ => ?_)
    have hI := invX_up_31 hI eS28 ⟨_, rfl⟩
    have c29 : S28 31 = .inl (g.2 0, 6, .inl (upd f25 (v1 : Int32).toNatClampNeg a3)) := up_at eS28 rfl
    refine lv_aload_n hx hb dX6_addRule_37 rfl (lv_at hl 0 rfl) ?_
    have c30 : S28 28 = .inr (6, [.int v1, .ref (ad 29), .ref (ad 30), .ref (ad 31), .ref (ad 32)]) := (up_ne eS28 (by decide) c24)
    refine xget E hQ 28 (by decide) c30 rfl 4 (by decide) q195 rfl dX6_addRule_38 ?_
    refine lv_aload_n hx hb dX6_addRule_41 rfl (lv_at hl 0 rfl) ?_
    refine xget E hQ 28 (by decide) c30 rfl 0 (by decide) q186 rfl dX6_addRule_42 ?_
    refine lv_iload hx hb dX6_addRule_45 (lv_at hl 4 rfl) ?_
    obtain ⟨f31, c32⟩ := invX_32 hI
    refine xiast E hs hQ 32 (by decide) c32 (ib_in b12 (by decide) (by decide)) dX6_addRule_47 (fun H locs S34 eS34 hQ => ?_)
    have hI := invX_up_32 hI eS34 ⟨_, rfl⟩
    have c35 : S34 32 = .inl (g.2 0, 6, .inl (upd f31 (v1 : Int32).toNatClampNeg a4)) := up_at eS34 rfl
    refine lv_aload_n hx hb dX6_addRule_48 rfl (lv_at hl 0 rfl) ?_
    refine lv_dup hx hb dX6_addRule_49 rfl ?_
    have c36 : S34 28 = .inr (6, [.int v1, .ref (ad 29), .ref (ad 30), .ref (ad 31), .ref (ad 32)]) := (up_ne eS34 (by decide) c30)
    refine xget E hQ 28 (by decide) c36 rfl 0 (by decide) q186 rfl dX6_addRule_50 ?_
    refine lv_iconst (v := 1) hx hb dX6_addRule_53 (by decide) ?_
    refine lv_iadd hx hb dX6_addRule_54 ?_
    refine lv_topi (fun z37 e38 => ?_)
    have t39 := ib_add e38 b12 (by decide : Bd 1 (1) (1)) (by decide) (by decide)
    have b40 : Bd z37 (1) (6) := ib_addb t39 b12 (by decide : Bd 1 (1) (1))
    have t39 : z37.toInt = v1.toInt + 1 := fold_add t39 rfl (by decide)
    refine xputi E hs hQ 28 (by decide) c36 rfl 0 (by decide) q186 rfl rfl (Nat.le_of_ble_eq_true rfl) dX6_addRule_55 (fun H locs S41 eS41 hQ => ?_)
    have hI := invX_up_28 hI eS41 ⟨z37, rfl, (ib_wk b40 (by decide) (by decide))⟩
    have c42 : S41 28 = .inr (6, [.int z37, .ref (ad 29), .ref (ad 30), .ref (ad 31), .ref (ad 32)]) := up_at eS41 rfl
    exact xrv E hr hlk hQ (⟨hI, (up_o (up_o (up_o (up_o (up_o o_refl eS16 (by decide)) eS22 (by decide)) eS28 (by decide)) eS34 (by decide)) eS41 (by decide))⟩) dX6_addRule_58
set_option maxHeartbeats 4000000 in
set_option maxRecDepth 100000 in
theorem gX5_readPhases_94 (l : Launch) (g : GG) (tt : TT) (ad : Nat → Nat) (hD : Dj ad 122) (S : SS) (hI : InvX g ad S) : Met l yX5_readPhases (wG (.code yX5_readPhases cX5_readPhases 4 (some .int))) (Rm 5) (XPreT g tt ad 122 S [.ref (ad 94)]) (va_Qi (fun _ S' => InvX g ad S' ∧ (∀ j, j ∉ ([94] : List Nat) → S' j = S j)) (QB g ad 122) (FA ad 122)) 0 0 (FA ad 122) := by
  refine xmetT cX5_readPhases "EbbWreck$Reader" (by decide) rfl (Nat.le_of_ble_eq_true rfl) (fun p e s m below meth c E hT hr hlk hml hQ ls hl => ?_)
  have hx := E.1
  have hb := E.2.1
  have hs : Sp ad 122 (FA ad 122) := Sp.fa hD
  have hl : lv_has ls 4 [(0, .ref (ad 94))] := hl
  refine lv_iconst (v := 0) hx hb dX5_readPhases_0 (by decide) ?_
  refine lv_istore_n (lv' := [(1, .int 0), (0, .ref (ad 94))]) hx hb dX5_readPhases_1 rfl hl (by decide) rfl (fun ls hl => ?_)
  refine lv_iconst (v := 0) hx hb dX5_readPhases_2 (by decide) ?_
  refine lv_istore_n (lv' := [(2, .int 0), (1, .int 0), (0, .ref (ad 94))]) hx hb dX5_readPhases_3 rfl hl (by decide) rfl (fun ls hl => ?_)
  obtain ⟨v1, v3, v4, v6, v8, v9, v11, c12, b2, b5, b7, b10⟩ := invX_94 hI
  have c12 : S 94 = .inr (5, [.ref (ad 1), .ref (ad 20), .int v1, .int v3, .int v4, .int v6, .int v8, .int v9, .int v11]) := c12
  have loop4 : ∀ (n : Nat) (S_4 : SS) (H : Heap) (locs : List Loc) (ls : Array Slot) (x4_1 : Int32) (x4_2 : Int32) (y4_94_2 : Int32) (y4_94_3 : Int32) (y4_94_4 : Int32) (y4_94_5 : Int32) (y4_94_6 : Int32) (y4_94_7 : Int32) (y4_94_8 : Int32), Bd x4_2 (0) (1201) → Bd y4_94_2 (0) (1200) → Bd y4_94_4 (0) (1200) → Bd y4_94_5 (0) (1200) → Bd y4_94_7 (0) (3) → (-1) * x4_2.toInt + 1201 < ((n : Nat) : Int) → InvX g ad S_4 → (∀ j, j ∉ ([94] : List Nat) → S_4 j = S j) → S_4 94 = .inr (5, [.ref (ad 1), .ref (ad 20), .int y4_94_2, .int y4_94_3, .int y4_94_4, .int y4_94_5, .int y4_94_6, .int y4_94_7, .int y4_94_8]) → Hp g ad 122 S_4 (FA ad 122) s.heap H locs → lv_has ls 4 [(2, .int x4_2), (1, .int x4_1), (0, .ref (ad 94))] → W p l e (Rm 5) s m [.ref (ad 94)].toArray below meth c H locs 0 0 (MQ below (va_Qi (fun _ S' => InvX g ad S' ∧ (∀ j, j ∉ ([94] : List Nat) → S' j = S j)) (QB g ad 122) (FA ad 122)) [.ref (ad 94)].toArray s 0 0 (FA ad 122)) (F0 m 4 ls []) := by
    intro n
    induction n with
    | zero => intro S_4 H locs ls x4_1 x4_2 y4_94_2 y4_94_3 y4_94_4 y4_94_5 y4_94_6 y4_94_7 y4_94_8 Bx4_2 By4_94_2 By4_94_4 By4_94_5 By4_94_7 hn4_ hI hf4 cl4_94 hQ hl; exfalso; have := (Bx4_2).2; omega
    | succ n4_ ih4 =>
      intro S_4 H locs ls x4_1 x4_2 y4_94_2 y4_94_3 y4_94_4 y4_94_5 y4_94_6 y4_94_7 y4_94_8 Bx4_2 By4_94_2 By4_94_4 By4_94_5 By4_94_7 hn4_ hI hf4 cl4_94 hQ hl
      refine lv_iload_n hx hb dX5_readPhases_4 rfl (lv_at hl 0 rfl) ?_
      refine lv_sipush (v := 1200) hx hb dX5_readPhases_5 (by decide) ?_
      refine lv_icmp_gt (tgt := 80) hx hb dX5_readPhases_8 (by decide) (fun k13 => ?_) (fun k13 => ?_)
      · have h14 := ib_lt k13
        have b15 : Bd x4_2 (1201) (1201) := ⟨((rf_lt (by decide : Bd 1200 (1200) (1200)) Bx4_2 h14).2).1, (Bx4_2).2⟩
        refine lv_iload_n hx hb dX5_readPhases_80 rfl (lv_at hl 1 rfl) ?_
        refine lv_if_ne (tgt := 89) hx hb dX5_readPhases_81 (by decide) (fun k16 => ?_) (fun k16 => ?_)
        · have h17 := ib_ne k16
          refine lv_iload_n hx hb dX5_readPhases_89 rfl (lv_at hl 1 rfl) ?_
          exact xri E hr hlk hQ (⟨hI, (o_trans o_refl hf4 (by decide))⟩) dX5_readPhases_90
        · have h18 := ib_eq k16
          have b19 : Bd x4_1 (0) (0) := ⟨((rf_eq (ib_full x4_1) (by decide : Bd 0 (0) (0)) h18).1).1, ((rf_eq (ib_full x4_1) (by decide : Bd 0 (0) (0)) h18).1).2⟩
          refine lv_aload_n hx hb dX5_readPhases_84 rfl (lv_at hl 2 rfl) ?_
          refine lv_iconst (v := 1) hx hb dX5_readPhases_85 (by decide) ?_
          refine xcVv E hs hQ hml hl.1 94 (gX5_fail_94 l g ad hD S_4 hI 1 (ib_wk (by decide : Bd 1 (1) (1)) (by decide) (by decide))) mX5_fail q679 (by decide) cl4_94 rfl rfl ⟨(Nat.le_of_ble_eq_true rfl), (Nat.le_of_ble_eq_true rfl)⟩ ⟨(Nat.le_of_ble_eq_true rfl), (Nat.le_of_ble_eq_true rfl)⟩ (Nat.le_of_ble_eq_true rfl) rfl dX5_readPhases_86 (fun S20 H locs hp20 hQ _ => ?_)
          obtain ⟨hI, o20, g20_0⟩ := hp20
          obtain ⟨v21, v23, v24, v26, v28, v29, v31, c32, b22, b25, b27, b30⟩ := invX_94 hI
          have c32 : S20 94 = .inr (5, [.ref (ad 1), .ref (ad 20), .int v21, .int v23, .int v24, .int v26, .int v28, .int v29, .int v31]) := c32
          have q33 : fld (S20 94) 7 = v29.toInt := fld_of c32 rfl
          have b34 : Bd v29 (1) (3) := ⟨by omega, by omega⟩
          refine lv_iload_n hx hb dX5_readPhases_89 rfl (lv_at hl 1 rfl) ?_
          exact xri E hr hlk hQ (⟨hI, (o_trans (o_trans o_refl hf4 (by decide)) o20 (by decide))⟩) dX5_readPhases_90
      · have h35 := ib_nlt k13
        have b36 : Bd x4_2 (0) (1200) := ⟨(Bx4_2).1, ((rf_le Bx4_2 (by decide : Bd 1200 (1200) (1200)) h35).1).2⟩
        refine lv_aload_n hx hb dX5_readPhases_11 rfl (lv_at hl 2 rfl) ?_
        refine va_ldcS hx hb E.2.2.1 (hT.2.2.2 7 (by decide) : vk_R "EbbWreck$Reader" 137 "flood" (tt.1 7) s) dX5_readPhases_12 ?_
        refine xcViT E hs hQ hml hl.1 hT 94 (gX5_isWord_94 l g tt ad hD S_4 hI 7 (by decide)) mX5_isWord q627 (by decide) cl4_94 rfl rfl ⟨(Nat.le_of_ble_eq_true rfl), (Nat.le_of_ble_eq_true rfl)⟩ ⟨(Nat.le_of_ble_eq_true rfl), (Nat.le_of_ble_eq_true rfl)⟩ (Nat.le_of_ble_eq_true rfl) rfl dX5_readPhases_14 (fun r37 S37 H locs hp37 hQ _ => ?_)
        obtain ⟨rfl, b37⟩ := hp37
        refine lv_if_eq (tgt := 24) hx hb dX5_readPhases_17 (by decide) (fun k38 => ?_) (fun k38 => ?_)
        · have h39 := ib_eq k38
          have b40 : Bd r37 (0) (0) := ⟨(b37).1, ((rf_eq b37 (by decide : Bd 0 (0) (0)) h39).1).2⟩
          refine lv_aload_n hx hb dX5_readPhases_24 rfl (lv_at hl 2 rfl) ?_
          refine va_ldcS hx hb E.2.2.1 (hT.2.2.2 8 (by decide) : vk_R "EbbWreck$Reader" 139 "slack" (tt.1 8) s) dX5_readPhases_25 ?_
          refine xcViT E hs hQ hml hl.1 hT 94 (gX5_isWord_94 l g tt ad hD S_4 hI 8 (by decide)) mX5_isWord q627 (by decide) cl4_94 rfl rfl ⟨(Nat.le_of_ble_eq_true rfl), (Nat.le_of_ble_eq_true rfl)⟩ ⟨(Nat.le_of_ble_eq_true rfl), (Nat.le_of_ble_eq_true rfl)⟩ (Nat.le_of_ble_eq_true rfl) rfl dX5_readPhases_27 (fun r41 S41 H locs hp41 hQ _ => ?_)
          obtain ⟨rfl, b41⟩ := hp41
          refine lv_if_eq (tgt := 37) hx hb dX5_readPhases_30 (by decide) (fun k42 => ?_) (fun k42 => ?_)
          · have h43 := ib_eq k42
            have b44 : Bd r41 (0) (0) := ⟨(b41).1, ((rf_eq b41 (by decide : Bd 0 (0) (0)) h43).1).2⟩
            refine lv_aload_n hx hb dX5_readPhases_37 rfl (lv_at hl 2 rfl) ?_
            refine va_ldcS hx hb E.2.2.1 (hT.2.2.2 9 (by decide) : vk_R "EbbWreck$Reader" 141 "ebb" (tt.1 9) s) dX5_readPhases_38 ?_
            refine xcViT E hs hQ hml hl.1 hT 94 (gX5_isWord_94 l g tt ad hD S_4 hI 9 (by decide)) mX5_isWord q627 (by decide) cl4_94 rfl rfl ⟨(Nat.le_of_ble_eq_true rfl), (Nat.le_of_ble_eq_true rfl)⟩ ⟨(Nat.le_of_ble_eq_true rfl), (Nat.le_of_ble_eq_true rfl)⟩ (Nat.le_of_ble_eq_true rfl) rfl dX5_readPhases_40 (fun r45 S45 H locs hp45 hQ _ => ?_)
            obtain ⟨rfl, b45⟩ := hp45
            refine lv_if_eq (tgt := 50) hx hb dX5_readPhases_43 (by decide) (fun k46 => ?_) (fun k46 => ?_)
            · have h47 := ib_eq k46
              have b48 : Bd r45 (0) (0) := ⟨(b45).1, ((rf_eq b45 (by decide : Bd 0 (0) (0)) h47).1).2⟩
              refine lv_iconst (v := 0) hx hb dX5_readPhases_50 (by decide) ?_
              refine lv_istore_n (lv' := [(3, .int 0), (2, .int x4_2), (1, .int x4_1), (0, .ref (ad 94))]) hx hb dX5_readPhases_51 rfl hl (by decide) rfl (fun ls hl => ?_)
              refine lv_iload_n hx hb dX5_readPhases_52 rfl (lv_at hl 0 rfl) ?_
              refine lv_if_eq (tgt := 80) hx hb dX5_readPhases_53 (by decide) (fun k49 => ?_) (fun k49 => ?_)
              · have h50 := ib_eq k49
                refine lv_iload_n hx hb dX5_readPhases_80 rfl (lv_at hl 2 rfl) ?_
                refine lv_if_ne (tgt := 89) hx hb dX5_readPhases_81 (by decide) (fun k51 => ?_) (fun k51 => ?_)
                · have h52 := ib_ne k51
                  refine lv_iload_n hx hb dX5_readPhases_89 rfl (lv_at hl 2 rfl) ?_
                  exact xri E hr hlk hQ (⟨hI, (o_trans o_refl hf4 (by decide))⟩) dX5_readPhases_90
                · have h53 := ib_eq k51
                  have b54 : Bd x4_1 (0) (0) := ⟨((rf_eq (ib_full x4_1) (by decide : Bd 0 (0) (0)) h53).1).1, ((rf_eq (ib_full x4_1) (by decide : Bd 0 (0) (0)) h53).1).2⟩
                  refine lv_aload_n hx hb dX5_readPhases_84 rfl (lv_at hl 3 rfl) ?_
                  refine lv_iconst (v := 1) hx hb dX5_readPhases_85 (by decide) ?_
                  refine xcVv E hs hQ hml hl.1 94 (gX5_fail_94 l g ad hD S_4 hI 1 (ib_wk (by decide : Bd 1 (1) (1)) (by decide) (by decide))) mX5_fail q679 (by decide) cl4_94 rfl rfl ⟨(Nat.le_of_ble_eq_true rfl), (Nat.le_of_ble_eq_true rfl)⟩ ⟨(Nat.le_of_ble_eq_true rfl), (Nat.le_of_ble_eq_true rfl)⟩ (Nat.le_of_ble_eq_true rfl) rfl dX5_readPhases_86 (fun S55 H locs hp55 hQ _ => ?_)
                  obtain ⟨hI, o55, g55_0⟩ := hp55
                  obtain ⟨v56, v58, v59, v61, v63, v64, v66, c67, b57, b60, b62, b65⟩ := invX_94 hI
                  have c67 : S55 94 = .inr (5, [.ref (ad 1), .ref (ad 20), .int v56, .int v58, .int v59, .int v61, .int v63, .int v64, .int v66]) := c67
                  have q68 : fld (S55 94) 7 = v64.toInt := fld_of c67 rfl
                  have b69 : Bd v64 (1) (3) := ⟨by omega, by omega⟩
                  refine lv_iload_n hx hb dX5_readPhases_89 rfl (lv_at hl 2 rfl) ?_
                  exact xri E hr hlk hQ (⟨hI, (o_trans (o_trans o_refl hf4 (by decide)) o55 (by decide))⟩) dX5_readPhases_90
              · have h70 := ib_ne k49
                exact absurd h70 (by decide)
            · have h71 := ib_ne k46
              have b72 : Bd r45 (1) (1) := rf_nlo b45 (by decide : Bd 0 (0) (0)) h71
              refine lv_iconst (v := 4) hx hb dX5_readPhases_46 (by decide) ?_
              refine lv_goto (tgt := 51) hx hb dX5_readPhases_47 (by decide) ?_
              refine lv_istore_n (lv' := [(3, .int 4), (2, .int x4_2), (1, .int x4_1), (0, .ref (ad 94))]) hx hb dX5_readPhases_51 rfl hl (by decide) rfl (fun ls hl => ?_)
              refine lv_iload_n hx hb dX5_readPhases_52 rfl (lv_at hl 0 rfl) ?_
              refine lv_if_eq (tgt := 80) hx hb dX5_readPhases_53 (by decide) (fun k73 => ?_) (fun k73 => ?_)
              · have h74 := ib_eq k73
                exact absurd h74 (by decide)
              · have h75 := ib_ne k73
                refine lv_aload_n hx hb dX5_readPhases_56 rfl (lv_at hl 3 rfl) ?_
                refine xcVi E hs hQ hml hl.1 94 (gX5_failed_94 l g ad hD S_4 hI ) mX5_failed q610 (by decide) cl4_94 rfl rfl ⟨(Nat.le_of_ble_eq_true rfl), (Nat.le_of_ble_eq_true rfl)⟩ ⟨(Nat.le_of_ble_eq_true rfl), (Nat.le_of_ble_eq_true rfl)⟩ (Nat.le_of_ble_eq_true rfl) rfl dX5_readPhases_57 (fun r76 S76 H locs hp76 hQ _ => ?_)
                obtain ⟨rfl, b76, g76_0⟩ := hp76
                have q77 : fld (S_4 94) 7 = y4_94_7.toInt := fld_of cl4_94 rfl
                refine lv_if_eq (tgt := 66) hx hb dX5_readPhases_60 (by decide) (fun k78 => ?_) (fun k78 => ?_)
                · have h79 := ib_eq k78
                  have b80 : Bd r76 (0) (0) := ⟨(b76).1, ((rf_eq b76 (by decide : Bd 0 (0) (0)) h79).1).2⟩
                  have g81 := g76_0.resolve_left (by omega)
                  clear g76_0
                  have b82 : Bd y4_94_7 (0) (0) := ⟨by omega, by omega⟩
                  refine lv_iload_n hx hb dX5_readPhases_66 rfl (lv_at hl 2 rfl) ?_
                  refine lv_iload_n hx hb dX5_readPhases_67 rfl (lv_at hl 0 rfl) ?_
                  refine lv_ior hx hb dX5_readPhases_68 ?_
                  refine lv_topi (fun z83 e84 => ?_)
                  refine lv_istore_n (lv' := [(1, .int z83), (3, .int 4), (2, .int x4_2), (0, .ref (ad 94))]) hx hb dX5_readPhases_69 rfl hl (by decide) rfl (fun ls hl => ?_)
                  refine lv_aload_n hx hb dX5_readPhases_70 rfl (lv_at hl 3 rfl) ?_
                  refine xcVv E hs hQ hml hl.1 94 (gX5_advance_94 l g ad hD S_4 hI ) mX5_advance q598 (by decide) cl4_94 rfl rfl ⟨(Nat.le_of_ble_eq_true rfl), (Nat.le_of_ble_eq_true rfl)⟩ ⟨(Nat.le_of_ble_eq_true rfl), (Nat.le_of_ble_eq_true rfl)⟩ (Nat.le_of_ble_eq_true rfl) rfl dX5_readPhases_71 (fun S85 H locs hp85 hQ _ => ?_)
                  obtain ⟨hI, o85⟩ := hp85
                  obtain ⟨z86, e87⟩ : ∃ z : Int32, z = x4_2 + 1 := ⟨_, rfl⟩
                  have t88 := ib_add e87 b36 (by decide : Bd 1 (1) (1)) (by decide) (by decide)
                  have b89 : Bd z86 (1) (1201) := ib_addb t88 b36 (by decide : Bd 1 (1) (1))
                  have t88 : z86.toInt = x4_2.toInt + 1 := fold_add t88 rfl (by decide)
                  refine lv_iinc (v := z86) (lv' := [(2, .int z86), (1, .int z83), (3, .int 4), (0, .ref (ad 94))]) hx hb dX5_readPhases_74 hl (k := 2) rfl (by rw [e87]; rfl) (by decide) rfl (fun ls hl => ?_)
                  refine lv_goto (tgt := 4) hx hb dX5_readPhases_77 (by decide) ?_
                  obtain ⟨v90, v92, v93, v95, v97, v98, v100, c101, b91, b94, b96, b99⟩ := invX_94 hI
                  have c101 : S85 94 = .inr (5, [.ref (ad 1), .ref (ad 20), .int v90, .int v92, .int v93, .int v95, .int v97, .int v98, .int v100]) := c101
                  exact ih4 _ _ _ _ z83 z86 v90 v92 v93 v95 v97 v98 v100 (ib_wk b89 (by decide) (by decide)) b91 b94 b96 b99 (by omega) hI (o_trans hf4 o85 (by decide)) c101 hQ (lv_sub hl [0, 1, 3] rfl)
                · have h102 := ib_ne k78
                  have b103 : Bd r76 (1) (1) := rf_nlo b76 (by decide : Bd 0 (0) (0)) h102
                  clear g76_0
                  refine lv_goto (tgt := 80) hx hb dX5_readPhases_63 (by decide) ?_
                  refine lv_iload_n hx hb dX5_readPhases_80 rfl (lv_at hl 2 rfl) ?_
                  refine lv_if_ne (tgt := 89) hx hb dX5_readPhases_81 (by decide) (fun k104 => ?_) (fun k104 => ?_)
                  · have h105 := ib_ne k104
                    refine lv_iload_n hx hb dX5_readPhases_89 rfl (lv_at hl 2 rfl) ?_
                    exact xri E hr hlk hQ (⟨hI, (o_trans o_refl hf4 (by decide))⟩) dX5_readPhases_90
                  · have h106 := ib_eq k104
                    have b107 : Bd x4_1 (0) (0) := ⟨((rf_eq (ib_full x4_1) (by decide : Bd 0 (0) (0)) h106).1).1, ((rf_eq (ib_full x4_1) (by decide : Bd 0 (0) (0)) h106).1).2⟩
                    refine lv_aload_n hx hb dX5_readPhases_84 rfl (lv_at hl 3 rfl) ?_
                    refine lv_iconst (v := 1) hx hb dX5_readPhases_85 (by decide) ?_
                    refine xcVv E hs hQ hml hl.1 94 (gX5_fail_94 l g ad hD S_4 hI 1 (ib_wk (by decide : Bd 1 (1) (1)) (by decide) (by decide))) mX5_fail q679 (by decide) cl4_94 rfl rfl ⟨(Nat.le_of_ble_eq_true rfl), (Nat.le_of_ble_eq_true rfl)⟩ ⟨(Nat.le_of_ble_eq_true rfl), (Nat.le_of_ble_eq_true rfl)⟩ (Nat.le_of_ble_eq_true rfl) rfl dX5_readPhases_86 (fun S108 H locs hp108 hQ _ => ?_)
                    obtain ⟨hI, o108, g108_0⟩ := hp108
                    obtain ⟨v109, v111, v112, v114, v116, v117, v119, c120, b110, b113, b115, b118⟩ := invX_94 hI
                    have c120 : S108 94 = .inr (5, [.ref (ad 1), .ref (ad 20), .int v109, .int v111, .int v112, .int v114, .int v116, .int v117, .int v119]) := c120
                    have q121 : fld (S108 94) 7 = v117.toInt := fld_of c120 rfl
                    have b122 : Bd v117 (1) (3) := ⟨by omega, by omega⟩
                    refine lv_iload_n hx hb dX5_readPhases_89 rfl (lv_at hl 2 rfl) ?_
                    exact xri E hr hlk hQ (⟨hI, (o_trans (o_trans o_refl hf4 (by decide)) o108 (by decide))⟩) dX5_readPhases_90
          · have h123 := ib_ne k42
            have b124 : Bd r41 (1) (1) := rf_nlo b41 (by decide : Bd 0 (0) (0)) h123
            refine lv_iconst (v := 2) hx hb dX5_readPhases_33 (by decide) ?_
            refine lv_goto (tgt := 51) hx hb dX5_readPhases_34 (by decide) ?_
            refine lv_istore_n (lv' := [(3, .int 2), (2, .int x4_2), (1, .int x4_1), (0, .ref (ad 94))]) hx hb dX5_readPhases_51 rfl hl (by decide) rfl (fun ls hl => ?_)
            refine lv_iload_n hx hb dX5_readPhases_52 rfl (lv_at hl 0 rfl) ?_
            refine lv_if_eq (tgt := 80) hx hb dX5_readPhases_53 (by decide) (fun k125 => ?_) (fun k125 => ?_)
            · have h126 := ib_eq k125
              exact absurd h126 (by decide)
            · have h127 := ib_ne k125
              refine lv_aload_n hx hb dX5_readPhases_56 rfl (lv_at hl 3 rfl) ?_
              refine xcVi E hs hQ hml hl.1 94 (gX5_failed_94 l g ad hD S_4 hI ) mX5_failed q610 (by decide) cl4_94 rfl rfl ⟨(Nat.le_of_ble_eq_true rfl), (Nat.le_of_ble_eq_true rfl)⟩ ⟨(Nat.le_of_ble_eq_true rfl), (Nat.le_of_ble_eq_true rfl)⟩ (Nat.le_of_ble_eq_true rfl) rfl dX5_readPhases_57 (fun r128 S128 H locs hp128 hQ _ => ?_)
              obtain ⟨rfl, b128, g128_0⟩ := hp128
              have q129 : fld (S_4 94) 7 = y4_94_7.toInt := fld_of cl4_94 rfl
              refine lv_if_eq (tgt := 66) hx hb dX5_readPhases_60 (by decide) (fun k130 => ?_) (fun k130 => ?_)
              · have h131 := ib_eq k130
                have b132 : Bd r128 (0) (0) := ⟨(b128).1, ((rf_eq b128 (by decide : Bd 0 (0) (0)) h131).1).2⟩
                have g133 := g128_0.resolve_left (by omega)
                clear g128_0
                have b134 : Bd y4_94_7 (0) (0) := ⟨by omega, by omega⟩
                refine lv_iload_n hx hb dX5_readPhases_66 rfl (lv_at hl 2 rfl) ?_
                refine lv_iload_n hx hb dX5_readPhases_67 rfl (lv_at hl 0 rfl) ?_
                refine lv_ior hx hb dX5_readPhases_68 ?_
                refine lv_topi (fun z135 e136 => ?_)
                refine lv_istore_n (lv' := [(1, .int z135), (3, .int 2), (2, .int x4_2), (0, .ref (ad 94))]) hx hb dX5_readPhases_69 rfl hl (by decide) rfl (fun ls hl => ?_)
                refine lv_aload_n hx hb dX5_readPhases_70 rfl (lv_at hl 3 rfl) ?_
                refine xcVv E hs hQ hml hl.1 94 (gX5_advance_94 l g ad hD S_4 hI ) mX5_advance q598 (by decide) cl4_94 rfl rfl ⟨(Nat.le_of_ble_eq_true rfl), (Nat.le_of_ble_eq_true rfl)⟩ ⟨(Nat.le_of_ble_eq_true rfl), (Nat.le_of_ble_eq_true rfl)⟩ (Nat.le_of_ble_eq_true rfl) rfl dX5_readPhases_71 (fun S137 H locs hp137 hQ _ => ?_)
                obtain ⟨hI, o137⟩ := hp137
                obtain ⟨z138, e139⟩ : ∃ z : Int32, z = x4_2 + 1 := ⟨_, rfl⟩
                have t140 := ib_add e139 b36 (by decide : Bd 1 (1) (1)) (by decide) (by decide)
                have b141 : Bd z138 (1) (1201) := ib_addb t140 b36 (by decide : Bd 1 (1) (1))
                have t140 : z138.toInt = x4_2.toInt + 1 := fold_add t140 rfl (by decide)
                refine lv_iinc (v := z138) (lv' := [(2, .int z138), (1, .int z135), (3, .int 2), (0, .ref (ad 94))]) hx hb dX5_readPhases_74 hl (k := 2) rfl (by rw [e139]; rfl) (by decide) rfl (fun ls hl => ?_)
                refine lv_goto (tgt := 4) hx hb dX5_readPhases_77 (by decide) ?_
                obtain ⟨v142, v144, v145, v147, v149, v150, v152, c153, b143, b146, b148, b151⟩ := invX_94 hI
                have c153 : S137 94 = .inr (5, [.ref (ad 1), .ref (ad 20), .int v142, .int v144, .int v145, .int v147, .int v149, .int v150, .int v152]) := c153
                exact ih4 _ _ _ _ z135 z138 v142 v144 v145 v147 v149 v150 v152 (ib_wk b141 (by decide) (by decide)) b143 b146 b148 b151 (by omega) hI (o_trans hf4 o137 (by decide)) c153 hQ (lv_sub hl [0, 1, 3] rfl)
              · have h154 := ib_ne k130
                have b155 : Bd r128 (1) (1) := rf_nlo b128 (by decide : Bd 0 (0) (0)) h154
                clear g128_0
                refine lv_goto (tgt := 80) hx hb dX5_readPhases_63 (by decide) ?_
                refine lv_iload_n hx hb dX5_readPhases_80 rfl (lv_at hl 2 rfl) ?_
                refine lv_if_ne (tgt := 89) hx hb dX5_readPhases_81 (by decide) (fun k156 => ?_) (fun k156 => ?_)
                · have h157 := ib_ne k156
                  refine lv_iload_n hx hb dX5_readPhases_89 rfl (lv_at hl 2 rfl) ?_
                  exact xri E hr hlk hQ (⟨hI, (o_trans o_refl hf4 (by decide))⟩) dX5_readPhases_90
                · have h158 := ib_eq k156
                  have b159 : Bd x4_1 (0) (0) := ⟨((rf_eq (ib_full x4_1) (by decide : Bd 0 (0) (0)) h158).1).1, ((rf_eq (ib_full x4_1) (by decide : Bd 0 (0) (0)) h158).1).2⟩
                  refine lv_aload_n hx hb dX5_readPhases_84 rfl (lv_at hl 3 rfl) ?_
                  refine lv_iconst (v := 1) hx hb dX5_readPhases_85 (by decide) ?_
                  refine xcVv E hs hQ hml hl.1 94 (gX5_fail_94 l g ad hD S_4 hI 1 (ib_wk (by decide : Bd 1 (1) (1)) (by decide) (by decide))) mX5_fail q679 (by decide) cl4_94 rfl rfl ⟨(Nat.le_of_ble_eq_true rfl), (Nat.le_of_ble_eq_true rfl)⟩ ⟨(Nat.le_of_ble_eq_true rfl), (Nat.le_of_ble_eq_true rfl)⟩ (Nat.le_of_ble_eq_true rfl) rfl dX5_readPhases_86 (fun S160 H locs hp160 hQ _ => ?_)
                  obtain ⟨hI, o160, g160_0⟩ := hp160
                  obtain ⟨v161, v163, v164, v166, v168, v169, v171, c172, b162, b165, b167, b170⟩ := invX_94 hI
                  have c172 : S160 94 = .inr (5, [.ref (ad 1), .ref (ad 20), .int v161, .int v163, .int v164, .int v166, .int v168, .int v169, .int v171]) := c172
                  have q173 : fld (S160 94) 7 = v169.toInt := fld_of c172 rfl
                  have b174 : Bd v169 (1) (3) := ⟨by omega, by omega⟩
                  refine lv_iload_n hx hb dX5_readPhases_89 rfl (lv_at hl 2 rfl) ?_
                  exact xri E hr hlk hQ (⟨hI, (o_trans (o_trans o_refl hf4 (by decide)) o160 (by decide))⟩) dX5_readPhases_90
        · have h175 := ib_ne k38
          have b176 : Bd r37 (1) (1) := rf_nlo b37 (by decide : Bd 0 (0) (0)) h175
          refine lv_iconst (v := 1) hx hb dX5_readPhases_20 (by decide) ?_
          refine lv_goto (tgt := 51) hx hb dX5_readPhases_21 (by decide) ?_
          refine lv_istore_n (lv' := [(3, .int 1), (2, .int x4_2), (1, .int x4_1), (0, .ref (ad 94))]) hx hb dX5_readPhases_51 rfl hl (by decide) rfl (fun ls hl => ?_)
          refine lv_iload_n hx hb dX5_readPhases_52 rfl (lv_at hl 0 rfl) ?_
          refine lv_if_eq (tgt := 80) hx hb dX5_readPhases_53 (by decide) (fun k177 => ?_) (fun k177 => ?_)
          · have h178 := ib_eq k177
            exact absurd h178 (by decide)
          · have h179 := ib_ne k177
            refine lv_aload_n hx hb dX5_readPhases_56 rfl (lv_at hl 3 rfl) ?_
            refine xcVi E hs hQ hml hl.1 94 (gX5_failed_94 l g ad hD S_4 hI ) mX5_failed q610 (by decide) cl4_94 rfl rfl ⟨(Nat.le_of_ble_eq_true rfl), (Nat.le_of_ble_eq_true rfl)⟩ ⟨(Nat.le_of_ble_eq_true rfl), (Nat.le_of_ble_eq_true rfl)⟩ (Nat.le_of_ble_eq_true rfl) rfl dX5_readPhases_57 (fun r180 S180 H locs hp180 hQ _ => ?_)
            obtain ⟨rfl, b180, g180_0⟩ := hp180
            have q181 : fld (S_4 94) 7 = y4_94_7.toInt := fld_of cl4_94 rfl
            refine lv_if_eq (tgt := 66) hx hb dX5_readPhases_60 (by decide) (fun k182 => ?_) (fun k182 => ?_)
            · have h183 := ib_eq k182
              have b184 : Bd r180 (0) (0) := ⟨(b180).1, ((rf_eq b180 (by decide : Bd 0 (0) (0)) h183).1).2⟩
              have g185 := g180_0.resolve_left (by omega)
              clear g180_0
              have b186 : Bd y4_94_7 (0) (0) := ⟨by omega, by omega⟩
              refine lv_iload_n hx hb dX5_readPhases_66 rfl (lv_at hl 2 rfl) ?_
              refine lv_iload_n hx hb dX5_readPhases_67 rfl (lv_at hl 0 rfl) ?_
              refine lv_ior hx hb dX5_readPhases_68 ?_
              refine lv_topi (fun z187 e188 => ?_)
              refine lv_istore_n (lv' := [(1, .int z187), (3, .int 1), (2, .int x4_2), (0, .ref (ad 94))]) hx hb dX5_readPhases_69 rfl hl (by decide) rfl (fun ls hl => ?_)
              refine lv_aload_n hx hb dX5_readPhases_70 rfl (lv_at hl 3 rfl) ?_
              refine xcVv E hs hQ hml hl.1 94 (gX5_advance_94 l g ad hD S_4 hI ) mX5_advance q598 (by decide) cl4_94 rfl rfl ⟨(Nat.le_of_ble_eq_true rfl), (Nat.le_of_ble_eq_true rfl)⟩ ⟨(Nat.le_of_ble_eq_true rfl), (Nat.le_of_ble_eq_true rfl)⟩ (Nat.le_of_ble_eq_true rfl) rfl dX5_readPhases_71 (fun S189 H locs hp189 hQ _ => ?_)
              obtain ⟨hI, o189⟩ := hp189
              obtain ⟨z190, e191⟩ : ∃ z : Int32, z = x4_2 + 1 := ⟨_, rfl⟩
              have t192 := ib_add e191 b36 (by decide : Bd 1 (1) (1)) (by decide) (by decide)
              have b193 : Bd z190 (1) (1201) := ib_addb t192 b36 (by decide : Bd 1 (1) (1))
              have t192 : z190.toInt = x4_2.toInt + 1 := fold_add t192 rfl (by decide)
              refine lv_iinc (v := z190) (lv' := [(2, .int z190), (1, .int z187), (3, .int 1), (0, .ref (ad 94))]) hx hb dX5_readPhases_74 hl (k := 2) rfl (by rw [e191]; rfl) (by decide) rfl (fun ls hl => ?_)
              refine lv_goto (tgt := 4) hx hb dX5_readPhases_77 (by decide) ?_
              obtain ⟨v194, v196, v197, v199, v201, v202, v204, c205, b195, b198, b200, b203⟩ := invX_94 hI
              have c205 : S189 94 = .inr (5, [.ref (ad 1), .ref (ad 20), .int v194, .int v196, .int v197, .int v199, .int v201, .int v202, .int v204]) := c205
              exact ih4 _ _ _ _ z187 z190 v194 v196 v197 v199 v201 v202 v204 (ib_wk b193 (by decide) (by decide)) b195 b198 b200 b203 (by omega) hI (o_trans hf4 o189 (by decide)) c205 hQ (lv_sub hl [0, 1, 3] rfl)
            · have h206 := ib_ne k182
              have b207 : Bd r180 (1) (1) := rf_nlo b180 (by decide : Bd 0 (0) (0)) h206
              clear g180_0
              refine lv_goto (tgt := 80) hx hb dX5_readPhases_63 (by decide) ?_
              refine lv_iload_n hx hb dX5_readPhases_80 rfl (lv_at hl 2 rfl) ?_
              refine lv_if_ne (tgt := 89) hx hb dX5_readPhases_81 (by decide) (fun k208 => ?_) (fun k208 => ?_)
              · have h209 := ib_ne k208
                refine lv_iload_n hx hb dX5_readPhases_89 rfl (lv_at hl 2 rfl) ?_
                exact xri E hr hlk hQ (⟨hI, (o_trans o_refl hf4 (by decide))⟩) dX5_readPhases_90
              · have h210 := ib_eq k208
                have b211 : Bd x4_1 (0) (0) := ⟨((rf_eq (ib_full x4_1) (by decide : Bd 0 (0) (0)) h210).1).1, ((rf_eq (ib_full x4_1) (by decide : Bd 0 (0) (0)) h210).1).2⟩
                refine lv_aload_n hx hb dX5_readPhases_84 rfl (lv_at hl 3 rfl) ?_
                refine lv_iconst (v := 1) hx hb dX5_readPhases_85 (by decide) ?_
                refine xcVv E hs hQ hml hl.1 94 (gX5_fail_94 l g ad hD S_4 hI 1 (ib_wk (by decide : Bd 1 (1) (1)) (by decide) (by decide))) mX5_fail q679 (by decide) cl4_94 rfl rfl ⟨(Nat.le_of_ble_eq_true rfl), (Nat.le_of_ble_eq_true rfl)⟩ ⟨(Nat.le_of_ble_eq_true rfl), (Nat.le_of_ble_eq_true rfl)⟩ (Nat.le_of_ble_eq_true rfl) rfl dX5_readPhases_86 (fun S212 H locs hp212 hQ _ => ?_)
                obtain ⟨hI, o212, g212_0⟩ := hp212
                obtain ⟨v213, v215, v216, v218, v220, v221, v223, c224, b214, b217, b219, b222⟩ := invX_94 hI
                have c224 : S212 94 = .inr (5, [.ref (ad 1), .ref (ad 20), .int v213, .int v215, .int v216, .int v218, .int v220, .int v221, .int v223]) := c224
                have q225 : fld (S212 94) 7 = v221.toInt := fld_of c224 rfl
                have b226 : Bd v221 (1) (3) := ⟨by omega, by omega⟩
                refine lv_iload_n hx hb dX5_readPhases_89 rfl (lv_at hl 2 rfl) ?_
                exact xri E hr hlk hQ (⟨hI, (o_trans (o_trans o_refl hf4 (by decide)) o212 (by decide))⟩) dX5_readPhases_90
  obtain ⟨n4, hn4⟩ := fu_n (1201)
  exact loop4 n4 _ _ _ _ 0 0 v1 v3 v4 v6 v8 v9 v11 (ib_wk (by decide : Bd 0 (0) (0)) (by decide) (by decide)) b2 b5 b7 b10 (by have : (0 : Int32).toInt = 0 := (by decide); omega) hI o_refl c12 hQ (lv_sub hl [0, 1, 2] rfl)
set_option maxHeartbeats 4000000 in
set_option maxRecDepth 100000 in
theorem gX5_readRule_94 (l : Launch) (g : GG) (tt : TT) (ad : Nat → Nat) (hD : Dj ad 122) (S : SS) (hI : InvX g ad S) : Met l yX5_readRule (wG (.code yX5_readRule cX5_readRule 4 none)) (Rm 6) (XPreT g tt ad 122 S [.ref (ad 94)]) (va_Qv (fun S' => InvX g ad S' ∧ (∀ j, j ∉ ([28, 29, 30, 31, 32, 94] : List Nat) → S' j = S j) ∧ (0 ≤ fld (S 20) 0 + (-1) * fld (S' 20) 0 ∧ 0 ≤ fld (S' 20) 0 + (-1) * fld (S 20) 0) ∧ (0 ≤ fld (S 20) 1 + (-1) * fld (S' 20) 1 ∧ 0 ≤ fld (S' 20) 1 + (-1) * fld (S 20) 1) ∧ (0 ≤ fld (S 20) 7 + (-1) * fld (S' 20) 7 ∧ 0 ≤ fld (S' 20) 7 + (-1) * fld (S 20) 7) ∧ (0 ≤ fld (S 20) 12 + (-1) * fld (S' 20) 12 ∧ 0 ≤ fld (S' 20) 12 + (-1) * fld (S 20) 12)) (QB g ad 122) (FA ad 122)) 0 0 (FA ad 122) := by
  refine xmetT cX5_readRule "EbbWreck$Reader" (by decide) rfl (Nat.le_of_ble_eq_true rfl) (fun p e s m below meth c E hT hr hlk hml hQ ls hl => ?_)
  have hx := E.1
  have hb := E.2.1
  have hs : Sp ad 122 (FA ad 122) := Sp.fa hD
  have hl : lv_has ls 4 [(0, .ref (ad 94))] := hl
  obtain ⟨v1, v3, v5, v6, v7, v9, c11, b2, b4, b8, b10⟩ := invX_20 hI
  have c11 : S 20 = .inr (1, [.int v1, .int v3, .int v5, .ref (ad 21), .ref (ad 23), .ref (ad 24), .int v6, .int v7, .ref (ad 25), .ref (ad 26), .ref (ad 27), .ref (ad 28), .int v9, .ref (ad 33), .ref (ad 34)]) := c11
  refine lv_aload_n hx hb dX5_readRule_0 rfl (lv_at hl 0 rfl) ?_
  obtain ⟨v12, v14, v15, v17, v19, v20, v22, c23, b13, b16, b18, b21⟩ := invX_94 hI
  have c23 : S 94 = .inr (5, [.ref (ad 1), .ref (ad 20), .int v12, .int v14, .int v15, .int v17, .int v19, .int v20, .int v22]) := c23
  refine xget E hQ 94 (by decide) c23 rfl 1 (by decide) q343 rfl dX5_readRule_1 ?_
  refine xget E hQ 20 (by decide) c11 rfl 11 (by decide) q292 rfl dX5_readRule_4 ?_
  obtain ⟨v24, c26, b25⟩ := invX_28 hI
  have c26 : S 28 = .inr (6, [.int v24, .ref (ad 29), .ref (ad 30), .ref (ad 31), .ref (ad 32)]) := c26
  refine xcVi E hs hQ hml hl.1 28 (gX6_isFull_28 l g ad hD S hI ) mX6_isFull q721 (by decide) c26 rfl rfl ⟨(Nat.le_of_ble_eq_true rfl), (Nat.le_of_ble_eq_true rfl)⟩ ⟨(Nat.le_of_ble_eq_true rfl), (Nat.le_of_ble_eq_true rfl)⟩ (Nat.le_of_ble_eq_true rfl) rfl dX5_readRule_7 (fun r27 S27 H locs hp27 hQ _ => ?_)
  obtain ⟨rfl, b27, g27_0⟩ := hp27
  have q28 : fld (S 28) 0 = v24.toInt := fld_of c26 rfl
  refine lv_if_eq (tgt := 19) hx hb dX5_readRule_10 (by decide) (fun k29 => ?_) (fun k29 => ?_)
  · have h30 := ib_eq k29
    have b31 : Bd r27 (0) (0) := ⟨(b27).1, ((rf_eq b27 (by decide : Bd 0 (0) (0)) h30).1).2⟩
    have g32 := g27_0.resolve_left (by omega)
    clear g27_0
    have b33 : Bd v24 (0) (5) := ⟨by omega, by omega⟩
    refine lv_aload_n hx hb dX5_readRule_19 rfl (lv_at hl 0 rfl) ?_
    refine xcVv E hs hQ hml hl.1 94 (gX5_advance_94 l g ad hD S hI ) mX5_advance q598 (by decide) c23 rfl rfl ⟨(Nat.le_of_ble_eq_true rfl), (Nat.le_of_ble_eq_true rfl)⟩ ⟨(Nat.le_of_ble_eq_true rfl), (Nat.le_of_ble_eq_true rfl)⟩ (Nat.le_of_ble_eq_true rfl) rfl dX5_readRule_20 (fun S34 H locs hp34 hQ _ => ?_)
    obtain ⟨hI, o34⟩ := hp34
    refine lv_aload_n hx hb dX5_readRule_23 rfl (lv_at hl 0 rfl) ?_
    refine lv_iconst (v := 0) hx hb dX5_readRule_24 (by decide) ?_
    refine lv_aload_n hx hb dX5_readRule_25 rfl (lv_at hl 0 rfl) ?_
    obtain ⟨v35, v37, v38, v40, v42, v43, v45, c46, b36, b39, b41, b44⟩ := invX_94 hI
    have c46 : S34 94 = .inr (5, [.ref (ad 1), .ref (ad 20), .int v35, .int v37, .int v38, .int v40, .int v42, .int v43, .int v45]) := c46
    refine xget E hQ 94 (by decide) c46 rfl 1 (by decide) q343 rfl dX5_readRule_26 ?_
    have c47 : S34 20 = .inr (1, [.int v1, .int v3, .int v5, .ref (ad 21), .ref (ad 23), .ref (ad 24), .int v6, .int v7, .ref (ad 25), .ref (ad 26), .ref (ad 27), .ref (ad 28), .int v9, .ref (ad 33), .ref (ad 34)]) := ((o34 20 (by decide)).trans c11)
    refine xget E hQ 20 (by decide) c47 rfl 1 (by decide) q245 rfl dX5_readRule_29 ?_
    refine lv_iconst (v := 1) hx hb dX5_readRule_32 (by decide) ?_
    refine lv_isub hx hb dX5_readRule_33 ?_
    refine lv_topi (fun z48 e49 => ?_)
    have t50 := ib_sub e49 b4 (by decide : Bd 1 (1) (1)) (by decide) (by decide)
    have b51 : Bd z48 (-1) (11) := ib_subb t50 b4 (by decide : Bd 1 (1) (1))
    have t50 : z48.toInt = v3.toInt - 1 := fold_sub t50 rfl (by decide)
    refine xcVi E hs hQ hml hl.1 94 (gX5_expectNumber_8 l g ad hD S34 hI 0 z48 (by decide : Bd 0 (0) (0)) b51) mX5_expectNumber q684 (by decide) c46 rfl rfl ⟨(Nat.le_of_ble_eq_true rfl), (Nat.le_of_ble_eq_true rfl)⟩ ⟨(Nat.le_of_ble_eq_true rfl), (Nat.le_of_ble_eq_true rfl)⟩ (Nat.le_of_ble_eq_true rfl) rfl dX5_readRule_34 (fun r52 S52 H locs hp52 hQ _ => ?_)
    obtain ⟨hI, o52, b52⟩ := hp52
    refine lv_istore_n (lv' := [(1, .int r52), (0, .ref (ad 94))]) hx hb dX5_readRule_37 rfl hl (by decide) rfl (fun ls hl => ?_)
    refine lv_aload_n hx hb dX5_readRule_38 rfl (lv_at hl 1 rfl) ?_
    refine va_ldcS hx hb E.2.2.1 (hT.2.2.2 15 (by decide) : vk_R "EbbWreck$Reader" 199 "to" (tt.1 15) s) dX5_readRule_39 ?_
    obtain ⟨v54, v56, v57, v59, v61, v62, v64, c65, b55, b58, b60, b63⟩ := invX_94 hI
    have c65 : S52 94 = .inr (5, [.ref (ad 1), .ref (ad 20), .int v54, .int v56, .int v57, .int v59, .int v61, .int v62, .int v64]) := c65
    refine xcVvT E hs hQ hml hl.1 hT 94 (gX5_expectWord_94 l g tt ad hD S52 hI 15 (by decide)) mX5_expectWord q623 (by decide) c65 rfl rfl ⟨(Nat.le_of_ble_eq_true rfl), (Nat.le_of_ble_eq_true rfl)⟩ ⟨(Nat.le_of_ble_eq_true rfl), (Nat.le_of_ble_eq_true rfl)⟩ (Nat.le_of_ble_eq_true rfl) rfl dX5_readRule_41 (fun S53 H locs hp53 hQ _ => ?_)
    obtain ⟨hI, o53⟩ := hp53
    refine lv_aload_n hx hb dX5_readRule_44 rfl (lv_at hl 1 rfl) ?_
    refine lv_iload_n hx hb dX5_readRule_45 rfl (lv_at hl 0 rfl) ?_
    refine lv_aload_n hx hb dX5_readRule_46 rfl (lv_at hl 1 rfl) ?_
    obtain ⟨v66, v68, v69, v71, v73, v74, v76, c77, b67, b70, b72, b75⟩ := invX_94 hI
    have c77 : S53 94 = .inr (5, [.ref (ad 1), .ref (ad 20), .int v66, .int v68, .int v69, .int v71, .int v73, .int v74, .int v76]) := c77
    refine xget E hQ 94 (by decide) c77 rfl 1 (by decide) q343 rfl dX5_readRule_47 ?_
    have c78 : S53 20 = .inr (1, [.int v1, .int v3, .int v5, .ref (ad 21), .ref (ad 23), .ref (ad 24), .int v6, .int v7, .ref (ad 25), .ref (ad 26), .ref (ad 27), .ref (ad 28), .int v9, .ref (ad 33), .ref (ad 34)]) := ((o53 20 (by decide)).trans ((o52 20 (by decide)).trans c47))
    refine xget E hQ 20 (by decide) c78 rfl 1 (by decide) q245 rfl dX5_readRule_50 ?_
    refine lv_iconst (v := 1) hx hb dX5_readRule_53 (by decide) ?_
    refine lv_isub hx hb dX5_readRule_54 ?_
    refine lv_topi (fun z79 e80 => ?_)
    have t81 := ib_sub e80 b4 (by decide : Bd 1 (1) (1)) (by decide) (by decide)
    have b82 : Bd z79 (-1) (11) := ib_subb t81 b4 (by decide : Bd 1 (1) (1))
    have t81 : z79.toInt = v3.toInt - 1 := fold_sub t81 rfl (by decide)
    refine xcVi E hs hQ hml hl.1 94 (gX5_expectNumber_9 l g ad hD S53 hI r52 z79 b52 b82) mX5_expectNumber q684 (by decide) c77 rfl rfl ⟨(Nat.le_of_ble_eq_true rfl), (Nat.le_of_ble_eq_true rfl)⟩ ⟨(Nat.le_of_ble_eq_true rfl), (Nat.le_of_ble_eq_true rfl)⟩ (Nat.le_of_ble_eq_true rfl) rfl dX5_readRule_55 (fun r83 S83 H locs hp83 hQ _ => ?_)
    obtain ⟨hI, o83, b83⟩ := hp83
    refine lv_istore_n (lv' := [(2, .int r83), (1, .int r52), (0, .ref (ad 94))]) hx hb dX5_readRule_58 rfl hl (by decide) rfl (fun ls hl => ?_)
    refine lv_aload_n hx hb dX5_readRule_59 rfl (lv_at hl 2 rfl) ?_
    refine va_ldcS hx hb E.2.2.1 (hT.2.2.2 16 (by decide) : vk_R "EbbWreck$Reader" 201 "on" (tt.1 16) s) dX5_readRule_60 ?_
    obtain ⟨v85, v87, v88, v90, v92, v93, v95, c96, b86, b89, b91, b94⟩ := invX_94 hI
    have c96 : S83 94 = .inr (5, [.ref (ad 1), .ref (ad 20), .int v85, .int v87, .int v88, .int v90, .int v92, .int v93, .int v95]) := c96
    refine xcVvT E hs hQ hml hl.1 hT 94 (gX5_expectWord_94 l g tt ad hD S83 hI 16 (by decide)) mX5_expectWord q623 (by decide) c96 rfl rfl ⟨(Nat.le_of_ble_eq_true rfl), (Nat.le_of_ble_eq_true rfl)⟩ ⟨(Nat.le_of_ble_eq_true rfl), (Nat.le_of_ble_eq_true rfl)⟩ (Nat.le_of_ble_eq_true rfl) rfl dX5_readRule_62 (fun S84 H locs hp84 hQ _ => ?_)
    obtain ⟨hI, o84⟩ := hp84
    refine lv_aload_n hx hb dX5_readRule_65 rfl (lv_at hl 2 rfl) ?_
    obtain ⟨v98, v100, v101, v103, v105, v106, v108, c109, b99, b102, b104, b107⟩ := invX_94 hI
    have c109 : S84 94 = .inr (5, [.ref (ad 1), .ref (ad 20), .int v98, .int v100, .int v101, .int v103, .int v105, .int v106, .int v108]) := c109
    refine xcViT E hs hQ hml hl.1 hT 94 (gX5_readPhases_94 l g tt ad hD S84 hI ) mX5_readPhases q727 (by decide) c109 rfl rfl ⟨(Nat.le_of_ble_eq_true rfl), (Nat.le_of_ble_eq_true rfl)⟩ ⟨(Nat.le_of_ble_eq_true rfl), (Nat.le_of_ble_eq_true rfl)⟩ (Nat.le_of_ble_eq_true rfl) rfl dX5_readRule_66 (fun r97 S97 H locs hp97 hQ _ => ?_)
    obtain ⟨hI, o97⟩ := hp97
    refine lv_istore_n (lv' := [(3, .int r97), (2, .int r83), (1, .int r52), (0, .ref (ad 94))]) hx hb dX5_readRule_69 rfl hl (by decide) rfl (fun ls hl => ?_)
    refine lv_aload_n hx hb dX5_readRule_70 rfl (lv_at hl 3 rfl) ?_
    refine va_ldcS hx hb E.2.2.1 (hT.2.2.2 15 (by decide) : vk_R "EbbWreck$Reader" 199 "to" (tt.1 15) s) dX5_readRule_71 ?_
    obtain ⟨v111, v113, v114, v116, v118, v119, v121, c122, b112, b115, b117, b120⟩ := invX_94 hI
    have c122 : S97 94 = .inr (5, [.ref (ad 1), .ref (ad 20), .int v111, .int v113, .int v114, .int v116, .int v118, .int v119, .int v121]) := c122
    refine xcVvT E hs hQ hml hl.1 hT 94 (gX5_expectWord_94 l g tt ad hD S97 hI 15 (by decide)) mX5_expectWord q623 (by decide) c122 rfl rfl ⟨(Nat.le_of_ble_eq_true rfl), (Nat.le_of_ble_eq_true rfl)⟩ ⟨(Nat.le_of_ble_eq_true rfl), (Nat.le_of_ble_eq_true rfl)⟩ (Nat.le_of_ble_eq_true rfl) rfl dX5_readRule_73 (fun S110 H locs hp110 hQ _ => ?_)
    obtain ⟨hI, o110⟩ := hp110
    refine lv_aload_n hx hb dX5_readRule_76 rfl (lv_at hl 3 rfl) ?_
    obtain ⟨v123, v125, v126, v128, v130, v131, v133, c134, b124, b127, b129, b132⟩ := invX_94 hI
    have c134 : S110 94 = .inr (5, [.ref (ad 1), .ref (ad 20), .int v123, .int v125, .int v126, .int v128, .int v130, .int v131, .int v133]) := c134
    refine xget E hQ 94 (by decide) c134 rfl 1 (by decide) q343 rfl dX5_readRule_77 ?_
    have c135 : S110 20 = .inr (1, [.int v1, .int v3, .int v5, .ref (ad 21), .ref (ad 23), .ref (ad 24), .int v6, .int v7, .ref (ad 25), .ref (ad 26), .ref (ad 27), .ref (ad 28), .int v9, .ref (ad 33), .ref (ad 34)]) := ((o110 20 (by decide)).trans ((o97 20 (by decide)).trans ((o84 20 (by decide)).trans ((o83 20 (by decide)).trans c78))))
    refine xget E hQ 20 (by decide) c135 rfl 11 (by decide) q292 rfl dX5_readRule_80 ?_
    refine lv_iload_n hx hb dX5_readRule_83 rfl (lv_at hl 2 rfl) ?_
    refine lv_iload_n hx hb dX5_readRule_84 rfl (lv_at hl 1 rfl) ?_
    refine lv_iload_n hx hb dX5_readRule_85 rfl (lv_at hl 0 rfl) ?_
    refine lv_aload_n hx hb dX5_readRule_86 rfl (lv_at hl 3 rfl) ?_
    refine lv_iconst (v := 0) hx hb dX5_readRule_87 (by decide) ?_
    refine lv_iconst (v := 5) hx hb dX5_readRule_88 (by decide) ?_
    refine xcVi E hs hQ hml hl.1 94 (gX5_expectNumber_7 l g ad hD S110 hI 0 5 (by decide : Bd 0 (0) (0)) (by decide : Bd 5 (5) (5))) mX5_expectNumber q684 (by decide) c134 rfl rfl ⟨(Nat.le_of_ble_eq_true rfl), (Nat.le_of_ble_eq_true rfl)⟩ ⟨(Nat.le_of_ble_eq_true rfl), (Nat.le_of_ble_eq_true rfl)⟩ (Nat.le_of_ble_eq_true rfl) rfl dX5_readRule_89 (fun r136 S136 H locs hp136 hQ _ => ?_)
    obtain ⟨hI, o136, b136⟩ := hp136
    have c138 : S136 28 = .inr (6, [.int v24, .ref (ad 29), .ref (ad 30), .ref (ad 31), .ref (ad 32)]) := ((o136 28 (by decide)).trans ((o110 28 (by decide)).trans ((o97 28 (by decide)).trans ((o84 28 (by decide)).trans ((o83 28 (by decide)).trans ((o53 28 (by decide)).trans ((o52 28 (by decide)).trans ((o34 28 (by decide)).trans c26))))))))
    refine xcVv E hs hQ hml hl.1 28 (gX6_addRule_28 l g ad hD S136 hI r52 r83 r97 r136) mX6_addRule q731 (by decide) c138 rfl rfl ⟨(Nat.le_of_ble_eq_true rfl), (Nat.le_of_ble_eq_true rfl)⟩ ⟨(Nat.le_of_ble_eq_true rfl), (Nat.le_of_ble_eq_true rfl)⟩ (Nat.le_of_ble_eq_true rfl) rfl dX5_readRule_92 (fun S137 H locs hp137 hQ _ => ?_)
    obtain ⟨hI, o137⟩ := hp137
    have q139 : fld (S 20) 0 = v1.toInt := fld_of c11 rfl
    have c140 : S137 20 = .inr (1, [.int v1, .int v3, .int v5, .ref (ad 21), .ref (ad 23), .ref (ad 24), .int v6, .int v7, .ref (ad 25), .ref (ad 26), .ref (ad 27), .ref (ad 28), .int v9, .ref (ad 33), .ref (ad 34)]) := ((o137 20 (by decide)).trans ((o136 20 (by decide)).trans c135))
    have q141 : fld (S137 20) 0 = v1.toInt := fld_of c140 rfl
    have q142 : fld (S 20) 1 = v3.toInt := fld_of c11 rfl
    have q143 : fld (S137 20) 1 = v3.toInt := fld_of c140 rfl
    have q144 : fld (S 20) 7 = v7.toInt := fld_of c11 rfl
    have q145 : fld (S137 20) 7 = v7.toInt := fld_of c140 rfl
    have q146 : fld (S 20) 12 = v9.toInt := fld_of c11 rfl
    have q147 : fld (S137 20) 12 = v9.toInt := fld_of c140 rfl
    exact xrv E hr hlk hQ (⟨hI, (o_trans (o_trans (o_trans (o_trans (o_trans (o_trans (o_trans (o_trans (o_trans o_refl o34 (by decide)) o52 (by decide)) o53 (by decide)) o83 (by decide)) o84 (by decide)) o97 (by decide)) o110 (by decide)) o136 (by decide)) o137 (by decide)), ⟨by omega, by omega⟩, ⟨by omega, by omega⟩, ⟨by omega, by omega⟩, ⟨by omega, by omega⟩⟩) dX5_readRule_95
  · have h148 := ib_ne k29
    have b149 : Bd r27 (1) (1) := rf_nlo b27 (by decide : Bd 0 (0) (0)) h148
    clear g27_0
    refine lv_aload_n hx hb dX5_readRule_13 rfl (lv_at hl 0 rfl) ?_
    refine lv_iconst (v := 3) hx hb dX5_readRule_14 (by decide) ?_
    refine xcVv E hs hQ hml hl.1 94 (gX5_fail_94 l g ad hD S hI 3 (ib_wk (by decide : Bd 3 (3) (3)) (by decide) (by decide))) mX5_fail q679 (by decide) c23 rfl rfl ⟨(Nat.le_of_ble_eq_true rfl), (Nat.le_of_ble_eq_true rfl)⟩ ⟨(Nat.le_of_ble_eq_true rfl), (Nat.le_of_ble_eq_true rfl)⟩ (Nat.le_of_ble_eq_true rfl) rfl dX5_readRule_15 (fun S150 H locs hp150 hQ _ => ?_)
    obtain ⟨hI, o150, g150_0⟩ := hp150
    obtain ⟨v151, v153, v154, v156, v158, v159, v161, c162, b152, b155, b157, b160⟩ := invX_94 hI
    have c162 : S150 94 = .inr (5, [.ref (ad 1), .ref (ad 20), .int v151, .int v153, .int v154, .int v156, .int v158, .int v159, .int v161]) := c162
    have q163 : fld (S150 94) 7 = v159.toInt := fld_of c162 rfl
    have b164 : Bd v159 (1) (3) := ⟨by omega, by omega⟩
    have q165 : fld (S 20) 0 = v1.toInt := fld_of c11 rfl
    have c166 : S150 20 = .inr (1, [.int v1, .int v3, .int v5, .ref (ad 21), .ref (ad 23), .ref (ad 24), .int v6, .int v7, .ref (ad 25), .ref (ad 26), .ref (ad 27), .ref (ad 28), .int v9, .ref (ad 33), .ref (ad 34)]) := ((o150 20 (by decide)).trans c11)
    have q167 : fld (S150 20) 0 = v1.toInt := fld_of c166 rfl
    have q168 : fld (S 20) 1 = v3.toInt := fld_of c11 rfl
    have q169 : fld (S150 20) 1 = v3.toInt := fld_of c166 rfl
    have q170 : fld (S 20) 7 = v7.toInt := fld_of c11 rfl
    have q171 : fld (S150 20) 7 = v7.toInt := fld_of c166 rfl
    have q172 : fld (S 20) 12 = v9.toInt := fld_of c11 rfl
    have q173 : fld (S150 20) 12 = v9.toInt := fld_of c166 rfl
    exact xrv E hr hlk hQ (⟨hI, (o_trans o_refl o150 (by decide)), ⟨by omega, by omega⟩, ⟨by omega, by omega⟩, ⟨by omega, by omega⟩, ⟨by omega, by omega⟩⟩) dX5_readRule_18
set_option maxHeartbeats 4000000 in
set_option maxRecDepth 100000 in
theorem gX5_readLine_94 (l : Launch) (g : GG) (tt : TT) (ad : Nat → Nat) (hD : Dj ad 122) (S : SS) (hI : InvX g ad S) (hq1 : 0 ≤ 1201 * fld (S 20) 1 + (-1) * fld (S 20) 0) (hq2 : 0 ≤ 8 * fld (S 20) 1 + (-1) * fld (S 20) 7) (hq3 : 0 ≤ 3 * fld (S 20) 1 + (-1) * fld (S 20) 12) : Met l yX5_readLine (wG (.code yX5_readLine cX5_readLine 1 none)) (Rm 7) (XPreT g tt ad 122 S [.ref (ad 94)]) (va_Qv (fun S' => InvX g ad S' ∧ (∀ j, j ∉ ([20, 21, 22, 23, 24, 25, 26, 27, 28, 29, 30, 31, 32, 33, 94] : List Nat) → S' j = S j) ∧ (0 ≤ fld (S' 20) 1 + (-1)) ∧ (0 ≤ fld (S 20) 0 + (-1) * fld (S' 20) 0 ∧ 0 ≤ fld (S' 20) 0 + (-1) * fld (S 20) 0)) (QB g ad 122) (FA ad 122)) 0 0 (FA ad 122) := by
  refine xmetT cX5_readLine "EbbWreck$Reader" (by decide) rfl (Nat.le_of_ble_eq_true rfl) (fun p e s m below meth c E hT hr hlk hml hQ ls hl => ?_)
  have hx := E.1
  have hb := E.2.1
  have hs : Sp ad 122 (FA ad 122) := Sp.fa hD
  have hl : lv_has ls 1 [(0, .ref (ad 94))] := hl
  obtain ⟨v1, v3, v5, v6, v7, v9, c11, b2, b4, b8, b10⟩ := invX_20 hI
  have c11 : S 20 = .inr (1, [.int v1, .int v3, .int v5, .ref (ad 21), .ref (ad 23), .ref (ad 24), .int v6, .int v7, .ref (ad 25), .ref (ad 26), .ref (ad 27), .ref (ad 28), .int v9, .ref (ad 33), .ref (ad 34)]) := c11
  have q12 : fld (S 20) 1 = v3.toInt := fld_of c11 rfl
  have q13 : fld (S 20) 0 = v1.toInt := fld_of c11 rfl
  have q14 : fld (S 20) 7 = v7.toInt := fld_of c11 rfl
  have q15 : fld (S 20) 12 = v9.toInt := fld_of c11 rfl
  refine lv_aload_n hx hb dX5_readLine_0 rfl (lv_at hl 0 rfl) ?_
  obtain ⟨v16, v18, v19, v21, v23, v24, v26, c27, b17, b20, b22, b25⟩ := invX_94 hI
  have c27 : S 94 = .inr (5, [.ref (ad 1), .ref (ad 20), .int v16, .int v18, .int v19, .int v21, .int v23, .int v24, .int v26]) := c27
  refine xget E hQ 94 (by decide) c27 rfl 1 (by decide) q343 rfl dX5_readLine_1 ?_
  refine xget E hQ 20 (by decide) c11 rfl 0 (by decide) q237 rfl dX5_readLine_4 ?_
  refine lv_if_ne (tgt := 17) hx hb dX5_readLine_7 (by decide) (fun k28 => ?_) (fun k28 => ?_)
  · have h29 := ib_ne k28
    have b30 : Bd v1 (1) (1201) := rf_nlo b2 (by decide : Bd 0 (0) (0)) h29
    refine lv_aload_n hx hb dX5_readLine_17 rfl (lv_at hl 0 rfl) ?_
    refine va_ldcS hx hb E.2.2.1 (hT.2.2.2 0 (by decide) : vk_R "EbbWreck$Reader" 99 "current" (tt.1 0) s) dX5_readLine_18 ?_
    refine xcViT E hs hQ hml hl.1 hT 94 (gX5_isWord_94 l g tt ad hD S hI 0 (by decide)) mX5_isWord q627 (by decide) c27 rfl rfl ⟨(Nat.le_of_ble_eq_true rfl), (Nat.le_of_ble_eq_true rfl)⟩ ⟨(Nat.le_of_ble_eq_true rfl), (Nat.le_of_ble_eq_true rfl)⟩ (Nat.le_of_ble_eq_true rfl) rfl dX5_readLine_20 (fun r31 S31 H locs hp31 hQ _ => ?_)
    obtain ⟨rfl, b31⟩ := hp31
    refine lv_if_eq (tgt := 33) hx hb dX5_readLine_23 (by decide) (fun k32 => ?_) (fun k32 => ?_)
    · have h33 := ib_eq k32
      have b34 : Bd r31 (0) (0) := ⟨(b31).1, ((rf_eq b31 (by decide : Bd 0 (0) (0)) h33).1).2⟩
      refine lv_aload_n hx hb dX5_readLine_33 rfl (lv_at hl 0 rfl) ?_
      refine va_ldcS hx hb E.2.2.1 (hT.2.2.2 1 (by decide) : vk_R "EbbWreck$Reader" 104 "beach" (tt.1 1) s) dX5_readLine_34 ?_
      refine xcViT E hs hQ hml hl.1 hT 94 (gX5_isWord_94 l g tt ad hD S hI 1 (by decide)) mX5_isWord q627 (by decide) c27 rfl rfl ⟨(Nat.le_of_ble_eq_true rfl), (Nat.le_of_ble_eq_true rfl)⟩ ⟨(Nat.le_of_ble_eq_true rfl), (Nat.le_of_ble_eq_true rfl)⟩ (Nat.le_of_ble_eq_true rfl) rfl dX5_readLine_36 (fun r35 S35 H locs hp35 hQ _ => ?_)
      obtain ⟨rfl, b35⟩ := hp35
      refine lv_if_eq (tgt := 49) hx hb dX5_readLine_39 (by decide) (fun k36 => ?_) (fun k36 => ?_)
      · have h37 := ib_eq k36
        have b38 : Bd r35 (0) (0) := ⟨(b35).1, ((rf_eq b35 (by decide : Bd 0 (0) (0)) h37).1).2⟩
        refine lv_aload_n hx hb dX5_readLine_49 rfl (lv_at hl 0 rfl) ?_
        refine va_ldcS hx hb E.2.2.1 (hT.2.2.2 2 (by decide) : vk_R "EbbWreck$Reader" 109 "thing" (tt.1 2) s) dX5_readLine_50 ?_
        refine xcViT E hs hQ hml hl.1 hT 94 (gX5_isWord_94 l g tt ad hD S hI 2 (by decide)) mX5_isWord q627 (by decide) c27 rfl rfl ⟨(Nat.le_of_ble_eq_true rfl), (Nat.le_of_ble_eq_true rfl)⟩ ⟨(Nat.le_of_ble_eq_true rfl), (Nat.le_of_ble_eq_true rfl)⟩ (Nat.le_of_ble_eq_true rfl) rfl dX5_readLine_52 (fun r39 S39 H locs hp39 hQ _ => ?_)
        obtain ⟨rfl, b39⟩ := hp39
        refine lv_if_eq (tgt := 65) hx hb dX5_readLine_55 (by decide) (fun k40 => ?_) (fun k40 => ?_)
        · have h41 := ib_eq k40
          have b42 : Bd r39 (0) (0) := ⟨(b39).1, ((rf_eq b39 (by decide : Bd 0 (0) (0)) h41).1).2⟩
          refine lv_aload_n hx hb dX5_readLine_65 rfl (lv_at hl 0 rfl) ?_
          refine va_ldcS hx hb E.2.2.1 (hT.2.2.2 3 (by decide) : vk_R "EbbWreck$Reader" 114 "rule" (tt.1 3) s) dX5_readLine_66 ?_
          refine xcViT E hs hQ hml hl.1 hT 94 (gX5_isWord_94 l g tt ad hD S hI 3 (by decide)) mX5_isWord q627 (by decide) c27 rfl rfl ⟨(Nat.le_of_ble_eq_true rfl), (Nat.le_of_ble_eq_true rfl)⟩ ⟨(Nat.le_of_ble_eq_true rfl), (Nat.le_of_ble_eq_true rfl)⟩ (Nat.le_of_ble_eq_true rfl) rfl dX5_readLine_68 (fun r43 S43 H locs hp43 hQ _ => ?_)
          obtain ⟨rfl, b43⟩ := hp43
          refine lv_if_eq (tgt := 81) hx hb dX5_readLine_71 (by decide) (fun k44 => ?_) (fun k44 => ?_)
          · have h45 := ib_eq k44
            have b46 : Bd r43 (0) (0) := ⟨(b43).1, ((rf_eq b43 (by decide : Bd 0 (0) (0)) h45).1).2⟩
            refine lv_aload_n hx hb dX5_readLine_81 rfl (lv_at hl 0 rfl) ?_
            refine va_ldcS hx hb E.2.2.1 (hT.2.2.2 4 (by decide) : vk_R "EbbWreck$Reader" 119 "sitter" (tt.1 4) s) dX5_readLine_82 ?_
            refine xcViT E hs hQ hml hl.1 hT 94 (gX5_isWord_94 l g tt ad hD S hI 4 (by decide)) mX5_isWord q627 (by decide) c27 rfl rfl ⟨(Nat.le_of_ble_eq_true rfl), (Nat.le_of_ble_eq_true rfl)⟩ ⟨(Nat.le_of_ble_eq_true rfl), (Nat.le_of_ble_eq_true rfl)⟩ (Nat.le_of_ble_eq_true rfl) rfl dX5_readLine_84 (fun r47 S47 H locs hp47 hQ _ => ?_)
            obtain ⟨rfl, b47⟩ := hp47
            refine lv_if_eq (tgt := 97) hx hb dX5_readLine_87 (by decide) (fun k48 => ?_) (fun k48 => ?_)
            · have h49 := ib_eq k48
              have b50 : Bd r47 (0) (0) := ⟨(b47).1, ((rf_eq b47 (by decide : Bd 0 (0) (0)) h49).1).2⟩
              refine lv_aload_n hx hb dX5_readLine_97 rfl (lv_at hl 0 rfl) ?_
              refine lv_iconst (v := 1) hx hb dX5_readLine_98 (by decide) ?_
              refine xcVv E hs hQ hml hl.1 94 (gX5_fail_94 l g ad hD S hI 1 (ib_wk (by decide : Bd 1 (1) (1)) (by decide) (by decide))) mX5_fail q679 (by decide) c27 rfl rfl ⟨(Nat.le_of_ble_eq_true rfl), (Nat.le_of_ble_eq_true rfl)⟩ ⟨(Nat.le_of_ble_eq_true rfl), (Nat.le_of_ble_eq_true rfl)⟩ (Nat.le_of_ble_eq_true rfl) rfl dX5_readLine_99 (fun S51 H locs hp51 hQ _ => ?_)
              obtain ⟨hI, o51, g51_0⟩ := hp51
              obtain ⟨v52, v54, v55, v57, v59, v60, v62, c63, b53, b56, b58, b61⟩ := invX_94 hI
              have c63 : S51 94 = .inr (5, [.ref (ad 1), .ref (ad 20), .int v52, .int v54, .int v55, .int v57, .int v59, .int v60, .int v62]) := c63
              have q64 : fld (S51 94) 7 = v60.toInt := fld_of c63 rfl
              have b65 : Bd v60 (1) (3) := ⟨by omega, by omega⟩
              have c66 : S51 20 = .inr (1, [.int v1, .int v3, .int v5, .ref (ad 21), .ref (ad 23), .ref (ad 24), .int v6, .int v7, .ref (ad 25), .ref (ad 26), .ref (ad 27), .ref (ad 28), .int v9, .ref (ad 33), .ref (ad 34)]) := ((o51 20 (by decide)).trans c11)
              have q67 : fld (S51 20) 1 = v3.toInt := fld_of c66 rfl
              have q68 : fld (S51 20) 0 = v1.toInt := fld_of c66 rfl
              exact xrv E hr hlk hQ (⟨hI, (o_trans o_refl o51 (by decide)), (by omega), ⟨by omega, by omega⟩⟩) dX5_readLine_102
            · have h69 := ib_ne k48
              have b70 : Bd r47 (1) (1) := rf_nlo b47 (by decide : Bd 0 (0) (0)) h69
              refine lv_aload_n hx hb dX5_readLine_90 rfl (lv_at hl 0 rfl) ?_
              refine xcVvT E hs hQ hml hl.1 hT 94 (gX5_readSitter_94 l g tt ad hD S hI (by omega)) mX5_readSitter q737 (by decide) c27 rfl rfl ⟨(Nat.le_of_ble_eq_true rfl), (Nat.le_of_ble_eq_true rfl)⟩ ⟨(Nat.le_of_ble_eq_true rfl), (Nat.le_of_ble_eq_true rfl)⟩ (Nat.le_of_ble_eq_true rfl) rfl dX5_readLine_91 (fun S71 H locs hp71 hQ _ => ?_)
              obtain ⟨hI, o71, g71_0, g71_1, g71_2⟩ := hp71
              obtain ⟨v72, v74, v76, v77, v78, v80, c82, b73, b75, b79, b81⟩ := invX_20 hI
              have c82 : S71 20 = .inr (1, [.int v72, .int v74, .int v76, .ref (ad 21), .ref (ad 23), .ref (ad 24), .int v77, .int v78, .ref (ad 25), .ref (ad 26), .ref (ad 27), .ref (ad 28), .int v80, .ref (ad 33), .ref (ad 34)]) := c82
              have q83 : fld (S71 20) 0 = v72.toInt := fld_of c82 rfl
              have b84 : Bd v72 (1) (1201) := ⟨by omega, by omega⟩
              have q85 : fld (S71 20) 1 = v74.toInt := fld_of c82 rfl
              have b86 : Bd v3 (1) (12) := ⟨by omega, by omega⟩
              have b87 : Bd v74 (1) (12) := ⟨by omega, by omega⟩
              have q88 : fld (S71 20) 7 = v78.toInt := fld_of c82 rfl
              refine lv_goto (tgt := 102) hx hb dX5_readLine_94 (by decide) ?_
              exact xrv E hr hlk hQ (⟨hI, (o_trans o_refl o71 (by decide)), (by omega), ⟨by omega, by omega⟩⟩) dX5_readLine_102
          · have h89 := ib_ne k44
            have b90 : Bd r43 (1) (1) := rf_nlo b43 (by decide : Bd 0 (0) (0)) h89
            refine lv_aload_n hx hb dX5_readLine_74 rfl (lv_at hl 0 rfl) ?_
            refine xcVvT E hs hQ hml hl.1 hT 94 (gX5_readRule_94 l g tt ad hD S hI ) mX5_readRule q717 (by decide) c27 rfl rfl ⟨(Nat.le_of_ble_eq_true rfl), (Nat.le_of_ble_eq_true rfl)⟩ ⟨(Nat.le_of_ble_eq_true rfl), (Nat.le_of_ble_eq_true rfl)⟩ (Nat.le_of_ble_eq_true rfl) rfl dX5_readLine_75 (fun S91 H locs hp91 hQ _ => ?_)
            obtain ⟨hI, o91, g91_0, g91_1, g91_2, g91_3⟩ := hp91
            have c92 : S91 20 = .inr (1, [.int v1, .int v3, .int v5, .ref (ad 21), .ref (ad 23), .ref (ad 24), .int v6, .int v7, .ref (ad 25), .ref (ad 26), .ref (ad 27), .ref (ad 28), .int v9, .ref (ad 33), .ref (ad 34)]) := ((o91 20 (by decide)).trans c11)
            have q93 : fld (S91 20) 0 = v1.toInt := fld_of c92 rfl
            have q94 : fld (S91 20) 1 = v3.toInt := fld_of c92 rfl
            have q95 : fld (S91 20) 7 = v7.toInt := fld_of c92 rfl
            have q96 : fld (S91 20) 12 = v9.toInt := fld_of c92 rfl
            refine lv_goto (tgt := 102) hx hb dX5_readLine_78 (by decide) ?_
            exact xrv E hr hlk hQ (⟨hI, (o_trans o_refl o91 (by decide)), (by omega), ⟨by omega, by omega⟩⟩) dX5_readLine_102
        · have h97 := ib_ne k40
          have b98 : Bd r39 (1) (1) := rf_nlo b39 (by decide : Bd 0 (0) (0)) h97
          refine lv_aload_n hx hb dX5_readLine_58 rfl (lv_at hl 0 rfl) ?_
          refine xcVvT E hs hQ hml hl.1 hT 94 (gX5_readThing_94 l g tt ad hD S hI (by omega)) mX5_readThing q709 (by decide) c27 rfl rfl ⟨(Nat.le_of_ble_eq_true rfl), (Nat.le_of_ble_eq_true rfl)⟩ ⟨(Nat.le_of_ble_eq_true rfl), (Nat.le_of_ble_eq_true rfl)⟩ (Nat.le_of_ble_eq_true rfl) rfl dX5_readLine_59 (fun S99 H locs hp99 hQ _ => ?_)
          obtain ⟨hI, o99, g99_0, g99_1, g99_2⟩ := hp99
          obtain ⟨v100, v102, v104, v105, v106, v108, c110, b101, b103, b107, b109⟩ := invX_20 hI
          have c110 : S99 20 = .inr (1, [.int v100, .int v102, .int v104, .ref (ad 21), .ref (ad 23), .ref (ad 24), .int v105, .int v106, .ref (ad 25), .ref (ad 26), .ref (ad 27), .ref (ad 28), .int v108, .ref (ad 33), .ref (ad 34)]) := c110
          have q111 : fld (S99 20) 0 = v100.toInt := fld_of c110 rfl
          have b112 : Bd v100 (1) (1201) := ⟨by omega, by omega⟩
          have q113 : fld (S99 20) 1 = v102.toInt := fld_of c110 rfl
          have b114 : Bd v102 (1) (12) := ⟨by omega, by omega⟩
          have b115 : Bd v3 (1) (12) := ⟨by omega, by omega⟩
          have q116 : fld (S99 20) 12 = v108.toInt := fld_of c110 rfl
          refine lv_goto (tgt := 102) hx hb dX5_readLine_62 (by decide) ?_
          exact xrv E hr hlk hQ (⟨hI, (o_trans o_refl o99 (by decide)), (by omega), ⟨by omega, by omega⟩⟩) dX5_readLine_102
      · have h117 := ib_ne k36
        have b118 : Bd r35 (1) (1) := rf_nlo b35 (by decide : Bd 0 (0) (0)) h117
        refine lv_aload_n hx hb dX5_readLine_42 rfl (lv_at hl 0 rfl) ?_
        refine xcVv E hs hQ hml hl.1 94 (gX5_readBeach_94 l g ad hD S hI ) mX5_readBeach q704 (by decide) c27 rfl rfl ⟨(Nat.le_of_ble_eq_true rfl), (Nat.le_of_ble_eq_true rfl)⟩ ⟨(Nat.le_of_ble_eq_true rfl), (Nat.le_of_ble_eq_true rfl)⟩ (Nat.le_of_ble_eq_true rfl) rfl dX5_readLine_43 (fun S119 H locs hp119 hQ _ => ?_)
        obtain ⟨hI, o119, g119_0, g119_1, g119_2, g119_3⟩ := hp119
        obtain ⟨v120, v122, v124, v125, v126, v128, c130, b121, b123, b127, b129⟩ := invX_20 hI
        have c130 : S119 20 = .inr (1, [.int v120, .int v122, .int v124, .ref (ad 21), .ref (ad 23), .ref (ad 24), .int v125, .int v126, .ref (ad 25), .ref (ad 26), .ref (ad 27), .ref (ad 28), .int v128, .ref (ad 33), .ref (ad 34)]) := c130
        have q131 : fld (S119 20) 0 = v120.toInt := fld_of c130 rfl
        have b132 : Bd v120 (1) (1201) := ⟨by omega, by omega⟩
        have q133 : fld (S119 20) 1 = v122.toInt := fld_of c130 rfl
        have b134 : Bd v122 (1) (12) := ⟨by omega, by omega⟩
        have b135 : Bd v3 (1) (12) := ⟨by omega, by omega⟩
        have q136 : fld (S119 20) 7 = v126.toInt := fld_of c130 rfl
        have q137 : fld (S119 20) 12 = v128.toInt := fld_of c130 rfl
        refine lv_goto (tgt := 102) hx hb dX5_readLine_46 (by decide) ?_
        exact xrv E hr hlk hQ (⟨hI, (o_trans o_refl o119 (by decide)), (by omega), ⟨by omega, by omega⟩⟩) dX5_readLine_102
    · have h138 := ib_ne k32
      have b139 : Bd r31 (1) (1) := rf_nlo b31 (by decide : Bd 0 (0) (0)) h138
      refine lv_aload_n hx hb dX5_readLine_26 rfl (lv_at hl 0 rfl) ?_
      refine xcVvT E hs hQ hml hl.1 hT 94 (gX5_readCurrent_94 l g tt ad hD S hI ) mX5_readCurrent q694 (by decide) c27 rfl rfl ⟨(Nat.le_of_ble_eq_true rfl), (Nat.le_of_ble_eq_true rfl)⟩ ⟨(Nat.le_of_ble_eq_true rfl), (Nat.le_of_ble_eq_true rfl)⟩ (Nat.le_of_ble_eq_true rfl) rfl dX5_readLine_27 (fun S140 H locs hp140 hQ _ => ?_)
      obtain ⟨hI, o140, g140_0, g140_1, g140_2, g140_3⟩ := hp140
      have c141 : S140 20 = .inr (1, [.int v1, .int v3, .int v5, .ref (ad 21), .ref (ad 23), .ref (ad 24), .int v6, .int v7, .ref (ad 25), .ref (ad 26), .ref (ad 27), .ref (ad 28), .int v9, .ref (ad 33), .ref (ad 34)]) := ((o140 20 (by decide)).trans c11)
      have q142 : fld (S140 20) 0 = v1.toInt := fld_of c141 rfl
      have q143 : fld (S140 20) 1 = v3.toInt := fld_of c141 rfl
      have q144 : fld (S140 20) 7 = v7.toInt := fld_of c141 rfl
      have q145 : fld (S140 20) 12 = v9.toInt := fld_of c141 rfl
      refine lv_goto (tgt := 102) hx hb dX5_readLine_30 (by decide) ?_
      exact xrv E hr hlk hQ (⟨hI, (o_trans o_refl o140 (by decide)), (by omega), ⟨by omega, by omega⟩⟩) dX5_readLine_102
  · have h146 := ib_eq k28
    have b147 : Bd v1 (0) (0) := ⟨(b2).1, ((rf_eq b2 (by decide : Bd 0 (0) (0)) h146).1).2⟩
    refine lv_aload_n hx hb dX5_readLine_10 rfl (lv_at hl 0 rfl) ?_
    refine xcVvT E hs hQ hml hl.1 hT 94 (gX5_readShore_94 l g tt ad hD S hI ) mX5_readShore q618 (by decide) c27 rfl rfl ⟨(Nat.le_of_ble_eq_true rfl), (Nat.le_of_ble_eq_true rfl)⟩ ⟨(Nat.le_of_ble_eq_true rfl), (Nat.le_of_ble_eq_true rfl)⟩ (Nat.le_of_ble_eq_true rfl) rfl dX5_readLine_11 (fun S148 H locs hp148 hQ _ => ?_)
    obtain ⟨hI, o148, g148_0, g148_1, g148_2, g148_3⟩ := hp148
    obtain ⟨v149, v151, v153, v154, v155, v157, c159, b150, b152, b156, b158⟩ := invX_20 hI
    have c159 : S148 20 = .inr (1, [.int v149, .int v151, .int v153, .ref (ad 21), .ref (ad 23), .ref (ad 24), .int v154, .int v155, .ref (ad 25), .ref (ad 26), .ref (ad 27), .ref (ad 28), .int v157, .ref (ad 33), .ref (ad 34)]) := c159
    have q160 : fld (S148 20) 1 = v151.toInt := fld_of c159 rfl
    have b161 : Bd v151 (3) (12) := ⟨by omega, by omega⟩
    have q162 : fld (S148 20) 0 = v149.toInt := fld_of c159 rfl
    have b163 : Bd v149 (0) (0) := ⟨by omega, by omega⟩
    have q164 : fld (S148 20) 7 = v155.toInt := fld_of c159 rfl
    have q165 : fld (S148 20) 12 = v157.toInt := fld_of c159 rfl
    refine lv_goto (tgt := 102) hx hb dX5_readLine_14 (by decide) ?_
    exact xrv E hr hlk hQ (⟨hI, (o_trans o_refl o148 (by decide)), (by omega), ⟨by omega, by omega⟩⟩) dX5_readLine_102
set_option maxHeartbeats 4000000 in
set_option maxRecDepth 100000 in
theorem gX1_clear_20 (l : Launch) (g : GG) (ad : Nat → Nat) (hD : Dj ad 122) (S : SS) (hI : InvX g ad S) : Met l yX1_clear (wG (.code yX1_clear cX1_clear 1 none)) (Rm 2) (XPre g ad 122 S [.ref (ad 20)]) (va_Qv (fun S' => InvX g ad S' ∧ (∀ j, j ∉ ([20, 21, 22, 23, 24, 28, 34] : List Nat) → S' j = S j) ∧ (0 ≤ (-1) * fld (S' 20) 0 ∧ 0 ≤ fld (S' 20) 0) ∧ (0 ≤ (-1) * fld (S' 20) 1 ∧ 0 ≤ fld (S' 20) 1) ∧ (0 ≤ (-1) * fld (S' 20) 7 ∧ 0 ≤ fld (S' 20) 7) ∧ (0 ≤ (-1) * fld (S' 20) 12 ∧ 0 ≤ fld (S' 20) 12) ∧ (0 ≤ (-1) * fld (S' 34) 0 ∧ 0 ≤ fld (S' 34) 0)) (QB g ad 122) (FA ad 122)) 0 0 (FA ad 122) := by
  refine xmet cX1_clear "EbbWreck$Coast" (by decide) rfl (Nat.le_of_ble_eq_true rfl) (fun p e s m below meth c E hr hlk hml hQ ls hl => ?_)
  have hx := E.1
  have hb := E.2.1
  have hs : Sp ad 122 (FA ad 122) := Sp.fa hD
  have hl : lv_has ls 1 [(0, .ref (ad 20))] := hl
  obtain ⟨v1, v3, v5, v6, v7, v9, c11, b2, b4, b8, b10⟩ := invX_20 hI
  have c11 : S 20 = .inr (1, [.int v1, .int v3, .int v5, .ref (ad 21), .ref (ad 23), .ref (ad 24), .int v6, .int v7, .ref (ad 25), .ref (ad 26), .ref (ad 27), .ref (ad 28), .int v9, .ref (ad 33), .ref (ad 34)]) := c11
  obtain ⟨v12, c14, b13⟩ := invX_34 hI
  have c14 : S 34 = .inr (0, [.int v12, .ref (ad 35), .ref (ad 36), .ref (ad 37)]) := c14
  refine lv_aload_n hx hb dX1_clear_0 rfl (lv_at hl 0 rfl) ?_
  refine lv_iconst (v := 0) hx hb dX1_clear_1 (by decide) ?_
  refine xputi E hs hQ 20 (by decide) c11 rfl 0 (by decide) q236 rfl rfl (Nat.le_of_ble_eq_true rfl) dX1_clear_2 (fun H locs S15 eS15 hQ => ?_)
  have hI := invX_up_20 hI eS15 ⟨0, v3, v5, v6, v7, v9, rfl, (ib_wk (by decide : Bd 0 (0) (0)) (by decide) (by decide)), b4, b8, b10⟩
  have c16 : S15 20 = .inr (1, [.int 0, .int v3, .int v5, .ref (ad 21), .ref (ad 23), .ref (ad 24), .int v6, .int v7, .ref (ad 25), .ref (ad 26), .ref (ad 27), .ref (ad 28), .int v9, .ref (ad 33), .ref (ad 34)]) := up_at eS15 rfl
  refine lv_aload_n hx hb dX1_clear_5 rfl (lv_at hl 0 rfl) ?_
  refine lv_iconst (v := 0) hx hb dX1_clear_6 (by decide) ?_
  refine xputi E hs hQ 20 (by decide) c16 rfl 1 (by decide) q239 rfl rfl (Nat.le_of_ble_eq_true rfl) dX1_clear_7 (fun H locs S17 eS17 hQ => ?_)
  have hI := invX_up_20 hI eS17 ⟨0, 0, v5, v6, v7, v9, rfl, (ib_wk (by decide : Bd 0 (0) (0)) (by decide) (by decide)), (ib_wk (by decide : Bd 0 (0) (0)) (by decide) (by decide)), b8, b10⟩
  have c18 : S17 20 = .inr (1, [.int 0, .int 0, .int v5, .ref (ad 21), .ref (ad 23), .ref (ad 24), .int v6, .int v7, .ref (ad 25), .ref (ad 26), .ref (ad 27), .ref (ad 28), .int v9, .ref (ad 33), .ref (ad 34)]) := up_at eS17 rfl
  refine lv_aload_n hx hb dX1_clear_10 rfl (lv_at hl 0 rfl) ?_
  refine lv_iconst (v := 0) hx hb dX1_clear_11 (by decide) ?_
  refine xputi E hs hQ 20 (by decide) c18 rfl 2 (by decide) q247 rfl rfl (Nat.le_of_ble_eq_true rfl) dX1_clear_12 (fun H locs S19 eS19 hQ => ?_)
  have hI := invX_up_20 hI eS19 ⟨0, 0, 0, v6, v7, v9, rfl, (ib_wk (by decide : Bd 0 (0) (0)) (by decide) (by decide)), (ib_wk (by decide : Bd 0 (0) (0)) (by decide) (by decide)), b8, b10⟩
  have c20 : S19 20 = .inr (1, [.int 0, .int 0, .int 0, .ref (ad 21), .ref (ad 23), .ref (ad 24), .int v6, .int v7, .ref (ad 25), .ref (ad 26), .ref (ad 27), .ref (ad 28), .int v9, .ref (ad 33), .ref (ad 34)]) := up_at eS19 rfl
  refine lv_aload_n hx hb dX1_clear_15 rfl (lv_at hl 0 rfl) ?_
  refine xget E hQ 20 (by decide) c20 rfl 3 (by decide) q251 rfl dX1_clear_16 ?_
  refine lv_iconst (v := 0) hx hb dX1_clear_19 (by decide) ?_
  refine lv_iconst (v := 0) hx hb dX1_clear_20 (by decide) ?_
  refine lv_iconst (v := 0) hx hb dX1_clear_21 (by decide) ?_
  obtain ⟨v22, v24, v26, v28, c30, b23, b25, b27, b29⟩ := invX_21 hI
  have c30 : S19 21 = .inr (10, [.int v22, .int v24, .int v26, .int v28, .ref (ad 22)]) := c30
  refine xcVv E hs hQ hml hl.1 21 (gX10_tell_21 l g ad hD S19 hI 0 0 0 (ib_wk (by decide : Bd 0 (0) (0)) (by decide) (by decide)) (ib_wk (by decide : Bd 0 (0) (0)) (by decide) (by decide)) (ib_wk (by decide : Bd 0 (0) (0)) (by decide) (by decide))) mX10_tell q592 (by decide) c30 rfl rfl ⟨(Nat.le_of_ble_eq_true rfl), (Nat.le_of_ble_eq_true rfl)⟩ ⟨(Nat.le_of_ble_eq_true rfl), (Nat.le_of_ble_eq_true rfl)⟩ (Nat.le_of_ble_eq_true rfl) rfl dX1_clear_22 (fun S21 H locs hp21 hQ _ => ?_)
  obtain ⟨hI, o21⟩ := hp21
  refine lv_aload_n hx hb dX1_clear_25 rfl (lv_at hl 0 rfl) ?_
  have c31 : S21 20 = .inr (1, [.int 0, .int 0, .int 0, .ref (ad 21), .ref (ad 23), .ref (ad 24), .int v6, .int v7, .ref (ad 25), .ref (ad 26), .ref (ad 27), .ref (ad 28), .int v9, .ref (ad 33), .ref (ad 34)]) := ((o21 20 (by decide)).trans c20)
  refine xget E hQ 20 (by decide) c31 rfl 4 (by decide) q257 rfl dX1_clear_26 ?_
  refine lv_iconst (v := 0) hx hb dX1_clear_29 (by decide) ?_
  obtain ⟨f32, c33⟩ := invX_23 hI
  refine xcSv E hs hQ hml hl.1 (uFillI l g ad 122 hD S21 23 (by decide) 12 (by decide) f32 0 c33) mJ7_fill_53178 q597 rfl ⟨(Nat.le_of_ble_eq_true rfl), (Nat.le_of_ble_eq_true rfl)⟩ ⟨(Nat.le_of_ble_eq_true rfl), (Nat.le_of_ble_eq_true rfl)⟩ (Nat.le_of_ble_eq_true rfl) rfl dX1_clear_30 (fun S35 H locs eS35 hQ => ?_)
  have hI := invX_up_23 hI eS35 ⟨_, rfl⟩
  have c36 : S35 23 = .inl (g.2 0, 12, .inl (fillF 0 12 f32)) := up_at eS35 rfl
  refine lv_aload_n hx hb dX1_clear_33 rfl (lv_at hl 0 rfl) ?_
  have c37 : S35 20 = .inr (1, [.int 0, .int 0, .int 0, .ref (ad 21), .ref (ad 23), .ref (ad 24), .int v6, .int v7, .ref (ad 25), .ref (ad 26), .ref (ad 27), .ref (ad 28), .int v9, .ref (ad 33), .ref (ad 34)]) := (up_ne eS35 (by decide) c31)
  refine xget E hQ 20 (by decide) c37 rfl 5 (by decide) q260 rfl dX1_clear_34 ?_
  refine lv_iconst (v := 0) hx hb dX1_clear_37 (by decide) ?_
  obtain ⟨f38, c39⟩ := invX_24 hI
  refine xcSv E hs hQ hml hl.1 (uFillI l g ad 122 hD S35 24 (by decide) 12 (by decide) f38 0 c39) mJ7_fill_53178 q597 rfl ⟨(Nat.le_of_ble_eq_true rfl), (Nat.le_of_ble_eq_true rfl)⟩ ⟨(Nat.le_of_ble_eq_true rfl), (Nat.le_of_ble_eq_true rfl)⟩ (Nat.le_of_ble_eq_true rfl) rfl dX1_clear_38 (fun S41 H locs eS41 hQ => ?_)
  have hI := invX_up_24 hI eS41 ⟨_, rfl⟩
  have c42 : S41 24 = .inl (g.2 0, 12, .inl (fillF 0 12 f38)) := up_at eS41 rfl
  refine lv_aload_n hx hb dX1_clear_41 rfl (lv_at hl 0 rfl) ?_
  refine lv_iconst (v := 0) hx hb dX1_clear_42 (by decide) ?_
  have c43 : S41 20 = .inr (1, [.int 0, .int 0, .int 0, .ref (ad 21), .ref (ad 23), .ref (ad 24), .int v6, .int v7, .ref (ad 25), .ref (ad 26), .ref (ad 27), .ref (ad 28), .int v9, .ref (ad 33), .ref (ad 34)]) := (up_ne eS41 (by decide) c37)
  refine xputi E hs hQ 20 (by decide) c43 rfl 6 (by decide) q263 rfl rfl (Nat.le_of_ble_eq_true rfl) dX1_clear_43 (fun H locs S44 eS44 hQ => ?_)
  have hI := invX_up_20 hI eS44 ⟨0, 0, 0, 0, v7, v9, rfl, (ib_wk (by decide : Bd 0 (0) (0)) (by decide) (by decide)), (ib_wk (by decide : Bd 0 (0) (0)) (by decide) (by decide)), b8, b10⟩
  have c45 : S44 20 = .inr (1, [.int 0, .int 0, .int 0, .ref (ad 21), .ref (ad 23), .ref (ad 24), .int 0, .int v7, .ref (ad 25), .ref (ad 26), .ref (ad 27), .ref (ad 28), .int v9, .ref (ad 33), .ref (ad 34)]) := up_at eS44 rfl
  refine lv_aload_n hx hb dX1_clear_46 rfl (lv_at hl 0 rfl) ?_
  refine lv_iconst (v := 0) hx hb dX1_clear_47 (by decide) ?_
  refine xputi E hs hQ 20 (by decide) c45 rfl 7 (by decide) q270 rfl rfl (Nat.le_of_ble_eq_true rfl) dX1_clear_48 (fun H locs S46 eS46 hQ => ?_)
  have hI := invX_up_20 hI eS46 ⟨0, 0, 0, 0, 0, v9, rfl, (ib_wk (by decide : Bd 0 (0) (0)) (by decide) (by decide)), (ib_wk (by decide : Bd 0 (0) (0)) (by decide) (by decide)), (ib_wk (by decide : Bd 0 (0) (0)) (by decide) (by decide)), b10⟩
  have c47 : S46 20 = .inr (1, [.int 0, .int 0, .int 0, .ref (ad 21), .ref (ad 23), .ref (ad 24), .int 0, .int 0, .ref (ad 25), .ref (ad 26), .ref (ad 27), .ref (ad 28), .int v9, .ref (ad 33), .ref (ad 34)]) := up_at eS46 rfl
  refine lv_aload_n hx hb dX1_clear_51 rfl (lv_at hl 0 rfl) ?_
  refine xget E hQ 20 (by decide) c47 rfl 11 (by decide) q289 rfl dX1_clear_52 ?_
  refine lv_iconst (v := 0) hx hb dX1_clear_55 (by decide) ?_
  obtain ⟨v48, c50, b49⟩ := invX_28 hI
  have c50 : S46 28 = .inr (6, [.int v48, .ref (ad 29), .ref (ad 30), .ref (ad 31), .ref (ad 32)]) := c50
  refine xputi E hs hQ 28 (by decide) c50 rfl 0 (by decide) q187 rfl rfl (Nat.le_of_ble_eq_true rfl) dX1_clear_56 (fun H locs S51 eS51 hQ => ?_)
  have hI := invX_up_28 hI eS51 ⟨0, rfl, (ib_wk (by decide : Bd 0 (0) (0)) (by decide) (by decide))⟩
  have c52 : S51 28 = .inr (6, [.int 0, .ref (ad 29), .ref (ad 30), .ref (ad 31), .ref (ad 32)]) := up_at eS51 rfl
  refine lv_aload_n hx hb dX1_clear_59 rfl (lv_at hl 0 rfl) ?_
  refine lv_iconst (v := 0) hx hb dX1_clear_60 (by decide) ?_
  have c53 : S51 20 = .inr (1, [.int 0, .int 0, .int 0, .ref (ad 21), .ref (ad 23), .ref (ad 24), .int 0, .int 0, .ref (ad 25), .ref (ad 26), .ref (ad 27), .ref (ad 28), .int v9, .ref (ad 33), .ref (ad 34)]) := (up_ne eS51 (by decide) c47)
  refine xputi E hs hQ 20 (by decide) c53 rfl 12 (by decide) q293 rfl rfl (Nat.le_of_ble_eq_true rfl) dX1_clear_61 (fun H locs S54 eS54 hQ => ?_)
  have hI := invX_up_20 hI eS54 ⟨0, 0, 0, 0, 0, 0, rfl, (ib_wk (by decide : Bd 0 (0) (0)) (by decide) (by decide)), (ib_wk (by decide : Bd 0 (0) (0)) (by decide) (by decide)), (ib_wk (by decide : Bd 0 (0) (0)) (by decide) (by decide)), (ib_wk (by decide : Bd 0 (0) (0)) (by decide) (by decide))⟩
  have c55 : S54 20 = .inr (1, [.int 0, .int 0, .int 0, .ref (ad 21), .ref (ad 23), .ref (ad 24), .int 0, .int 0, .ref (ad 25), .ref (ad 26), .ref (ad 27), .ref (ad 28), .int 0, .ref (ad 33), .ref (ad 34)]) := up_at eS54 rfl
  refine lv_aload_n hx hb dX1_clear_64 rfl (lv_at hl 0 rfl) ?_
  refine xget E hQ 20 (by decide) c55 rfl 14 (by decide) q301 rfl dX1_clear_65 ?_
  refine lv_iconst (v := 0) hx hb dX1_clear_68 (by decide) ?_
  have c56 : S54 34 = .inr (0, [.int v12, .ref (ad 35), .ref (ad 36), .ref (ad 37)]) := (up_ne eS54 (by decide) (up_ne eS51 (by decide) (up_ne eS46 (by decide) (up_ne eS44 (by decide) (up_ne eS41 (by decide) (up_ne eS35 (by decide) ((o21 34 (by decide)).trans (up_ne eS19 (by decide) (up_ne eS17 (by decide) (up_ne eS15 (by decide) c14))))))))))
  refine xputi E hs hQ 34 (by decide) c56 rfl 0 (by decide) q216 rfl rfl (Nat.le_of_ble_eq_true rfl) dX1_clear_69 (fun H locs S57 eS57 hQ => ?_)
  have hI := invX_up_34 hI eS57 ⟨0, rfl, (ib_wk (by decide : Bd 0 (0) (0)) (by decide) (by decide))⟩
  have c58 : S57 34 = .inr (0, [.int 0, .ref (ad 35), .ref (ad 36), .ref (ad 37)]) := up_at eS57 rfl
  have c59 : S57 20 = .inr (1, [.int 0, .int 0, .int 0, .ref (ad 21), .ref (ad 23), .ref (ad 24), .int 0, .int 0, .ref (ad 25), .ref (ad 26), .ref (ad 27), .ref (ad 28), .int 0, .ref (ad 33), .ref (ad 34)]) := (up_ne eS57 (by decide) c55)
  have q60 : fld (S57 20) 0 = (0 : Int32).toInt := fld_of c59 rfl
  have q60 : fld (S57 20) 0 = 0 := q60.trans (by decide)
  have q61 : fld (S57 20) 1 = (0 : Int32).toInt := fld_of c59 rfl
  have q61 : fld (S57 20) 1 = 0 := q61.trans (by decide)
  have q62 : fld (S57 20) 7 = (0 : Int32).toInt := fld_of c59 rfl
  have q62 : fld (S57 20) 7 = 0 := q62.trans (by decide)
  have q63 : fld (S57 20) 12 = (0 : Int32).toInt := fld_of c59 rfl
  have q63 : fld (S57 20) 12 = 0 := q63.trans (by decide)
  have q64 : fld (S57 34) 0 = (0 : Int32).toInt := fld_of c58 rfl
  have q64 : fld (S57 34) 0 = 0 := q64.trans (by decide)
  exact xrv E hr hlk hQ (⟨hI, (up_o (up_o (up_o (up_o (up_o (up_o (up_o (o_trans (up_o (up_o (up_o o_refl eS15 (by decide)) eS17 (by decide)) eS19 (by decide)) o21 (by decide)) eS35 (by decide)) eS41 (by decide)) eS44 (by decide)) eS46 (by decide)) eS51 (by decide)) eS54 (by decide)) eS57 (by decide)), ⟨by omega, by omega⟩, ⟨by omega, by omega⟩, ⟨by omega, by omega⟩, ⟨by omega, by omega⟩, ⟨by omega, by omega⟩⟩) dX1_clear_72
set_option maxHeartbeats 4000000 in
set_option maxRecDepth 100000 in
theorem gX5_read_94 (l : Launch) (g : GG) (tt : TT) (ad : Nat → Nat) (hD : Dj ad 122) (S : SS) (hI : InvX g ad S) (a1 : Int32) : Met l yX5_read (wG (.code yX5_read cX5_read 3 none)) (Rm 8) (XPreT g tt ad 122 S [.ref (ad 94), .int a1]) (va_Qv (fun S' => InvX g ad S' ∧ (∀ j, j ∉ ([20, 21, 22, 23, 24, 25, 26, 27, 28, 29, 30, 31, 32, 33, 34, 94] : List Nat) → S' j = S j) ∧ (0 ≤ 1201 * fld (S' 20) 1 + (-1) * fld (S' 20) 0) ∧ (0 ≤ 8 * fld (S' 20) 1 + (-1) * fld (S' 20) 7) ∧ (0 ≤ 3 * fld (S' 20) 1 + (-1) * fld (S' 20) 12) ∧ (0 ≤ (-1) * fld (S' 34) 0 ∧ 0 ≤ fld (S' 34) 0)) (QB g ad 122) (FA ad 122)) 0 0 (FA ad 122) := by
  refine xmetT cX5_read "EbbWreck$Reader" (by decide) rfl (Nat.le_of_ble_eq_true rfl) (fun p e s m below meth c E hT hr hlk hml hQ ls hl => ?_)
  have hx := E.1
  have hb := E.2.1
  have hs : Sp ad 122 (FA ad 122) := Sp.fa hD
  have hl : lv_has ls 3 [(0, .ref (ad 94)), (1, .int a1)] := hl
  obtain ⟨v1, v3, v5, v6, v7, v9, c11, b2, b4, b8, b10⟩ := invX_20 hI
  have c11 : S 20 = .inr (1, [.int v1, .int v3, .int v5, .ref (ad 21), .ref (ad 23), .ref (ad 24), .int v6, .int v7, .ref (ad 25), .ref (ad 26), .ref (ad 27), .ref (ad 28), .int v9, .ref (ad 33), .ref (ad 34)]) := c11
  obtain ⟨v12, c14, b13⟩ := invX_34 hI
  have c14 : S 34 = .inr (0, [.int v12, .ref (ad 35), .ref (ad 36), .ref (ad 37)]) := c14
  refine lv_aload_n hx hb dX5_read_0 rfl (lv_at hl 0 rfl) ?_
  refine lv_iconst (v := 0) hx hb dX5_read_1 (by decide) ?_
  refine lv_iload_n hx hb dX5_read_2 rfl (lv_at hl 1 rfl) ?_
  refine lv_aload_n hx hb dX5_read_3 rfl (lv_at hl 0 rfl) ?_
  obtain ⟨v15, v17, v18, v20, v22, v23, v25, c26, b16, b19, b21, b24⟩ := invX_94 hI
  have c26 : S 94 = .inr (5, [.ref (ad 1), .ref (ad 20), .int v15, .int v17, .int v18, .int v20, .int v22, .int v23, .int v25]) := c26
  refine xget E hQ 94 (by decide) c26 rfl 0 (by decide) q342 rfl dX5_read_4 ?_
  obtain ⟨f27, c28, b29⟩ := invX_1 hI
  refine xalen (v := 1200) E hQ 1 (by decide) 1 c28 rfl rfl dX5_read_7 ?_
  refine va_mmin hx hb (hml.trans hl.1.symm) E.2.2.1 (E.2.2.2.1 _ q582) (E.2.2.2.1 _ q583) (E.2.2.2.1 _ q128) (E.2.2.2.1 _ q584) (Nat.le_of_ble_eq_true rfl) (Nat.le_of_ble_eq_true rfl) (Nat.le_of_ble_eq_true rfl) (Nat.le_of_ble_eq_true rfl) dX5_read_8 ?_
  refine lv_topi (fun z30 e31 => ?_)
  have b32 : Bd z30 (-2147483648) (1200) := ib_min e31 (ib_full a1) (by decide : Bd 1200 (1200) (1200)) (by decide) (by decide) (by decide) (by decide)
  have t33 := ib_minx (p := a1.toInt) (q := 1200) e31 rfl (by decide)
  refine va_mmax hx hb (hml.trans hl.1.symm) E.2.2.1 (E.2.2.2.1 _ q585) (E.2.2.2.1 _ q586) (E.2.2.2.1 _ q128) (E.2.2.2.1 _ q587) (Nat.le_of_ble_eq_true rfl) (Nat.le_of_ble_eq_true rfl) (Nat.le_of_ble_eq_true rfl) (Nat.le_of_ble_eq_true rfl) dX5_read_11 ?_
  refine lv_topi (fun z34 e35 => ?_)
  have b36 : Bd z34 (0) (1200) := ib_max e35 (by decide : Bd 0 (0) (0)) b32 (by decide) (by decide) (by decide) (by decide)
  have t37 := ib_maxx (p := 0) (q := z30.toInt) e35 (by decide) rfl
  refine xputi E hs hQ 94 (by decide) c26 rfl 2 (by decide) q344 rfl rfl (Nat.le_of_ble_eq_true rfl) dX5_read_14 (fun H locs S38 eS38 hQ => ?_)
  have hI := invX_up_94 hI eS38 ⟨z34, v17, v18, v20, v22, v23, v25, rfl, b36, b19, b21, b24⟩
  have c39 : S38 94 = .inr (5, [.ref (ad 1), .ref (ad 20), .int z34, .int v17, .int v18, .int v20, .int v22, .int v23, .int v25]) := up_at eS38 rfl
  refine lv_aload_n hx hb dX5_read_17 rfl (lv_at hl 0 rfl) ?_
  refine lv_iconst (v := 0) hx hb dX5_read_18 (by decide) ?_
  refine xputi E hs hQ 94 (by decide) c39 rfl 5 (by decide) q347 rfl rfl (Nat.le_of_ble_eq_true rfl) dX5_read_19 (fun H locs S40 eS40 hQ => ?_)
  have hI := invX_up_94 hI eS40 ⟨z34, v17, v18, 0, v22, v23, v25, rfl, b36, b19, (ib_wk (by decide : Bd 0 (0) (0)) (by decide) (by decide)), b24⟩
  have c41 : S40 94 = .inr (5, [.ref (ad 1), .ref (ad 20), .int z34, .int v17, .int v18, .int 0, .int v22, .int v23, .int v25]) := up_at eS40 rfl
  refine lv_aload_n hx hb dX5_read_22 rfl (lv_at hl 0 rfl) ?_
  refine lv_iconst (v := 0) hx hb dX5_read_23 (by decide) ?_
  refine xputi E hs hQ 94 (by decide) c41 rfl 7 (by decide) q349 rfl rfl (Nat.le_of_ble_eq_true rfl) dX5_read_24 (fun H locs S42 eS42 hQ => ?_)
  have hI := invX_up_94 hI eS42 ⟨z34, v17, v18, 0, v22, 0, v25, rfl, b36, b19, (ib_wk (by decide : Bd 0 (0) (0)) (by decide) (by decide)), (ib_wk (by decide : Bd 0 (0) (0)) (by decide) (by decide))⟩
  have c43 : S42 94 = .inr (5, [.ref (ad 1), .ref (ad 20), .int z34, .int v17, .int v18, .int 0, .int v22, .int 0, .int v25]) := up_at eS42 rfl
  refine lv_aload_n hx hb dX5_read_27 rfl (lv_at hl 0 rfl) ?_
  refine lv_iconst (v := (-1)) hx hb dX5_read_28 (by decide) ?_
  refine xputi E hs hQ 94 (by decide) c43 rfl 8 (by decide) q351 rfl rfl (Nat.le_of_ble_eq_true rfl) dX5_read_29 (fun H locs S44 eS44 hQ => ?_)
  have hI := invX_up_94 hI eS44 ⟨z34, v17, v18, 0, v22, 0, (-1), rfl, b36, b19, (ib_wk (by decide : Bd 0 (0) (0)) (by decide) (by decide)), (ib_wk (by decide : Bd 0 (0) (0)) (by decide) (by decide))⟩
  have c45 : S44 94 = .inr (5, [.ref (ad 1), .ref (ad 20), .int z34, .int v17, .int v18, .int 0, .int v22, .int 0, .int (-1)]) := up_at eS44 rfl
  refine lv_aload_n hx hb dX5_read_32 rfl (lv_at hl 0 rfl) ?_
  refine xget E hQ 94 (by decide) c45 rfl 1 (by decide) q343 rfl dX5_read_33 ?_
  have c47 : S44 20 = .inr (1, [.int v1, .int v3, .int v5, .ref (ad 21), .ref (ad 23), .ref (ad 24), .int v6, .int v7, .ref (ad 25), .ref (ad 26), .ref (ad 27), .ref (ad 28), .int v9, .ref (ad 33), .ref (ad 34)]) := (up_ne eS44 (by decide) (up_ne eS42 (by decide) (up_ne eS40 (by decide) (up_ne eS38 (by decide) c11))))
  refine xcVv E hs hQ hml hl.1 20 (gX1_clear_20 l g ad hD S44 hI ) mX1_clear q588 (by decide) c47 rfl rfl ⟨(Nat.le_of_ble_eq_true rfl), (Nat.le_of_ble_eq_true rfl)⟩ ⟨(Nat.le_of_ble_eq_true rfl), (Nat.le_of_ble_eq_true rfl)⟩ (Nat.le_of_ble_eq_true rfl) rfl dX5_read_36 (fun S46 H locs hp46 hQ _ => ?_)
  obtain ⟨hI, o46, g46_0, g46_1, g46_2, g46_3, g46_4⟩ := hp46
  obtain ⟨v48, v50, v52, v53, v54, v56, c58, b49, b51, b55, b57⟩ := invX_20 hI
  have c58 : S46 20 = .inr (1, [.int v48, .int v50, .int v52, .ref (ad 21), .ref (ad 23), .ref (ad 24), .int v53, .int v54, .ref (ad 25), .ref (ad 26), .ref (ad 27), .ref (ad 28), .int v56, .ref (ad 33), .ref (ad 34)]) := c58
  have q59 : fld (S46 20) 0 = v48.toInt := fld_of c58 rfl
  have b60 : Bd v48 (0) (0) := ⟨by omega, by omega⟩
  have q61 : fld (S46 20) 1 = v50.toInt := fld_of c58 rfl
  have b62 : Bd v50 (0) (0) := ⟨by omega, by omega⟩
  have q63 : fld (S46 20) 7 = v54.toInt := fld_of c58 rfl
  have b64 : Bd v54 (0) (0) := ⟨by omega, by omega⟩
  have q65 : fld (S46 20) 12 = v56.toInt := fld_of c58 rfl
  have b66 : Bd v56 (0) (0) := ⟨by omega, by omega⟩
  obtain ⟨v67, c69, b68⟩ := invX_34 hI
  have c69 : S46 34 = .inr (0, [.int v67, .ref (ad 35), .ref (ad 36), .ref (ad 37)]) := c69
  have q70 : fld (S46 34) 0 = v67.toInt := fld_of c69 rfl
  have b71 : Bd v67 (0) (0) := ⟨by omega, by omega⟩
  refine lv_aload_n hx hb dX5_read_39 rfl (lv_at hl 0 rfl) ?_
  have c73 : S46 94 = .inr (5, [.ref (ad 1), .ref (ad 20), .int z34, .int v17, .int v18, .int 0, .int v22, .int 0, .int (-1)]) := ((o46 94 (by decide)).trans c45)
  refine xcVv E hs hQ hml hl.1 94 (gX5_advance_94 l g ad hD S46 hI ) mX5_advance q598 (by decide) c73 rfl rfl ⟨(Nat.le_of_ble_eq_true rfl), (Nat.le_of_ble_eq_true rfl)⟩ ⟨(Nat.le_of_ble_eq_true rfl), (Nat.le_of_ble_eq_true rfl)⟩ (Nat.le_of_ble_eq_true rfl) rfl dX5_read_40 (fun S72 H locs hp72 hQ _ => ?_)
  obtain ⟨hI, o72⟩ := hp72
  refine lv_iconst (v := 0) hx hb dX5_read_43 (by decide) ?_
  refine lv_istore_n (lv' := [(2, .int 0), (0, .ref (ad 94)), (1, .int a1)]) hx hb dX5_read_44 rfl hl (by decide) rfl (fun ls hl => ?_)
  have c74 : S72 20 = .inr (1, [.int v48, .int v50, .int v52, .ref (ad 21), .ref (ad 23), .ref (ad 24), .int v53, .int v54, .ref (ad 25), .ref (ad 26), .ref (ad 27), .ref (ad 28), .int v56, .ref (ad 33), .ref (ad 34)]) := ((o72 20 (by decide)).trans c58)
  obtain ⟨v75, v77, v79, v81, c83, b76, b78, b80, b82⟩ := invX_21 hI
  have c83 : S72 21 = .inr (10, [.int v75, .int v77, .int v79, .int v81, .ref (ad 22)]) := c83
  obtain ⟨v84, c86, b85⟩ := invX_28 hI
  have c86 : S72 28 = .inr (6, [.int v84, .ref (ad 29), .ref (ad 30), .ref (ad 31), .ref (ad 32)]) := c86
  obtain ⟨v87, v89, v90, v92, v94, v95, v97, c98, b88, b91, b93, b96⟩ := invX_94 hI
  have c98 : S72 94 = .inr (5, [.ref (ad 1), .ref (ad 20), .int v87, .int v89, .int v90, .int v92, .int v94, .int v95, .int v97]) := c98
  have loop45 : ∀ (n : Nat) (S_45 : SS) (H : Heap) (locs : List Loc) (ls : Array Slot) (x45_2 : Int32) (y45_20_0 : Int32) (y45_20_1 : Int32) (y45_20_2 : Int32) (y45_20_6 : Int32) (y45_20_7 : Int32) (y45_20_12 : Int32) (y45_21_0 : Int32) (y45_21_1 : Int32) (y45_21_2 : Int32) (y45_21_3 : Int32) (y45_28_0 : Int32) (y45_94_2 : Int32) (y45_94_3 : Int32) (y45_94_4 : Int32) (y45_94_5 : Int32) (y45_94_6 : Int32) (y45_94_7 : Int32) (y45_94_8 : Int32), Bd x45_2 (0) (1201) → Bd y45_20_0 (0) (1201) → Bd y45_20_1 (0) (12) → Bd y45_20_7 (0) (8) → Bd y45_20_12 (0) (3) → Bd y45_21_0 (0) (12) → Bd y45_21_1 (0) (6) → Bd y45_21_2 (0) (12) → Bd y45_21_3 (0) (36) → Bd y45_28_0 (0) (6) → Bd y45_94_2 (0) (1200) → Bd y45_94_4 (0) (1200) → Bd y45_94_5 (0) (1200) → Bd y45_94_7 (0) (3) → 0 ≤ x45_2.toInt + (-1) * y45_20_0.toInt → 0 ≤ 1201 * y45_20_1.toInt + (-1) * y45_20_0.toInt → 0 ≤ 8 * y45_20_1.toInt + (-1) * y45_20_7.toInt → 0 ≤ 3 * y45_20_1.toInt + (-1) * y45_20_12.toInt → (-1) * x45_2.toInt + 1201 < ((n : Nat) : Int) → InvX g ad S_45 → (∀ j, j ∉ ([20, 21, 22, 23, 24, 25, 26, 27, 28, 29, 30, 31, 32, 33, 94] : List Nat) → S_45 j = S72 j) → S_45 20 = .inr (1, [.int y45_20_0, .int y45_20_1, .int y45_20_2, .ref (ad 21), .ref (ad 23), .ref (ad 24), .int y45_20_6, .int y45_20_7, .ref (ad 25), .ref (ad 26), .ref (ad 27), .ref (ad 28), .int y45_20_12, .ref (ad 33), .ref (ad 34)]) → S_45 21 = .inr (10, [.int y45_21_0, .int y45_21_1, .int y45_21_2, .int y45_21_3, .ref (ad 22)]) → S_45 28 = .inr (6, [.int y45_28_0, .ref (ad 29), .ref (ad 30), .ref (ad 31), .ref (ad 32)]) → S_45 94 = .inr (5, [.ref (ad 1), .ref (ad 20), .int y45_94_2, .int y45_94_3, .int y45_94_4, .int y45_94_5, .int y45_94_6, .int y45_94_7, .int y45_94_8]) → Hp g ad 122 S_45 (FA ad 122) s.heap H locs → lv_has ls 3 [(2, .int x45_2), (0, .ref (ad 94)), (1, .int a1)] → W p l e (Rm 8) s m [.ref (ad 94), .int a1].toArray below meth c H locs 0 0 (MQ below (va_Qv (fun S' => InvX g ad S' ∧ (∀ j, j ∉ ([20, 21, 22, 23, 24, 25, 26, 27, 28, 29, 30, 31, 32, 33, 34, 94] : List Nat) → S' j = S j) ∧ (0 ≤ 1201 * fld (S' 20) 1 + (-1) * fld (S' 20) 0) ∧ (0 ≤ 8 * fld (S' 20) 1 + (-1) * fld (S' 20) 7) ∧ (0 ≤ 3 * fld (S' 20) 1 + (-1) * fld (S' 20) 12) ∧ (0 ≤ (-1) * fld (S' 34) 0 ∧ 0 ≤ fld (S' 34) 0)) (QB g ad 122) (FA ad 122)) [.ref (ad 94), .int a1].toArray s 0 0 (FA ad 122)) (F0 m 45 ls []) := by
    intro n
    induction n with
    | zero => intro S_45 H locs ls x45_2 y45_20_0 y45_20_1 y45_20_2 y45_20_6 y45_20_7 y45_20_12 y45_21_0 y45_21_1 y45_21_2 y45_21_3 y45_28_0 y45_94_2 y45_94_3 y45_94_4 y45_94_5 y45_94_6 y45_94_7 y45_94_8 Bx45_2 By45_20_0 By45_20_1 By45_20_7 By45_20_12 By45_21_0 By45_21_1 By45_21_2 By45_21_3 By45_28_0 By45_94_2 By45_94_4 By45_94_5 By45_94_7 C45_0 C45_1 C45_2 C45_3 hn45_ hI hf45 cl45_20 cl45_21 cl45_28 cl45_94 hQ hl; exfalso; have := (Bx45_2).2; omega
    | succ n45_ ih45 =>
      intro S_45 H locs ls x45_2 y45_20_0 y45_20_1 y45_20_2 y45_20_6 y45_20_7 y45_20_12 y45_21_0 y45_21_1 y45_21_2 y45_21_3 y45_28_0 y45_94_2 y45_94_3 y45_94_4 y45_94_5 y45_94_6 y45_94_7 y45_94_8 Bx45_2 By45_20_0 By45_20_1 By45_20_7 By45_20_12 By45_21_0 By45_21_1 By45_21_2 By45_21_3 By45_28_0 By45_94_2 By45_94_4 By45_94_5 By45_94_7 C45_0 C45_1 C45_2 C45_3 hn45_ hI hf45 cl45_20 cl45_21 cl45_28 cl45_94 hQ hl
      refine lv_iload_n hx hb dX5_read_45 rfl (lv_at hl 0 rfl) ?_
      refine lv_sipush (v := 1200) hx hb dX5_read_46 (by decide) ?_
      refine lv_icmp_gt (tgt := 93) hx hb dX5_read_49 (by decide) (fun k99 => ?_) (fun k99 => ?_)
      · have h100 := ib_lt k99
        have b101 : Bd x45_2 (1201) (1201) := ⟨((rf_lt (by decide : Bd 1200 (1200) (1200)) Bx45_2 h100).2).1, (Bx45_2).2⟩
        have q102 : fld (S_45 20) 1 = y45_20_1.toInt := fld_of cl45_20 rfl
        have q103 : fld (S_45 20) 0 = y45_20_0.toInt := fld_of cl45_20 rfl
        have q104 : fld (S_45 20) 7 = y45_20_7.toInt := fld_of cl45_20 rfl
        have q105 : fld (S_45 20) 12 = y45_20_12.toInt := fld_of cl45_20 rfl
        have c106 : S_45 34 = .inr (0, [.int v67, .ref (ad 35), .ref (ad 36), .ref (ad 37)]) := ((hf45 34 (by decide)).trans ((o72 34 (by decide)).trans c69))
        have q107 : fld (S_45 34) 0 = v67.toInt := fld_of c106 rfl
        exact xrv E hr hlk hQ (⟨hI, (o_trans (o_trans (o_trans (up_o (up_o (up_o (up_o o_refl eS38 (by decide)) eS40 (by decide)) eS42 (by decide)) eS44 (by decide)) o46 (by decide)) o72 (by decide)) hf45 (by decide)), (by omega), (by omega), (by omega), ⟨by omega, by omega⟩⟩) dX5_read_93
      · have h108 := ib_nlt k99
        have b109 : Bd x45_2 (0) (1200) := ⟨(Bx45_2).1, ((rf_le Bx45_2 (by decide : Bd 1200 (1200) (1200)) h108).1).2⟩
        refine lv_aload_n hx hb dX5_read_52 rfl (lv_at hl 1 rfl) ?_
        refine xget E hQ 94 (by decide) cl45_94 rfl 3 (by decide) q345 rfl dX5_read_53 ?_
        refine lv_if_eq (tgt := 93) hx hb dX5_read_56 (by decide) (fun k110 => ?_) (fun k110 => ?_)
        · have h111 := ib_eq k110
          have b112 : Bd y45_94_3 (0) (0) := ⟨((rf_eq (ib_full y45_94_3) (by decide : Bd 0 (0) (0)) h111).1).1, ((rf_eq (ib_full y45_94_3) (by decide : Bd 0 (0) (0)) h111).1).2⟩
          have q113 : fld (S_45 20) 1 = y45_20_1.toInt := fld_of cl45_20 rfl
          have q114 : fld (S_45 20) 0 = y45_20_0.toInt := fld_of cl45_20 rfl
          have q115 : fld (S_45 20) 7 = y45_20_7.toInt := fld_of cl45_20 rfl
          have q116 : fld (S_45 20) 12 = y45_20_12.toInt := fld_of cl45_20 rfl
          have c117 : S_45 34 = .inr (0, [.int v67, .ref (ad 35), .ref (ad 36), .ref (ad 37)]) := ((hf45 34 (by decide)).trans ((o72 34 (by decide)).trans c69))
          have q118 : fld (S_45 34) 0 = v67.toInt := fld_of c117 rfl
          exact xrv E hr hlk hQ (⟨hI, (o_trans (o_trans (o_trans (up_o (up_o (up_o (up_o o_refl eS38 (by decide)) eS40 (by decide)) eS42 (by decide)) eS44 (by decide)) o46 (by decide)) o72 (by decide)) hf45 (by decide)), (by omega), (by omega), (by omega), ⟨by omega, by omega⟩⟩) dX5_read_93
        · have h119 := ib_ne k110
          refine lv_aload_n hx hb dX5_read_59 rfl (lv_at hl 1 rfl) ?_
          refine xcVi E hs hQ hml hl.1 94 (gX5_failed_94 l g ad hD S_45 hI ) mX5_failed q610 (by decide) cl45_94 rfl rfl ⟨(Nat.le_of_ble_eq_true rfl), (Nat.le_of_ble_eq_true rfl)⟩ ⟨(Nat.le_of_ble_eq_true rfl), (Nat.le_of_ble_eq_true rfl)⟩ (Nat.le_of_ble_eq_true rfl) rfl dX5_read_60 (fun r120 S120 H locs hp120 hQ _ => ?_)
          obtain ⟨rfl, b120, g120_0⟩ := hp120
          have q121 : fld (S_45 94) 7 = y45_94_7.toInt := fld_of cl45_94 rfl
          refine lv_if_ne (tgt := 93) hx hb dX5_read_63 (by decide) (fun k122 => ?_) (fun k122 => ?_)
          · have h123 := ib_ne k122
            have b124 : Bd r120 (1) (1) := rf_nlo b120 (by decide : Bd 0 (0) (0)) h123
            clear g120_0
            have q125 : fld (S_45 20) 1 = y45_20_1.toInt := fld_of cl45_20 rfl
            have q126 : fld (S_45 20) 0 = y45_20_0.toInt := fld_of cl45_20 rfl
            have q127 : fld (S_45 20) 7 = y45_20_7.toInt := fld_of cl45_20 rfl
            have q128 : fld (S_45 20) 12 = y45_20_12.toInt := fld_of cl45_20 rfl
            have c129 : S_45 34 = .inr (0, [.int v67, .ref (ad 35), .ref (ad 36), .ref (ad 37)]) := ((hf45 34 (by decide)).trans ((o72 34 (by decide)).trans c69))
            have q130 : fld (S_45 34) 0 = v67.toInt := fld_of c129 rfl
            exact xrv E hr hlk hQ (⟨hI, (o_trans (o_trans (o_trans (up_o (up_o (up_o (up_o o_refl eS38 (by decide)) eS40 (by decide)) eS42 (by decide)) eS44 (by decide)) o46 (by decide)) o72 (by decide)) hf45 (by decide)), (by omega), (by omega), (by omega), ⟨by omega, by omega⟩⟩) dX5_read_93
          · have h131 := ib_eq k122
            have b132 : Bd r120 (0) (0) := ⟨(b120).1, ((rf_eq b120 (by decide : Bd 0 (0) (0)) h131).1).2⟩
            have g133 := g120_0.resolve_left (by omega)
            clear g120_0
            have b134 : Bd y45_94_7 (0) (0) := ⟨by omega, by omega⟩
            refine lv_aload_n hx hb dX5_read_66 rfl (lv_at hl 1 rfl) ?_
            have q135 : fld (S_45 20) 1 = y45_20_1.toInt := fld_of cl45_20 rfl
            have q136 : fld (S_45 20) 0 = y45_20_0.toInt := fld_of cl45_20 rfl
            have q137 : fld (S_45 20) 7 = y45_20_7.toInt := fld_of cl45_20 rfl
            have q138 : fld (S_45 20) 12 = y45_20_12.toInt := fld_of cl45_20 rfl
            refine xcVvT E hs hQ hml hl.1 hT 94 (gX5_readLine_94 l g tt ad hD S_45 hI (by omega) (by omega) (by omega)) mX5_readLine q614 (by decide) cl45_94 rfl rfl ⟨(Nat.le_of_ble_eq_true rfl), (Nat.le_of_ble_eq_true rfl)⟩ ⟨(Nat.le_of_ble_eq_true rfl), (Nat.le_of_ble_eq_true rfl)⟩ (Nat.le_of_ble_eq_true rfl) rfl dX5_read_67 (fun S139 H locs hp139 hQ _ => ?_)
            obtain ⟨hI, o139, g139_0, g139_1⟩ := hp139
            obtain ⟨v140, v142, v144, v145, v146, v148, c150, b141, b143, b147, b149⟩ := invX_20 hI
            have c150 : S139 20 = .inr (1, [.int v140, .int v142, .int v144, .ref (ad 21), .ref (ad 23), .ref (ad 24), .int v145, .int v146, .ref (ad 25), .ref (ad 26), .ref (ad 27), .ref (ad 28), .int v148, .ref (ad 33), .ref (ad 34)]) := c150
            have q151 : fld (S139 20) 1 = v142.toInt := fld_of c150 rfl
            have b152 : Bd v142 (1) (12) := ⟨by omega, by omega⟩
            have q153 : fld (S139 20) 0 = v140.toInt := fld_of c150 rfl
            have b154 : Bd v140 (0) (1200) := ⟨by omega, by omega⟩
            have b155 : Bd y45_20_0 (0) (1200) := ⟨by omega, by omega⟩
            refine lv_aload_n hx hb dX5_read_70 rfl (lv_at hl 1 rfl) ?_
            obtain ⟨v157, v159, v160, v162, v164, v165, v167, c168, b158, b161, b163, b166⟩ := invX_94 hI
            have c168 : S139 94 = .inr (5, [.ref (ad 1), .ref (ad 20), .int v157, .int v159, .int v160, .int v162, .int v164, .int v165, .int v167]) := c168
            refine xcVv E hs hQ hml hl.1 94 (gX5_expectSign_94 l g ad hD S139 hI ) mX5_expectSign q741 (by decide) c168 rfl rfl ⟨(Nat.le_of_ble_eq_true rfl), (Nat.le_of_ble_eq_true rfl)⟩ ⟨(Nat.le_of_ble_eq_true rfl), (Nat.le_of_ble_eq_true rfl)⟩ (Nat.le_of_ble_eq_true rfl) rfl dX5_read_71 (fun S156 H locs hp156 hQ _ => ?_)
            obtain ⟨hI, o156⟩ := hp156
            refine lv_aload_n hx hb dX5_read_74 rfl (lv_at hl 1 rfl) ?_
            obtain ⟨v169, v171, v172, v174, v176, v177, v179, c180, b170, b173, b175, b178⟩ := invX_94 hI
            have c180 : S156 94 = .inr (5, [.ref (ad 1), .ref (ad 20), .int v169, .int v171, .int v172, .int v174, .int v176, .int v177, .int v179]) := c180
            refine xget E hQ 94 (by decide) c180 rfl 1 (by decide) q343 rfl dX5_read_75 ?_
            refine lv_dup hx hb dX5_read_78 rfl ?_
            have c181 : S156 20 = .inr (1, [.int v140, .int v142, .int v144, .ref (ad 21), .ref (ad 23), .ref (ad 24), .int v145, .int v146, .ref (ad 25), .ref (ad 26), .ref (ad 27), .ref (ad 28), .int v148, .ref (ad 33), .ref (ad 34)]) := ((o156 20 (by decide)).trans c150)
            refine xget E hQ 20 (by decide) c181 rfl 0 (by decide) q237 rfl dX5_read_79 ?_
            refine lv_iconst (v := 1) hx hb dX5_read_82 (by decide) ?_
            refine lv_iadd hx hb dX5_read_83 ?_
            refine lv_topi (fun z182 e183 => ?_)
            have t184 := ib_add e183 b154 (by decide : Bd 1 (1) (1)) (by decide) (by decide)
            have b185 : Bd z182 (1) (1201) := ib_addb t184 b154 (by decide : Bd 1 (1) (1))
            have t184 : z182.toInt = v140.toInt + 1 := fold_add t184 rfl (by decide)
            refine xputi E hs hQ 20 (by decide) c181 rfl 0 (by decide) q237 rfl rfl (Nat.le_of_ble_eq_true rfl) dX5_read_84 (fun H locs S186 eS186 hQ => ?_)
            have hI := invX_up_20 hI eS186 ⟨z182, v142, v144, v145, v146, v148, rfl, (ib_wk b185 (by decide) (by decide)), (ib_wk b152 (by decide) (by decide)), b147, b149⟩
            have c187 : S186 20 = .inr (1, [.int z182, .int v142, .int v144, .ref (ad 21), .ref (ad 23), .ref (ad 24), .int v145, .int v146, .ref (ad 25), .ref (ad 26), .ref (ad 27), .ref (ad 28), .int v148, .ref (ad 33), .ref (ad 34)]) := up_at eS186 rfl
            obtain ⟨z188, e189⟩ : ∃ z : Int32, z = x45_2 + 1 := ⟨_, rfl⟩
            have t190 := ib_add e189 b109 (by decide : Bd 1 (1) (1)) (by decide) (by decide)
            have b191 : Bd z188 (1) (1201) := ib_addb t190 b109 (by decide : Bd 1 (1) (1))
            have t190 : z188.toInt = x45_2.toInt + 1 := fold_add t190 rfl (by decide)
            refine lv_iinc (v := z188) (lv' := [(2, .int z188), (0, .ref (ad 94)), (1, .int a1)]) hx hb dX5_read_87 hl (k := 0) rfl (by rw [e189]; rfl) (by decide) rfl (fun ls hl => ?_)
            refine lv_goto (tgt := 45) hx hb dX5_read_90 (by decide) ?_
            obtain ⟨v192, v194, v196, v198, c200, b193, b195, b197, b199⟩ := invX_21 hI
            have c200 : S186 21 = .inr (10, [.int v192, .int v194, .int v196, .int v198, .ref (ad 22)]) := c200
            obtain ⟨v201, c203, b202⟩ := invX_28 hI
            have c203 : S186 28 = .inr (6, [.int v201, .ref (ad 29), .ref (ad 30), .ref (ad 31), .ref (ad 32)]) := c203
            have c204 : S186 94 = .inr (5, [.ref (ad 1), .ref (ad 20), .int v169, .int v171, .int v172, .int v174, .int v176, .int v177, .int v179]) := (up_ne eS186 (by decide) c180)
            exact ih45 _ _ _ _ z188 z182 v142 v144 v145 v146 v148 v192 v194 v196 v198 v201 v169 v171 v172 v174 v176 v177 v179 (ib_wk b191 (by decide) (by decide)) (ib_wk b185 (by decide) (by decide)) (ib_wk b152 (by decide) (by decide)) b147 b149 b193 b195 b197 b199 b202 b170 b173 b175 b178 (by omega) (by omega) (by omega) (by omega) (by omega) hI (up_o (o_trans (o_trans hf45 o139 (by decide)) o156 (by decide)) eS186 (by decide)) c187 c200 c203 c204 hQ (lv_sub hl [0, 1, 2] rfl)
  obtain ⟨n45, hn45⟩ := fu_n (1201)
  exact loop45 n45 _ _ _ _ 0 v48 v50 v52 v53 v54 v56 v75 v77 v79 v81 v84 v87 v89 v90 v92 v94 v95 v97 (ib_wk (by decide : Bd 0 (0) (0)) (by decide) (by decide)) (ib_wk b60 (by decide) (by decide)) (ib_wk b62 (by decide) (by decide)) (ib_wk b64 (by decide) (by decide)) (ib_wk b66 (by decide) (by decide)) b76 b78 b80 b82 b85 b88 b91 b93 b96 (by have : (0 : Int32).toInt = 0 := (by decide); omega) (by have : (0 : Int32).toInt = 0 := (by decide); omega) (by have : (0 : Int32).toInt = 0 := (by decide); omega) (by have : (0 : Int32).toInt = 0 := (by decide); omega) (by have : (0 : Int32).toInt = 0 := (by decide); omega) hI o_refl c74 c83 c86 c98 hQ (lv_sub hl [0, 1, 2] rfl)
