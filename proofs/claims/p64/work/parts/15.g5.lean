set_option maxHeartbeats 4000000 in
set_option maxRecDepth 100000 in
theorem gX7_payFor_107 (l : Launch) (g : GG) (ad : Nat → Nat) (hD : Dj ad 122) (S : SS) (hI : InvX g ad S) (a1 : Int32) (a2 : Int32) : Met l yX7_payFor (wG (.code yX7_payFor cX7_payFor 5 (some .int))) (Rm 0) (XPre g ad 122 S [.ref (ad 107), .int a1, .int a2]) (va_Qi (fun _ S' => S = S') (QB g ad 122) (FA ad 122)) 0 0 (FA ad 122) := by
  refine xmet cX7_payFor "EbbWreck$Seating" (by decide) rfl (Nat.le_of_ble_eq_true rfl) (fun p e s m below meth c E hr hlk hml hQ ls hl => ?_)
  have hx := E.1
  have hb := E.2.1
  have hs : Sp ad 122 (FA ad 122) := Sp.fa hD
  have hl : lv_has ls 5 [(0, .ref (ad 107)), (1, .int a1), (2, .int a2)] := hl
  refine lv_iload_n hx hb dX7_payFor_0 rfl (lv_at hl 2 rfl) ?_
  refine lv_iconst (v := 1) hx hb dX7_payFor_1 (by decide) ?_
  refine lv_icmp_ge (tgt := 7) hx hb dX7_payFor_2 (by decide) (fun k1 => ?_) (fun k1 => ?_)
  · have h2 := ib_le k1
    have b3 : Bd a2 (1) (2147483647) := ⟨((rf_le (by decide : Bd 1 (1) (1)) (ib_full a2) h2).2).1, ((ib_full a2)).2⟩
    refine lv_iconst (v := 0) hx hb dX7_payFor_7 (by decide) ?_
    refine lv_istore_n (lv' := [(3, .int 0), (0, .ref (ad 107)), (1, .int a1), (2, .int a2)]) hx hb dX7_payFor_8 rfl hl (by decide) rfl (fun ls hl => ?_)
    refine lv_iconst (v := 0) hx hb dX7_payFor_9 (by decide) ?_
    refine lv_istore (lv' := [(4, .int 0), (3, .int 0), (0, .ref (ad 107)), (1, .int a1), (2, .int a2)]) hx hb dX7_payFor_10 hl (by decide) rfl (fun ls hl => ?_)
    have loop12 : ∀ (n : Nat) (H : Heap) (locs : List Loc) (ls : Array Slot) (x12_3 : Int32) (x12_4 : Int32), Bd x12_4 (0) (8) → (-1) * x12_4.toInt + 8 < ((n : Nat) : Int) → Hp g ad 122 S (FA ad 122) s.heap H locs → lv_has ls 5 [(4, .int x12_4), (3, .int x12_3), (0, .ref (ad 107)), (1, .int a1), (2, .int a2)] → W p l e (Rm 0) s m [.ref (ad 107), .int a1, .int a2].toArray below meth c H locs 0 0 (MQ below (va_Qi (fun _ S' => S = S') (QB g ad 122) (FA ad 122)) [.ref (ad 107), .int a1, .int a2].toArray s 0 0 (FA ad 122)) (F0 m 12 ls []) := by
      intro n
      induction n with
      | zero => intro H locs ls x12_3 x12_4 Bx12_4 hn12_ hQ hl; exfalso; have := (Bx12_4).2; omega
      | succ n12_ ih12 =>
        intro H locs ls x12_3 x12_4 Bx12_4 hn12_ hQ hl
        refine lv_iload hx hb dX7_payFor_12 (lv_at hl 0 rfl) ?_
        refine lv_aload_n hx hb dX7_payFor_14 rfl (lv_at hl 2 rfl) ?_
        have c4 := invX_107 hI
        have c4 : S 107 = .inr (7, [.ref (ad 2), .ref (ad 95), .ref (ad 108), .ref (ad 109), .ref (ad 110)]) := c4
        refine xget E hQ 107 (by decide) c4 rfl 0 (by decide) q451 rfl dX7_payFor_15 ?_
        obtain ⟨v5, v7, v9, v10, v11, v13, c15, b6, b8, b12, b14⟩ := invX_2 hI
        have c15 : S 2 = .inr (1, [.int v5, .int v7, .int v9, .ref (ad 3), .ref (ad 5), .ref (ad 6), .int v10, .int v11, .ref (ad 7), .ref (ad 8), .ref (ad 9), .ref (ad 10), .int v13, .ref (ad 15), .ref (ad 16)]) := c15
        refine xget E hQ 2 (by decide) c15 rfl 7 (by decide) q269 rfl dX7_payFor_18 ?_
        refine lv_icmp_ge (tgt := 55) hx hb dX7_payFor_21 (by decide) (fun k16 => ?_) (fun k16 => ?_)
        · have h17 := ib_le k16
          refine lv_iload_n hx hb dX7_payFor_55 rfl (lv_at hl 1 rfl) ?_
          exact xri E hr hlk hQ (rfl) dX7_payFor_56
        · have h18 := ib_nle k16
          have b19 : Bd x12_4 (0) (7) := ⟨(Bx12_4).1, ((rf_lt Bx12_4 b12 h18).1).2⟩
          have b20 : Bd v11 (1) (8) := ⟨((rf_lt Bx12_4 b12 h18).2).1, (b12).2⟩
          refine lv_iload_n hx hb dX7_payFor_24 rfl (lv_at hl 3 rfl) ?_
          refine lv_iload hx hb dX7_payFor_25 (lv_at hl 0 rfl) ?_
          refine lv_ishr hx hb dX7_payFor_27 ?_
          refine lv_topi (fun z21 e22 => ?_)
          refine lv_iconst (v := 1) hx hb dX7_payFor_28 (by decide) ?_
          refine lv_iand hx hb dX7_payFor_29 ?_
          refine lv_topi (fun z23 e24 => ?_)
          have b25 : Bd z23 (0) (1) := ib_and 1 e24 (by decide) (by decide)
          refine lv_iconst (v := 1) hx hb dX7_payFor_30 (by decide) ?_
          refine lv_icmp_ne (tgt := 49) hx hb dX7_payFor_31 (by decide) (fun k26 => ?_) (fun k26 => ?_)
          · have h27 := ib_ne k26
            have b28 : Bd z23 (0) (0) := rf_nhi b25 (by decide : Bd 1 (1) (1)) h27
            obtain ⟨z29, e30⟩ : ∃ z : Int32, z = x12_4 + 1 := ⟨_, rfl⟩
            have t31 := ib_add e30 b19 (by decide : Bd 1 (1) (1)) (by decide) (by decide)
            have b32 : Bd z29 (1) (8) := ib_addb t31 b19 (by decide : Bd 1 (1) (1))
            have t31 : z29.toInt = x12_4.toInt + 1 := fold_add t31 rfl (by decide)
            refine lv_iinc (v := z29) (lv' := [(4, .int z29), (3, .int x12_3), (0, .ref (ad 107)), (1, .int a1), (2, .int a2)]) hx hb dX7_payFor_49 hl (k := 0) rfl (by rw [e30]; rfl) (by decide) rfl (fun ls hl => ?_)
            refine lv_goto (tgt := 12) hx hb dX7_payFor_52 (by decide) ?_
            exact ih12 _ _ _ x12_3 z29 (ib_wk b32 (by decide) (by decide)) (by omega) hQ (lv_sub hl [0, 1, 2, 3, 4] rfl)
          · have h33 := ib_eq k26
            have b34 : Bd z23 (1) (1) := ⟨((rf_eq b25 (by decide : Bd 1 (1) (1)) h33).1).1, (b25).2⟩
            refine lv_iload_n hx hb dX7_payFor_34 rfl (lv_at hl 1 rfl) ?_
            refine lv_aload_n hx hb dX7_payFor_35 rfl (lv_at hl 2 rfl) ?_
            refine xget E hQ 107 (by decide) c4 rfl 0 (by decide) q451 rfl dX7_payFor_36 ?_
            refine xget E hQ 2 (by decide) c15 rfl 8 (by decide) q275 rfl dX7_payFor_39 ?_
            refine lv_iload hx hb dX7_payFor_42 (lv_at hl 0 rfl) ?_
            obtain ⟨f35, c36⟩ := invX_7 hI
            refine xiald E hQ 7 (by decide) c36 (ib_in b19 (by decide) (by decide)) dX7_payFor_44 ?_
            refine lv_topi (fun z38 e39 => ?_)
            refine lv_iload_n hx hb dX7_payFor_45 rfl (lv_at hl 4 rfl) ?_
            refine lv_idiv hx hb dX7_payFor_46 (ib_ne0 b3 (by decide)) ?_
            refine lv_topi (fun z40 e41 => ?_)
            refine lv_iadd hx hb dX7_payFor_47 ?_
            refine lv_topi (fun z42 e43 => ?_)
            refine lv_istore_n (lv' := [(3, .int z42), (4, .int x12_4), (0, .ref (ad 107)), (1, .int a1), (2, .int a2)]) hx hb dX7_payFor_48 rfl hl (by decide) rfl (fun ls hl => ?_)
            obtain ⟨z44, e45⟩ : ∃ z : Int32, z = x12_4 + 1 := ⟨_, rfl⟩
            have t46 := ib_add e45 b19 (by decide : Bd 1 (1) (1)) (by decide) (by decide)
            have b47 : Bd z44 (1) (8) := ib_addb t46 b19 (by decide : Bd 1 (1) (1))
            have t46 : z44.toInt = x12_4.toInt + 1 := fold_add t46 rfl (by decide)
            refine lv_iinc (v := z44) (lv' := [(4, .int z44), (3, .int z42), (0, .ref (ad 107)), (1, .int a1), (2, .int a2)]) hx hb dX7_payFor_49 hl (k := 1) rfl (by rw [e45]; rfl) (by decide) rfl (fun ls hl => ?_)
            refine lv_goto (tgt := 12) hx hb dX7_payFor_52 (by decide) ?_
            exact ih12 _ _ _ z42 z44 (ib_wk b47 (by decide) (by decide)) (by omega) hQ (lv_sub hl [0, 1, 2, 3, 4] rfl)
    obtain ⟨n12, hn12⟩ := fu_n (8)
    exact loop12 n12 _ _ _ 0 0 (ib_wk (by decide : Bd 0 (0) (0)) (by decide) (by decide)) (by have : (0 : Int32).toInt = 0 := (by decide); omega) hQ (lv_sub hl [0, 1, 2, 3, 4] rfl)
  · have h48 := ib_nle k1
    have b49 : Bd a2 (-2147483648) (0) := ⟨((ib_full a2)).1, ((rf_lt (ib_full a2) (by decide : Bd 1 (1) (1)) h48).1).2⟩
    refine lv_iconst (v := 0) hx hb dX7_payFor_5 (by decide) ?_
    exact xri E hr hlk hQ (rfl) dX7_payFor_6
set_option maxHeartbeats 4000000 in
set_option maxRecDepth 100000 in
theorem gX7_worthOn_107 (l : Launch) (g : GG) (ad : Nat → Nat) (hD : Dj ad 122) (S : SS) (hI : InvX g ad S) (a1 : Int32) (a2 : Int32) : Met l yX7_worthOn (wG (.code yX7_worthOn cX7_worthOn 5 (some .int))) (Rm 3) (XPre g ad 122 S [.ref (ad 107), .int a1, .int a2]) (va_Qi (fun _ S' => S = S') (QB g ad 122) (FA ad 122)) 0 0 (FA ad 122) := by
  refine xmet cX7_worthOn "EbbWreck$Seating" (by decide) rfl (Nat.le_of_ble_eq_true rfl) (fun p e s m below meth c E hr hlk hml hQ ls hl => ?_)
  have hx := E.1
  have hb := E.2.1
  have hs : Sp ad 122 (FA ad 122) := Sp.fa hD
  have hl : lv_has ls 5 [(0, .ref (ad 107)), (1, .int a1), (2, .int a2)] := hl
  refine lv_iconst (v := 1) hx hb dX7_worthOn_0 (by decide) ?_
  refine lv_istore_n (lv' := [(3, .int 1), (0, .ref (ad 107)), (1, .int a1), (2, .int a2)]) hx hb dX7_worthOn_1 rfl hl (by decide) rfl (fun ls hl => ?_)
  refine lv_iconst (v := 0) hx hb dX7_worthOn_2 (by decide) ?_
  refine lv_istore (lv' := [(4, .int 0), (3, .int 1), (0, .ref (ad 107)), (1, .int a1), (2, .int a2)]) hx hb dX7_worthOn_3 hl (by decide) rfl (fun ls hl => ?_)
  have loop5 : ∀ (n : Nat) (H : Heap) (locs : List Loc) (ls : Array Slot) (x5_3 : Int32) (x5_4 : Int32), Bd x5_4 (0) (3) → (-1) * x5_4.toInt + 3 < ((n : Nat) : Int) → Hp g ad 122 S (FA ad 122) s.heap H locs → lv_has ls 5 [(4, .int x5_4), (3, .int x5_3), (0, .ref (ad 107)), (1, .int a1), (2, .int a2)] → W p l e (Rm 3) s m [.ref (ad 107), .int a1, .int a2].toArray below meth c H locs 0 0 (MQ below (va_Qi (fun _ S' => S = S') (QB g ad 122) (FA ad 122)) [.ref (ad 107), .int a1, .int a2].toArray s 0 0 (FA ad 122)) (F0 m 5 ls []) := by
    intro n
    induction n with
    | zero => intro H locs ls x5_3 x5_4 Bx5_4 hn5_ hQ hl; exfalso; have := (Bx5_4).2; omega
    | succ n5_ ih5 =>
      intro H locs ls x5_3 x5_4 Bx5_4 hn5_ hQ hl
      refine lv_iload hx hb dX7_worthOn_5 (lv_at hl 0 rfl) ?_
      refine lv_aload_n hx hb dX7_worthOn_7 rfl (lv_at hl 2 rfl) ?_
      have c1 := invX_107 hI
      have c1 : S 107 = .inr (7, [.ref (ad 2), .ref (ad 95), .ref (ad 108), .ref (ad 109), .ref (ad 110)]) := c1
      refine xget E hQ 107 (by decide) c1 rfl 0 (by decide) q451 rfl dX7_worthOn_8 ?_
      obtain ⟨v2, v4, v6, v7, v8, v10, c12, b3, b5, b9, b11⟩ := invX_2 hI
      have c12 : S 2 = .inr (1, [.int v2, .int v4, .int v6, .ref (ad 3), .ref (ad 5), .ref (ad 6), .int v7, .int v8, .ref (ad 7), .ref (ad 8), .ref (ad 9), .ref (ad 10), .int v10, .ref (ad 15), .ref (ad 16)]) := c12
      refine xget E hQ 2 (by decide) c12 rfl 12 (by decide) q294 rfl dX7_worthOn_11 ?_
      refine lv_icmp_ge (tgt := 46) hx hb dX7_worthOn_14 (by decide) (fun k13 => ?_) (fun k13 => ?_)
      · have h14 := ib_le k13
        refine lv_aload_n hx hb dX7_worthOn_46 rfl (lv_at hl 2 rfl) ?_
        refine lv_aload_n hx hb dX7_worthOn_47 rfl (lv_at hl 2 rfl) ?_
        refine xget E hQ 107 (by decide) c1 rfl 1 (by decide) q452 rfl dX7_worthOn_48 ?_
        refine lv_iload_n hx hb dX7_worthOn_51 rfl (lv_at hl 4 rfl) ?_
        obtain ⟨v16, v17, c19, b18⟩ := invX_95 hI
        have c19 : S 95 = .inr (2, [.ref (ad 2), .ref (ad 96), .ref (ad 97), .ref (ad 98), .ref (ad 99), .ref (ad 100), .ref (ad 101), .int v16, .int v17]) := c19
        refine xcVi E hs hQ hml hl.1 95 (gX2_thingsUpOn_95 l g ad hD S hI a2) mX2_thingsUpOn q1280 (by decide) c19 rfl rfl ⟨(Nat.le_of_ble_eq_true rfl), (Nat.le_of_ble_eq_true rfl)⟩ ⟨(Nat.le_of_ble_eq_true rfl), (Nat.le_of_ble_eq_true rfl)⟩ (Nat.le_of_ble_eq_true rfl) rfl dX7_worthOn_52 (fun r15 S15 H locs hp15 hQ _ => ?_)
        subst hp15
        refine lv_aload_n hx hb dX7_worthOn_55 rfl (lv_at hl 2 rfl) ?_
        refine xget E hQ 107 (by decide) c1 rfl 1 (by decide) q452 rfl dX7_worthOn_56 ?_
        refine xcVi E hs hQ hml hl.1 95 (gX2_thingsLeftToSitters_95 l g ad hD S hI ) mX2_thingsLeftToSitters q1281 (by decide) c19 rfl rfl ⟨(Nat.le_of_ble_eq_true rfl), (Nat.le_of_ble_eq_true rfl)⟩ ⟨(Nat.le_of_ble_eq_true rfl), (Nat.le_of_ble_eq_true rfl)⟩ (Nat.le_of_ble_eq_true rfl) rfl dX7_worthOn_59 (fun r20 S20 H locs hp20 hQ _ => ?_)
        subst hp20
        refine lv_iand hx hb dX7_worthOn_62 ?_
        refine lv_topi (fun z21 e22 => ?_)
        refine lv_iload_n hx hb dX7_worthOn_63 rfl (lv_at hl 1 rfl) ?_
        refine xcVi E hs hQ hml hl.1 107 (gX7_payFor_107 l g ad hD S hI z21 x5_3) mX7_payFor q1286 (by decide) c1 rfl rfl ⟨(Nat.le_of_ble_eq_true rfl), (Nat.le_of_ble_eq_true rfl)⟩ ⟨(Nat.le_of_ble_eq_true rfl), (Nat.le_of_ble_eq_true rfl)⟩ (Nat.le_of_ble_eq_true rfl) rfl dX7_worthOn_64 (fun r23 S23 H locs hp23 hQ _ => ?_)
        subst hp23
        exact xri E hr hlk hQ (rfl) dX7_worthOn_67
      · have h24 := ib_nle k13
        have b25 : Bd x5_4 (0) (2) := ⟨(Bx5_4).1, ((rf_lt Bx5_4 b11 h24).1).2⟩
        have b26 : Bd v10 (1) (3) := ⟨((rf_lt Bx5_4 b11 h24).2).1, (b11).2⟩
        refine lv_iload hx hb dX7_worthOn_17 (lv_at hl 0 rfl) ?_
        refine lv_iload_n hx hb dX7_worthOn_19 rfl (lv_at hl 3 rfl) ?_
        refine lv_icmp_eq (tgt := 40) hx hb dX7_worthOn_20 (by decide) (fun k27 => ?_) (fun k27 => ?_)
        · have h28 := ib_eq k27
          have b29 : Bd a1 (0) (2) := ⟨((rf_eq b25 (ib_full a1) h28).2).1, ((rf_eq b25 (ib_full a1) h28).2).2⟩
          obtain ⟨z30, e31⟩ : ∃ z : Int32, z = x5_4 + 1 := ⟨_, rfl⟩
          have t32 := ib_add e31 b25 (by decide : Bd 1 (1) (1)) (by decide) (by decide)
          have b33 : Bd z30 (1) (3) := ib_addb t32 b25 (by decide : Bd 1 (1) (1))
          have t32 : z30.toInt = x5_4.toInt + 1 := fold_add t32 rfl (by decide)
          refine lv_iinc (v := z30) (lv' := [(4, .int z30), (3, .int x5_3), (0, .ref (ad 107)), (1, .int a1), (2, .int a2)]) hx hb dX7_worthOn_40 hl (k := 0) rfl (by rw [e31]; rfl) (by decide) rfl (fun ls hl => ?_)
          refine lv_goto (tgt := 5) hx hb dX7_worthOn_43 (by decide) ?_
          exact ih5 _ _ _ x5_3 z30 (ib_wk b33 (by decide) (by decide)) (by omega) hQ (lv_sub hl [0, 1, 2, 3, 4] rfl)
        · have h34 := ib_ne k27
          refine lv_aload_n hx hb dX7_worthOn_23 rfl (lv_at hl 2 rfl) ?_
          refine xget E hQ 107 (by decide) c1 rfl 0 (by decide) q451 rfl dX7_worthOn_24 ?_
          refine xget E hQ 2 (by decide) c12 rfl 13 (by decide) q298 rfl dX7_worthOn_27 ?_
          refine lv_iload hx hb dX7_worthOn_30 (lv_at hl 0 rfl) ?_
          obtain ⟨f35, c36, b37⟩ := invX_15 hI
          refine xiald E hQ 15 (by decide) c36 (ib_in b25 (by decide) (by decide)) dX7_worthOn_32 ?_
          refine lv_topi (fun z38 e39 => ?_)
          have b40 : Bd z38 (0) (11) := (by rw [e39]; exact b37 _)
          refine lv_iload_n hx hb dX7_worthOn_33 rfl (lv_at hl 4 rfl) ?_
          refine lv_icmp_ne (tgt := 40) hx hb dX7_worthOn_34 (by decide) (fun k41 => ?_) (fun k41 => ?_)
          · have h42 := ib_ne k41
            obtain ⟨z43, e44⟩ : ∃ z : Int32, z = x5_4 + 1 := ⟨_, rfl⟩
            have t45 := ib_add e44 b25 (by decide : Bd 1 (1) (1)) (by decide) (by decide)
            have b46 : Bd z43 (1) (3) := ib_addb t45 b25 (by decide : Bd 1 (1) (1))
            have t45 : z43.toInt = x5_4.toInt + 1 := fold_add t45 rfl (by decide)
            refine lv_iinc (v := z43) (lv' := [(4, .int z43), (3, .int x5_3), (0, .ref (ad 107)), (1, .int a1), (2, .int a2)]) hx hb dX7_worthOn_40 hl (k := 0) rfl (by rw [e44]; rfl) (by decide) rfl (fun ls hl => ?_)
            refine lv_goto (tgt := 5) hx hb dX7_worthOn_43 (by decide) ?_
            exact ih5 _ _ _ x5_3 z43 (ib_wk b46 (by decide) (by decide)) (by omega) hQ (lv_sub hl [0, 1, 2, 3, 4] rfl)
          · have h47 := ib_eq k41
            have b48 : Bd a2 (0) (11) := ⟨((rf_eq b40 (ib_full a2) h47).2).1, ((rf_eq b40 (ib_full a2) h47).2).2⟩
            obtain ⟨z49, e50⟩ : ∃ z : Int32, z = x5_3 + 1 := ⟨_, rfl⟩
            refine lv_iinc (v := z49) (lv' := [(3, .int z49), (4, .int x5_4), (0, .ref (ad 107)), (1, .int a1), (2, .int a2)]) hx hb dX7_worthOn_37 hl (k := 1) rfl (by rw [e50]; rfl) (by decide) rfl (fun ls hl => ?_)
            obtain ⟨z51, e52⟩ : ∃ z : Int32, z = x5_4 + 1 := ⟨_, rfl⟩
            have t53 := ib_add e52 b25 (by decide : Bd 1 (1) (1)) (by decide) (by decide)
            have b54 : Bd z51 (1) (3) := ib_addb t53 b25 (by decide : Bd 1 (1) (1))
            have t53 : z51.toInt = x5_4.toInt + 1 := fold_add t53 rfl (by decide)
            refine lv_iinc (v := z51) (lv' := [(4, .int z51), (3, .int z49), (0, .ref (ad 107)), (1, .int a1), (2, .int a2)]) hx hb dX7_worthOn_40 hl (k := 1) rfl (by rw [e52]; rfl) (by decide) rfl (fun ls hl => ?_)
            refine lv_goto (tgt := 5) hx hb dX7_worthOn_43 (by decide) ?_
            exact ih5 _ _ _ z49 z51 (ib_wk b54 (by decide) (by decide)) (by omega) hQ (lv_sub hl [0, 1, 2, 3, 4] rfl)
  obtain ⟨n5, hn5⟩ := fu_n (3)
  exact loop5 n5 _ _ _ 1 0 (ib_wk (by decide : Bd 0 (0) (0)) (by decide) (by decide)) (by have : (1 : Int32).toInt = 1 := (by decide); have : (0 : Int32).toInt = 0 := (by decide); omega) hQ (lv_sub hl [0, 1, 2, 3, 4] rfl)
set_option maxHeartbeats 4000000 in
set_option maxRecDepth 100000 in
theorem gX7_bestCell_107 (l : Launch) (g : GG) (ad : Nat → Nat) (hD : Dj ad 122) (S : SS) (hI : InvX g ad S) (a1 : Int32) : Met l yX7_bestCell (wG (.code yX7_bestCell cX7_bestCell 6 (some .int))) (Rm 4) (XPre g ad 122 S [.ref (ad 107), .int a1]) (va_Qi (fun r S' => S = S' ∧ Bd r (0) (11)) (QB g ad 122) (FA ad 122)) 0 0 (FA ad 122) := by
  refine xmet cX7_bestCell "EbbWreck$Seating" (by decide) rfl (Nat.le_of_ble_eq_true rfl) (fun p e s m below meth c E hr hlk hml hQ ls hl => ?_)
  have hx := E.1
  have hb := E.2.1
  have hs : Sp ad 122 (FA ad 122) := Sp.fa hD
  have hl : lv_has ls 6 [(0, .ref (ad 107)), (1, .int a1)] := hl
  refine lv_iconst (v := 0) hx hb dX7_bestCell_0 (by decide) ?_
  refine lv_istore_n (lv' := [(2, .int 0), (0, .ref (ad 107)), (1, .int a1)]) hx hb dX7_bestCell_1 rfl hl (by decide) rfl (fun ls hl => ?_)
  refine lv_aload_n hx hb dX7_bestCell_2 rfl (lv_at hl 1 rfl) ?_
  refine lv_iload_n hx hb dX7_bestCell_3 rfl (lv_at hl 2 rfl) ?_
  refine lv_iconst (v := 0) hx hb dX7_bestCell_4 (by decide) ?_
  have c2 := invX_107 hI
  have c2 : S 107 = .inr (7, [.ref (ad 2), .ref (ad 95), .ref (ad 108), .ref (ad 109), .ref (ad 110)]) := c2
  refine xcVi E hs hQ hml hl.1 107 (gX7_worthOn_107 l g ad hD S hI a1 0) mX7_worthOn q1302 (by decide) c2 rfl rfl ⟨(Nat.le_of_ble_eq_true rfl), (Nat.le_of_ble_eq_true rfl)⟩ ⟨(Nat.le_of_ble_eq_true rfl), (Nat.le_of_ble_eq_true rfl)⟩ (Nat.le_of_ble_eq_true rfl) rfl dX7_bestCell_5 (fun r1 S1 H locs hp1 hQ _ => ?_)
  subst hp1
  refine lv_istore_n (lv' := [(3, .int r1), (2, .int 0), (0, .ref (ad 107)), (1, .int a1)]) hx hb dX7_bestCell_8 rfl hl (by decide) rfl (fun ls hl => ?_)
  refine lv_iconst (v := 1) hx hb dX7_bestCell_9 (by decide) ?_
  refine lv_istore (lv' := [(4, .int 1), (3, .int r1), (2, .int 0), (0, .ref (ad 107)), (1, .int a1)]) hx hb dX7_bestCell_10 hl (by decide) rfl (fun ls hl => ?_)
  have loop12 : ∀ (n : Nat) (H : Heap) (locs : List Loc) (ls : Array Slot) (x12_2 : Int32) (x12_3 : Int32) (x12_4 : Int32), Bd x12_2 (0) (11) → Bd x12_4 (1) (12) → (-1) * x12_4.toInt + 12 < ((n : Nat) : Int) → Hp g ad 122 S (FA ad 122) s.heap H locs → lv_has ls 6 [(4, .int x12_4), (3, .int x12_3), (2, .int x12_2), (0, .ref (ad 107)), (1, .int a1)] → W p l e (Rm 4) s m [.ref (ad 107), .int a1].toArray below meth c H locs 0 0 (MQ below (va_Qi (fun r S' => S = S' ∧ Bd r (0) (11)) (QB g ad 122) (FA ad 122)) [.ref (ad 107), .int a1].toArray s 0 0 (FA ad 122)) (F0 m 12 ls []) := by
    intro n
    induction n with
    | zero => intro H locs ls x12_2 x12_3 x12_4 Bx12_2 Bx12_4 hn12_ hQ hl; exfalso; have := (Bx12_4).2; omega
    | succ n12_ ih12 =>
      intro H locs ls x12_2 x12_3 x12_4 Bx12_2 Bx12_4 hn12_ hQ hl
      refine lv_iload hx hb dX7_bestCell_12 (lv_at hl 0 rfl) ?_
      refine lv_aload_n hx hb dX7_bestCell_14 rfl (lv_at hl 3 rfl) ?_
      refine xget E hQ 107 (by decide) c2 rfl 0 (by decide) q451 rfl dX7_bestCell_15 ?_
      obtain ⟨v3, v5, v7, v8, v9, v11, c13, b4, b6, b10, b12⟩ := invX_2 hI
      have c13 : S 2 = .inr (1, [.int v3, .int v5, .int v7, .ref (ad 3), .ref (ad 5), .ref (ad 6), .int v8, .int v9, .ref (ad 7), .ref (ad 8), .ref (ad 9), .ref (ad 10), .int v11, .ref (ad 15), .ref (ad 16)]) := c13
      refine xget E hQ 2 (by decide) c13 rfl 1 (by decide) q242 rfl dX7_bestCell_18 ?_
      refine lv_icmp_ge (tgt := 51) hx hb dX7_bestCell_21 (by decide) (fun k14 => ?_) (fun k14 => ?_)
      · have h15 := ib_le k14
        refine lv_iload_n hx hb dX7_bestCell_51 rfl (lv_at hl 2 rfl) ?_
        exact xri E hr hlk hQ (⟨rfl, Bx12_2⟩) dX7_bestCell_52
      · have h16 := ib_nle k14
        have b17 : Bd x12_4 (1) (11) := ⟨(Bx12_4).1, ((rf_lt Bx12_4 b6 h16).1).2⟩
        have b18 : Bd v5 (2) (12) := ⟨((rf_lt Bx12_4 b6 h16).2).1, (b6).2⟩
        refine lv_aload_n hx hb dX7_bestCell_24 rfl (lv_at hl 3 rfl) ?_
        refine lv_iload_n hx hb dX7_bestCell_25 rfl (lv_at hl 4 rfl) ?_
        refine lv_iload hx hb dX7_bestCell_26 (lv_at hl 0 rfl) ?_
        refine xcVi E hs hQ hml hl.1 107 (gX7_worthOn_107 l g ad hD S hI a1 x12_4) mX7_worthOn q1302 (by decide) c2 rfl rfl ⟨(Nat.le_of_ble_eq_true rfl), (Nat.le_of_ble_eq_true rfl)⟩ ⟨(Nat.le_of_ble_eq_true rfl), (Nat.le_of_ble_eq_true rfl)⟩ (Nat.le_of_ble_eq_true rfl) rfl dX7_bestCell_28 (fun r19 S19 H locs hp19 hQ _ => ?_)
        subst hp19
        refine lv_istore (lv' := [(5, .int r19), (4, .int x12_4), (3, .int x12_3), (2, .int x12_2), (0, .ref (ad 107)), (1, .int a1)]) hx hb dX7_bestCell_31 hl (by decide) rfl (fun ls hl => ?_)
        refine lv_iload hx hb dX7_bestCell_33 (lv_at hl 0 rfl) ?_
        refine lv_iload_n hx hb dX7_bestCell_35 rfl (lv_at hl 2 rfl) ?_
        refine lv_icmp_le (tgt := 45) hx hb dX7_bestCell_36 (by decide) (fun k20 => ?_) (fun k20 => ?_)
        · have h21 := ib_le k20
          obtain ⟨z22, e23⟩ : ∃ z : Int32, z = x12_4 + 1 := ⟨_, rfl⟩
          have t24 := ib_add e23 b17 (by decide : Bd 1 (1) (1)) (by decide) (by decide)
          have b25 : Bd z22 (2) (12) := ib_addb t24 b17 (by decide : Bd 1 (1) (1))
          have t24 : z22.toInt = x12_4.toInt + 1 := fold_add t24 rfl (by decide)
          refine lv_iinc (v := z22) (lv' := [(4, .int z22), (5, .int r19), (3, .int x12_3), (2, .int x12_2), (0, .ref (ad 107)), (1, .int a1)]) hx hb dX7_bestCell_45 hl (k := 1) rfl (by rw [e23]; rfl) (by decide) rfl (fun ls hl => ?_)
          refine lv_goto (tgt := 12) hx hb dX7_bestCell_48 (by decide) ?_
          exact ih12 _ _ _ x12_2 x12_3 z22 Bx12_2 (ib_wk b25 (by decide) (by decide)) (by omega) hQ (lv_sub hl [0, 2, 3, 4, 5] rfl)
        · have h26 := ib_nle k20
          have b27 : Bd x12_3 (-2147483648) (2147483646) := ⟨((ib_full x12_3)).1, ((rf_lt (ib_full x12_3) (ib_full r19) h26).1).2⟩
          have b28 : Bd r19 (-2147483647) (2147483647) := ⟨((rf_lt (ib_full x12_3) (ib_full r19) h26).2).1, ((ib_full r19)).2⟩
          refine lv_iload hx hb dX7_bestCell_39 (lv_at hl 0 rfl) ?_
          refine lv_istore_n (lv' := [(3, .int r19), (5, .int r19), (4, .int x12_4), (2, .int x12_2), (0, .ref (ad 107)), (1, .int a1)]) hx hb dX7_bestCell_41 rfl hl (by decide) rfl (fun ls hl => ?_)
          refine lv_iload hx hb dX7_bestCell_42 (lv_at hl 2 rfl) ?_
          refine lv_istore_n (lv' := [(2, .int x12_4), (3, .int r19), (5, .int r19), (4, .int x12_4), (0, .ref (ad 107)), (1, .int a1)]) hx hb dX7_bestCell_44 rfl hl (by decide) rfl (fun ls hl => ?_)
          obtain ⟨z29, e30⟩ : ∃ z : Int32, z = x12_4 + 1 := ⟨_, rfl⟩
          have t31 := ib_add e30 b17 (by decide : Bd 1 (1) (1)) (by decide) (by decide)
          have b32 : Bd z29 (2) (12) := ib_addb t31 b17 (by decide : Bd 1 (1) (1))
          have t31 : z29.toInt = x12_4.toInt + 1 := fold_add t31 rfl (by decide)
          refine lv_iinc (v := z29) (lv' := [(4, .int z29), (2, .int x12_4), (3, .int r19), (5, .int r19), (0, .ref (ad 107)), (1, .int a1)]) hx hb dX7_bestCell_45 hl (k := 3) rfl (by rw [e30]; rfl) (by decide) rfl (fun ls hl => ?_)
          refine lv_goto (tgt := 12) hx hb dX7_bestCell_48 (by decide) ?_
          exact ih12 _ _ _ x12_4 r19 z29 (ib_wk b17 (by decide) (by decide)) (ib_wk b32 (by decide) (by decide)) (by omega) hQ (lv_sub hl [0, 2, 1, 4, 5] rfl)
  obtain ⟨n12, hn12⟩ := fu_n (11)
  exact loop12 n12 _ _ _ 0 r1 1 (ib_wk (by decide : Bd 0 (0) (0)) (by decide) (by decide)) (ib_wk (by decide : Bd 1 (1) (1)) (by decide) (by decide)) (by have : (0 : Int32).toInt = 0 := (by decide); have : (1 : Int32).toInt = 1 := (by decide); omega) hQ (lv_sub hl [0, 1, 2, 3, 4] rfl)
set_option maxHeartbeats 4000000 in
set_option maxRecDepth 100000 in
theorem gX7_layPays_107 (l : Launch) (g : GG) (ad : Nat → Nat) (hD : Dj ad 122) (S : SS) (hI : InvX g ad S) : Met l yX7_layPays (wG (.code yX7_layPays cX7_layPays 5 none)) (Rm 3) (XPre g ad 122 S [.ref (ad 107)]) (va_Qv (fun S' => InvX g ad S' ∧ (∀ j, j ∉ ([108] : List Nat) → S' j = S j)) (QB g ad 122) (FA ad 122)) 0 0 (FA ad 122) := by
  refine xmet cX7_layPays "EbbWreck$Seating" (by decide) rfl (Nat.le_of_ble_eq_true rfl) (fun p e s m below meth c E hr hlk hml hQ ls hl => ?_)
  have hx := E.1
  have hb := E.2.1
  have hs : Sp ad 122 (FA ad 122) := Sp.fa hD
  have hl : lv_has ls 5 [(0, .ref (ad 107))] := hl
  refine lv_aload_n hx hb dX7_layPays_0 rfl (lv_at hl 0 rfl) ?_
  have c1 := invX_107 hI
  have c1 : S 107 = .inr (7, [.ref (ad 2), .ref (ad 95), .ref (ad 108), .ref (ad 109), .ref (ad 110)]) := c1
  refine xget E hQ 107 (by decide) c1 rfl 1 (by decide) q452 rfl dX7_layPays_1 ?_
  obtain ⟨v3, v4, c6, b5⟩ := invX_95 hI
  have c6 : S 95 = .inr (2, [.ref (ad 2), .ref (ad 96), .ref (ad 97), .ref (ad 98), .ref (ad 99), .ref (ad 100), .ref (ad 101), .int v3, .int v4]) := c6
  refine xcVi E hs hQ hml hl.1 95 (gX2_thingsLeftToSitters_95 l g ad hD S hI ) mX2_thingsLeftToSitters q1281 (by decide) c6 rfl rfl ⟨(Nat.le_of_ble_eq_true rfl), (Nat.le_of_ble_eq_true rfl)⟩ ⟨(Nat.le_of_ble_eq_true rfl), (Nat.le_of_ble_eq_true rfl)⟩ (Nat.le_of_ble_eq_true rfl) rfl dX7_layPays_4 (fun r2 S2 H locs hp2 hQ _ => ?_)
  subst hp2
  refine lv_istore_n (lv' := [(1, .int r2), (0, .ref (ad 107))]) hx hb dX7_layPays_7 rfl hl (by decide) rfl (fun ls hl => ?_)
  refine lv_iconst (v := 0) hx hb dX7_layPays_8 (by decide) ?_
  refine lv_istore_n (lv' := [(2, .int 0), (1, .int r2), (0, .ref (ad 107))]) hx hb dX7_layPays_9 rfl hl (by decide) rfl (fun ls hl => ?_)
  have loop10 : ∀ (n : Nat) (S_10 : SS) (H : Heap) (locs : List Loc) (ls : Array Slot) (x10_2 : Int32), Bd x10_2 (0) (12) → (-1) * x10_2.toInt + 12 < ((n : Nat) : Int) → InvX g ad S_10 → (∀ j, j ∉ ([108] : List Nat) → S_10 j = S j) → Hp g ad 122 S_10 (FA ad 122) s.heap H locs → lv_has ls 5 [(2, .int x10_2), (1, .int r2), (0, .ref (ad 107))] → W p l e (Rm 3) s m [.ref (ad 107)].toArray below meth c H locs 0 0 (MQ below (va_Qv (fun S' => InvX g ad S' ∧ (∀ j, j ∉ ([108] : List Nat) → S' j = S j)) (QB g ad 122) (FA ad 122)) [.ref (ad 107)].toArray s 0 0 (FA ad 122)) (F0 m 10 ls []) := by
    intro n
    induction n with
    | zero => intro S_10 H locs ls x10_2 Bx10_2 hn10_ hI hf10 hQ hl; exfalso; have := (Bx10_2).2; omega
    | succ n10_ ih10 =>
      intro S_10 H locs ls x10_2 Bx10_2 hn10_ hI hf10 hQ hl
      refine lv_iload_n hx hb dX7_layPays_10 rfl (lv_at hl 0 rfl) ?_
      refine lv_aload_n hx hb dX7_layPays_11 rfl (lv_at hl 2 rfl) ?_
      have c7 : S_10 107 = .inr (7, [.ref (ad 2), .ref (ad 95), .ref (ad 108), .ref (ad 109), .ref (ad 110)]) := ((hf10 107 (by decide)).trans c1)
      refine xget E hQ 107 (by decide) c7 rfl 0 (by decide) q451 rfl dX7_layPays_12 ?_
      obtain ⟨v8, v10, v12, v13, v14, v16, c18, b9, b11, b15, b17⟩ := invX_2 hI
      have c18 : S_10 2 = .inr (1, [.int v8, .int v10, .int v12, .ref (ad 3), .ref (ad 5), .ref (ad 6), .int v13, .int v14, .ref (ad 7), .ref (ad 8), .ref (ad 9), .ref (ad 10), .int v16, .ref (ad 15), .ref (ad 16)]) := c18
      refine xget E hQ 2 (by decide) c18 rfl 1 (by decide) q242 rfl dX7_layPays_15 ?_
      refine lv_icmp_ge (tgt := 72) hx hb dX7_layPays_18 (by decide) (fun k19 => ?_) (fun k19 => ?_)
      · have h20 := ib_le k19
        exact xrv E hr hlk hQ (⟨hI, (o_trans o_refl hf10 (by decide))⟩) dX7_layPays_72
      · have h21 := ib_nle k19
        have b22 : Bd x10_2 (0) (11) := ⟨(Bx10_2).1, ((rf_lt Bx10_2 b11 h21).1).2⟩
        have b23 : Bd v10 (1) (12) := ⟨((rf_lt Bx10_2 b11 h21).2).1, (b11).2⟩
        refine lv_aload_n hx hb dX7_layPays_21 rfl (lv_at hl 2 rfl) ?_
        refine xget E hQ 107 (by decide) c7 rfl 1 (by decide) q452 rfl dX7_layPays_22 ?_
        refine lv_iload_n hx hb dX7_layPays_25 rfl (lv_at hl 0 rfl) ?_
        have c25 : S_10 95 = .inr (2, [.ref (ad 2), .ref (ad 96), .ref (ad 97), .ref (ad 98), .ref (ad 99), .ref (ad 100), .ref (ad 101), .int v3, .int v4]) := ((hf10 95 (by decide)).trans c6)
        refine xcVi E hs hQ hml hl.1 95 (gX2_thingsUpOn_95 l g ad hD S_10 hI x10_2) mX2_thingsUpOn q1280 (by decide) c25 rfl rfl ⟨(Nat.le_of_ble_eq_true rfl), (Nat.le_of_ble_eq_true rfl)⟩ ⟨(Nat.le_of_ble_eq_true rfl), (Nat.le_of_ble_eq_true rfl)⟩ (Nat.le_of_ble_eq_true rfl) rfl dX7_layPays_26 (fun r24 S24 H locs hp24 hQ _ => ?_)
        subst hp24
        refine lv_iload_n hx hb dX7_layPays_29 rfl (lv_at hl 1 rfl) ?_
        refine lv_iand hx hb dX7_layPays_30 ?_
        refine lv_topi (fun z26 e27 => ?_)
        refine lv_istore_n (lv' := [(3, .int z26), (2, .int x10_2), (1, .int r2), (0, .ref (ad 107))]) hx hb dX7_layPays_31 rfl hl (by decide) rfl (fun ls hl => ?_)
        refine lv_iconst (v := 1) hx hb dX7_layPays_32 (by decide) ?_
        refine lv_istore (lv' := [(4, .int 1), (3, .int z26), (2, .int x10_2), (1, .int r2), (0, .ref (ad 107))]) hx hb dX7_layPays_33 hl (by decide) rfl (fun ls hl => ?_)
        have loop35 : ∀ (n : Nat) (S_35 : SS) (H : Heap) (locs : List Loc) (ls : Array Slot) (x35_4 : Int32), Bd x35_4 (1) (4) → (-1) * x35_4.toInt + 4 < ((n : Nat) : Int) → InvX g ad S_35 → (∀ j, j ∉ ([108] : List Nat) → S_35 j = S_10 j) → Hp g ad 122 S_35 (FA ad 122) s.heap H locs → lv_has ls 5 [(4, .int x35_4), (3, .int z26), (2, .int x10_2), (1, .int r2), (0, .ref (ad 107))] → W p l e (Rm 3) s m [.ref (ad 107)].toArray below meth c H locs 0 0 (MQ below (va_Qv (fun S' => InvX g ad S' ∧ (∀ j, j ∉ ([108] : List Nat) → S' j = S j)) (QB g ad 122) (FA ad 122)) [.ref (ad 107)].toArray s 0 0 (FA ad 122)) (F0 m 35 ls []) := by
          intro n
          induction n with
          | zero => intro S_35 H locs ls x35_4 Bx35_4 hn35_ hI hf35 hQ hl; exfalso; have := (Bx35_4).2; omega
          | succ n35_ ih35 =>
            intro S_35 H locs ls x35_4 Bx35_4 hn35_ hI hf35 hQ hl
            refine lv_iload hx hb dX7_layPays_35 (lv_at hl 0 rfl) ?_
            refine lv_iconst (v := 3) hx hb dX7_layPays_37 (by decide) ?_
            refine lv_icmp_gt (tgt := 66) hx hb dX7_layPays_38 (by decide) (fun k28 => ?_) (fun k28 => ?_)
            · have h29 := ib_lt k28
              have b30 : Bd x35_4 (4) (4) := ⟨((rf_lt (by decide : Bd 3 (3) (3)) Bx35_4 h29).2).1, (Bx35_4).2⟩
              obtain ⟨z31, e32⟩ : ∃ z : Int32, z = x10_2 + 1 := ⟨_, rfl⟩
              have t33 := ib_add e32 b22 (by decide : Bd 1 (1) (1)) (by decide) (by decide)
              have b34 : Bd z31 (1) (12) := ib_addb t33 b22 (by decide : Bd 1 (1) (1))
              have t33 : z31.toInt = x10_2.toInt + 1 := fold_add t33 rfl (by decide)
              refine lv_iinc (v := z31) (lv' := [(2, .int z31), (4, .int x35_4), (3, .int z26), (1, .int r2), (0, .ref (ad 107))]) hx hb dX7_layPays_66 hl (k := 2) rfl (by rw [e32]; rfl) (by decide) rfl (fun ls hl => ?_)
              refine lv_goto (tgt := 10) hx hb dX7_layPays_69 (by decide) ?_
              exact ih10 _ _ _ _ z31 (ib_wk b34 (by decide) (by decide)) (by omega) hI (o_trans hf10 hf35 (by decide)) hQ (lv_sub hl [0, 3, 4] rfl)
            · have h35 := ib_nlt k28
              have b36 : Bd x35_4 (1) (3) := ⟨(Bx35_4).1, ((rf_le Bx35_4 (by decide : Bd 3 (3) (3)) h35).1).2⟩
              refine lv_aload_n hx hb dX7_layPays_41 rfl (lv_at hl 4 rfl) ?_
              have c37 : S_35 107 = .inr (7, [.ref (ad 2), .ref (ad 95), .ref (ad 108), .ref (ad 109), .ref (ad 110)]) := ((hf35 107 (by decide)).trans c7)
              refine xget E hQ 107 (by decide) c37 rfl 2 (by decide) q453 rfl dX7_layPays_42 ?_
              refine lv_iload hx hb dX7_layPays_45 (lv_at hl 0 rfl) ?_
              refine lv_bipush (v := 12) hx hb dX7_layPays_47 (by decide) ?_
              refine lv_imul hx hb dX7_layPays_49 ?_
              refine lv_topi (fun z38 e39 => ?_)
              have t40 := ib_mulc (q := 12) e39 (by decide) (by decide) b36 (by decide) (by decide)
              have b41 : Bd z38 (12) (36) := ib_mulb t40 (by decide) b36
              refine lv_iload_n hx hb dX7_layPays_50 rfl (lv_at hl 2 rfl) ?_
              refine lv_iadd hx hb dX7_layPays_51 ?_
              refine lv_topi (fun z42 e43 => ?_)
              have t44 := ib_add e43 b41 b22 (by decide) (by decide)
              have b45 : Bd z42 (12) (47) := ib_addb t44 b41 b22
              refine lv_aload_n hx hb dX7_layPays_52 rfl (lv_at hl 4 rfl) ?_
              refine lv_iload_n hx hb dX7_layPays_53 rfl (lv_at hl 1 rfl) ?_
              refine lv_iload hx hb dX7_layPays_54 (lv_at hl 0 rfl) ?_
              refine xcVi E hs hQ hml hl.1 107 (gX7_payFor_107 l g ad hD S_35 hI z26 x35_4) mX7_payFor q1286 (by decide) c37 rfl rfl ⟨(Nat.le_of_ble_eq_true rfl), (Nat.le_of_ble_eq_true rfl)⟩ ⟨(Nat.le_of_ble_eq_true rfl), (Nat.le_of_ble_eq_true rfl)⟩ (Nat.le_of_ble_eq_true rfl) rfl dX7_layPays_56 (fun r46 S46 H locs hp46 hQ _ => ?_)
              subst hp46
              obtain ⟨f47, c48⟩ := invX_108 hI
              refine xiast E hs hQ 108 (by decide) c48 (ib_in b45 (by decide) (by decide)) dX7_layPays_59 (fun H locs S50 eS50 hQ => ?_)
              have hI := invX_up_108 hI eS50 ⟨_, rfl⟩
              have c51 : S50 108 = .inl (g.2 0, 48, .inl (upd f47 (z42 : Int32).toNatClampNeg r46)) := up_at eS50 rfl
              obtain ⟨z52, e53⟩ : ∃ z : Int32, z = x35_4 + 1 := ⟨_, rfl⟩
              have t54 := ib_add e53 b36 (by decide : Bd 1 (1) (1)) (by decide) (by decide)
              have b55 : Bd z52 (2) (4) := ib_addb t54 b36 (by decide : Bd 1 (1) (1))
              have t54 : z52.toInt = x35_4.toInt + 1 := fold_add t54 rfl (by decide)
              refine lv_iinc (v := z52) (lv' := [(4, .int z52), (3, .int z26), (2, .int x10_2), (1, .int r2), (0, .ref (ad 107))]) hx hb dX7_layPays_60 hl (k := 0) rfl (by rw [e53]; rfl) (by decide) rfl (fun ls hl => ?_)
              refine lv_goto (tgt := 35) hx hb dX7_layPays_63 (by decide) ?_
              exact ih35 _ _ _ _ z52 (ib_wk b55 (by decide) (by decide)) (by omega) hI (up_o hf35 eS50 (by decide)) hQ (lv_sub hl [0, 1, 2, 3, 4] rfl)
        obtain ⟨n35, hn35⟩ := fu_n (3)
        exact loop35 n35 _ _ _ _ 1 (ib_wk (by decide : Bd 1 (1) (1)) (by decide) (by decide)) (by have : (1 : Int32).toInt = 1 := (by decide); omega) hI o_refl hQ (lv_sub hl [0, 1, 2, 3, 4] rfl)
  obtain ⟨n10, hn10⟩ := fu_n (12)
  exact loop10 n10 _ _ _ _ 0 (ib_wk (by decide : Bd 0 (0) (0)) (by decide) (by decide)) (by have : (0 : Int32).toInt = 0 := (by decide); omega) hI o_refl hQ (lv_sub hl [0, 1, 2] rfl)
set_option maxHeartbeats 4000000 in
set_option maxRecDepth 100000 in
theorem gX7_countWays_107 (l : Launch) (g : GG) (ad : Nat → Nat) (hD : Dj ad 122) (S : SS) (hI : InvX g ad S) : Met l yX7_countWays (wG (.code yX7_countWays cX7_countWays 3 (some .int))) (Rm 0) (XPre g ad 122 S [.ref (ad 107)]) (va_Qi (fun _ S' => S = S') (QB g ad 122) (FA ad 122)) 0 0 (FA ad 122) := by
  refine xmet cX7_countWays "EbbWreck$Seating" (by decide) rfl (Nat.le_of_ble_eq_true rfl) (fun p e s m below meth c E hr hlk hml hQ ls hl => ?_)
  have hx := E.1
  have hb := E.2.1
  have hs : Sp ad 122 (FA ad 122) := Sp.fa hD
  have hl : lv_has ls 3 [(0, .ref (ad 107))] := hl
  refine lv_iconst (v := 1) hx hb dX7_countWays_0 (by decide) ?_
  refine lv_istore_n (lv' := [(1, .int 1), (0, .ref (ad 107))]) hx hb dX7_countWays_1 rfl hl (by decide) rfl (fun ls hl => ?_)
  refine lv_iconst (v := 0) hx hb dX7_countWays_2 (by decide) ?_
  refine lv_istore_n (lv' := [(2, .int 0), (1, .int 1), (0, .ref (ad 107))]) hx hb dX7_countWays_3 rfl hl (by decide) rfl (fun ls hl => ?_)
  have loop4 : ∀ (n : Nat) (H : Heap) (locs : List Loc) (ls : Array Slot) (x4_1 : Int32) (x4_2 : Int32), Bd x4_2 (0) (3) → (-1) * x4_2.toInt + 3 < ((n : Nat) : Int) → Hp g ad 122 S (FA ad 122) s.heap H locs → lv_has ls 3 [(2, .int x4_2), (1, .int x4_1), (0, .ref (ad 107))] → W p l e (Rm 0) s m [.ref (ad 107)].toArray below meth c H locs 0 0 (MQ below (va_Qi (fun _ S' => S = S') (QB g ad 122) (FA ad 122)) [.ref (ad 107)].toArray s 0 0 (FA ad 122)) (F0 m 4 ls []) := by
    intro n
    induction n with
    | zero => intro H locs ls x4_1 x4_2 Bx4_2 hn4_ hQ hl; exfalso; have := (Bx4_2).2; omega
    | succ n4_ ih4 =>
      intro H locs ls x4_1 x4_2 Bx4_2 hn4_ hQ hl
      refine lv_iload_n hx hb dX7_countWays_4 rfl (lv_at hl 0 rfl) ?_
      refine lv_aload_n hx hb dX7_countWays_5 rfl (lv_at hl 2 rfl) ?_
      have c1 := invX_107 hI
      have c1 : S 107 = .inr (7, [.ref (ad 2), .ref (ad 95), .ref (ad 108), .ref (ad 109), .ref (ad 110)]) := c1
      refine xget E hQ 107 (by decide) c1 rfl 0 (by decide) q451 rfl dX7_countWays_6 ?_
      obtain ⟨v2, v4, v6, v7, v8, v10, c12, b3, b5, b9, b11⟩ := invX_2 hI
      have c12 : S 2 = .inr (1, [.int v2, .int v4, .int v6, .ref (ad 3), .ref (ad 5), .ref (ad 6), .int v7, .int v8, .ref (ad 7), .ref (ad 8), .ref (ad 9), .ref (ad 10), .int v10, .ref (ad 15), .ref (ad 16)]) := c12
      refine xget E hQ 2 (by decide) c12 rfl 12 (by decide) q294 rfl dX7_countWays_9 ?_
      refine lv_icmp_ge (tgt := 31) hx hb dX7_countWays_12 (by decide) (fun k13 => ?_) (fun k13 => ?_)
      · have h14 := ib_le k13
        refine lv_iload_n hx hb dX7_countWays_31 rfl (lv_at hl 1 rfl) ?_
        exact xri E hr hlk hQ (rfl) dX7_countWays_32
      · have h15 := ib_nle k13
        have b16 : Bd x4_2 (0) (2) := ⟨(Bx4_2).1, ((rf_lt Bx4_2 b11 h15).1).2⟩
        have b17 : Bd v10 (1) (3) := ⟨((rf_lt Bx4_2 b11 h15).2).1, (b11).2⟩
        refine lv_iload_n hx hb dX7_countWays_15 rfl (lv_at hl 1 rfl) ?_
        refine lv_aload_n hx hb dX7_countWays_16 rfl (lv_at hl 2 rfl) ?_
        refine xget E hQ 107 (by decide) c1 rfl 0 (by decide) q451 rfl dX7_countWays_17 ?_
        refine xget E hQ 2 (by decide) c12 rfl 1 (by decide) q242 rfl dX7_countWays_20 ?_
        refine lv_imul hx hb dX7_countWays_23 ?_
        refine lv_topi (fun z18 e19 => ?_)
        refine lv_istore_n (lv' := [(1, .int z18), (2, .int x4_2), (0, .ref (ad 107))]) hx hb dX7_countWays_24 rfl hl (by decide) rfl (fun ls hl => ?_)
        obtain ⟨z20, e21⟩ : ∃ z : Int32, z = x4_2 + 1 := ⟨_, rfl⟩
        have t22 := ib_add e21 b16 (by decide : Bd 1 (1) (1)) (by decide) (by decide)
        have b23 : Bd z20 (1) (3) := ib_addb t22 b16 (by decide : Bd 1 (1) (1))
        have t22 : z20.toInt = x4_2.toInt + 1 := fold_add t22 rfl (by decide)
        refine lv_iinc (v := z20) (lv' := [(2, .int z20), (1, .int z18), (0, .ref (ad 107))]) hx hb dX7_countWays_25 hl (k := 1) rfl (by rw [e21]; rfl) (by decide) rfl (fun ls hl => ?_)
        refine lv_goto (tgt := 4) hx hb dX7_countWays_28 (by decide) ?_
        exact ih4 _ _ _ z18 z20 (ib_wk b23 (by decide) (by decide)) (by omega) hQ (lv_sub hl [0, 1, 2] rfl)
  obtain ⟨n4, hn4⟩ := fu_n (3)
  exact loop4 n4 _ _ _ 1 0 (ib_wk (by decide : Bd 0 (0) (0)) (by decide) (by decide)) (by have : (1 : Int32).toInt = 1 := (by decide); have : (0 : Int32).toInt = 0 := (by decide); omega) hQ (lv_sub hl [0, 1, 2] rfl)
set_option maxHeartbeats 4000000 in
set_option maxRecDepth 100000 in
theorem gX7_tryWay_107 (l : Launch) (g : GG) (ad : Nat → Nat) (hD : Dj ad 122) (S : SS) (hI : InvX g ad S) (a1 : Int32) (ba1 : Bd a1 (0) (2147483647)) : Met l yX7_tryWay (wG (.code yX7_tryWay cX7_tryWay 5 (some .boolean))) (Rm 1) (XPre g ad 122 S [.ref (ad 107), .int a1]) (va_Qi (fun r S' => InvX g ad S' ∧ (∀ j, j ∉ ([109, 110] : List Nat) → S' j = S j) ∧ Bd r (0) (1) ∧ (r.toInt = 0 ∨ CWp (S' 109) (S' 110) 3 0 (fld (S' 2) 12))) (QB g ad 122) (FA ad 122)) 0 0 (FA ad 122) := by
  refine xmet cX7_tryWay "EbbWreck$Seating" (by decide) rfl (Nat.le_of_ble_eq_true rfl) (fun p e s m below meth c E hr hlk hml hQ ls hl => ?_)
  have hx := E.1
  have hb := E.2.1
  have hs : Sp ad 122 (FA ad 122) := Sp.fa hD
  have hl : lv_has ls 5 [(0, .ref (ad 107)), (1, .int a1)] := hl
  obtain ⟨v1, v3, v5, v6, v7, v9, c11, b2, b4, b8, b10⟩ := invX_2 hI
  have c11 : S 2 = .inr (1, [.int v1, .int v3, .int v5, .ref (ad 3), .ref (ad 5), .ref (ad 6), .int v6, .int v7, .ref (ad 7), .ref (ad 8), .ref (ad 9), .ref (ad 10), .int v9, .ref (ad 15), .ref (ad 16)]) := c11
  refine lv_aload_n hx hb dX7_tryWay_0 rfl (lv_at hl 0 rfl) ?_
  have c12 := invX_107 hI
  have c12 : S 107 = .inr (7, [.ref (ad 2), .ref (ad 95), .ref (ad 108), .ref (ad 109), .ref (ad 110)]) := c12
  refine xget E hQ 107 (by decide) c12 rfl 3 (by decide) q454 rfl dX7_tryWay_1 ?_
  refine lv_iconst (v := 0) hx hb dX7_tryWay_4 (by decide) ?_
  obtain ⟨f13, c14⟩ := invX_109 hI
  refine xcSv E hs hQ hml hl.1 (uFillI l g ad 122 hD S 109 (by decide) 12 (by decide) f13 0 c14) mJ7_fill_53178 q1323 rfl ⟨(Nat.le_of_ble_eq_true rfl), (Nat.le_of_ble_eq_true rfl)⟩ ⟨(Nat.le_of_ble_eq_true rfl), (Nat.le_of_ble_eq_true rfl)⟩ (Nat.le_of_ble_eq_true rfl) rfl dX7_tryWay_5 (fun S16 H locs eS16 hQ => ?_)
  have hI := invX_up_109 hI eS16 ⟨_, rfl⟩
  have c17 : S16 109 = .inl (g.2 0, 12, .inl (fillF 0 12 f13)) := up_at eS16 rfl
  refine lv_iload_n hx hb dX7_tryWay_8 rfl (lv_at hl 1 rfl) ?_
  refine lv_istore_n (lv' := [(2, .int a1), (0, .ref (ad 107)), (1, .int a1)]) hx hb dX7_tryWay_9 rfl hl (by decide) rfl (fun ls hl => ?_)
  refine lv_aload_n hx hb dX7_tryWay_10 rfl (lv_at hl 1 rfl) ?_
  have c18 : S16 107 = .inr (7, [.ref (ad 2), .ref (ad 95), .ref (ad 108), .ref (ad 109), .ref (ad 110)]) := (up_ne eS16 (by decide) c12)
  refine xget E hQ 107 (by decide) c18 rfl 0 (by decide) q451 rfl dX7_tryWay_11 ?_
  have c19 : S16 2 = .inr (1, [.int v1, .int v3, .int v5, .ref (ad 3), .ref (ad 5), .ref (ad 6), .int v6, .int v7, .ref (ad 7), .ref (ad 8), .ref (ad 9), .ref (ad 10), .int v9, .ref (ad 15), .ref (ad 16)]) := (up_ne eS16 (by decide) c11)
  refine xget E hQ 2 (by decide) c19 rfl 12 (by decide) q294 rfl dX7_tryWay_14 ?_
  refine lv_iconst (v := 1) hx hb dX7_tryWay_17 (by decide) ?_
  refine lv_isub hx hb dX7_tryWay_18 ?_
  refine lv_topi (fun z20 e21 => ?_)
  have t22 := ib_sub e21 b10 (by decide : Bd 1 (1) (1)) (by decide) (by decide)
  have b23 : Bd z20 (-1) (2) := ib_subb t22 b10 (by decide : Bd 1 (1) (1))
  have t22 : z20.toInt = v9.toInt - 1 := fold_sub t22 rfl (by decide)
  refine lv_istore_n (lv' := [(3, .int z20), (2, .int a1), (0, .ref (ad 107)), (1, .int a1)]) hx hb dX7_tryWay_19 rfl hl (by decide) rfl (fun ls hl => ?_)
  have loop20 : ∀ (n : Nat) (S_20 : SS) (H : Heap) (locs : List Loc) (ls : Array Slot) (x20_2 : Int32) (x20_3 : Int32), Bd x20_2 (0) (2147483647) → Bd x20_3 (-1) (2) → x20_3.toInt + 1 < ((n : Nat) : Int) → InvX g ad S_20 → (∀ j, j ∉ ([109, 110] : List Nat) → S_20 j = S16 j) → CWp (S_20 109) (S_20 110) (v9.toInt - 1 - x20_3.toInt) (x20_3.toInt + 1) v9.toInt → Hp g ad 122 S_20 (FA ad 122) s.heap H locs → lv_has ls 5 [(3, .int x20_3), (2, .int x20_2), (0, .ref (ad 107)), (1, .int a1)] → W p l e (Rm 1) s m [.ref (ad 107), .int a1].toArray below meth c H locs 0 0 (MQ below (va_Qi (fun r S' => InvX g ad S' ∧ (∀ j, j ∉ ([109, 110] : List Nat) → S' j = S j) ∧ Bd r (0) (1) ∧ (r.toInt = 0 ∨ CWp (S' 109) (S' 110) 3 0 (fld (S' 2) 12))) (QB g ad 122) (FA ad 122)) [.ref (ad 107), .int a1].toArray s 0 0 (FA ad 122)) (F0 m 20 ls []) := by
    intro n
    induction n with
    | zero => intro S_20 H locs ls x20_2 x20_3 Bx20_2 Bx20_3 hn20_ hI hf20 hC20 hQ hl; exfalso; have := (Bx20_3).1; omega
    | succ n20_ ih20 =>
      intro S_20 H locs ls x20_2 x20_3 Bx20_2 Bx20_3 hn20_ hI hf20 hC20 hQ hl
      refine lv_iload_n hx hb dX7_tryWay_20 rfl (lv_at hl 0 rfl) ?_
      obtain ⟨f24, c25⟩ := invX_109 hI
      obtain ⟨f27, c28, b29⟩ := invX_110 hI
      refine lv_if_lt (tgt := 114) hx hb dX7_tryWay_21 (by decide) (fun k30 => ?_) (fun k30 => ?_)
      · have h31 := ib_lt k30
        have b32 : Bd x20_3 (-1) (-1) := ⟨(Bx20_3).1, ((rf_lt Bx20_3 (by decide : Bd 0 (0) (0)) h31).1).2⟩
        refine lv_iconst (v := 1) hx hb dX7_tryWay_114 (by decide) ?_
        have c33 : S_20 2 = .inr (1, [.int v1, .int v3, .int v5, .ref (ad 3), .ref (ad 5), .ref (ad 6), .int v6, .int v7, .ref (ad 7), .ref (ad 8), .ref (ad 9), .ref (ad 10), .int v9, .ref (ad 15), .ref (ad 16)]) := ((hf20 2 (by decide)).trans c19)
        have q34 : fld (S_20 2) 12 = v9.toInt := fld_of c33 rfl
        exact xrz E hr hlk hQ rfl (⟨hI, (o_trans (up_o o_refl eS16 (by decide)) hf20 (by decide)), (ib_wk (by decide : Bd 1 (1) (1)) (by decide) (by decide)), Or.inr (cw_k9 hC20 (by omega) (by omega) (by omega))⟩) dX7_tryWay_115
      · have h35 := ib_nlt k30
        have b36 : Bd x20_3 (0) (2) := ⟨((rf_le (by decide : Bd 0 (0) (0)) Bx20_3 h35).2).1, (Bx20_3).2⟩
        refine lv_aload_n hx hb dX7_tryWay_24 rfl (lv_at hl 2 rfl) ?_
        have c37 : S_20 107 = .inr (7, [.ref (ad 2), .ref (ad 95), .ref (ad 108), .ref (ad 109), .ref (ad 110)]) := ((hf20 107 (by decide)).trans c18)
        refine xget E hQ 107 (by decide) c37 rfl 0 (by decide) q451 rfl dX7_tryWay_25 ?_
        have c38 : S_20 2 = .inr (1, [.int v1, .int v3, .int v5, .ref (ad 3), .ref (ad 5), .ref (ad 6), .int v6, .int v7, .ref (ad 7), .ref (ad 8), .ref (ad 9), .ref (ad 10), .int v9, .ref (ad 15), .ref (ad 16)]) := ((hf20 2 (by decide)).trans c19)
        refine xget E hQ 2 (by decide) c38 rfl 1 (by decide) q242 rfl dX7_tryWay_28 ?_
        refine lv_iconst (v := 1) hx hb dX7_tryWay_31 (by decide) ?_
        refine lv_icmp_ge (tgt := 39) hx hb dX7_tryWay_32 (by decide) (fun k39 => ?_) (fun k39 => ?_)
        · have h40 := ib_le k39
          have b41 : Bd v3 (1) (12) := ⟨((rf_le (by decide : Bd 1 (1) (1)) b4 h40).2).1, (b4).2⟩
          refine lv_iload_n hx hb dX7_tryWay_39 rfl (lv_at hl 1 rfl) ?_
          refine lv_aload_n hx hb dX7_tryWay_40 rfl (lv_at hl 2 rfl) ?_
          refine xget E hQ 107 (by decide) c37 rfl 0 (by decide) q451 rfl dX7_tryWay_41 ?_
          refine xget E hQ 2 (by decide) c38 rfl 1 (by decide) q242 rfl dX7_tryWay_44 ?_
          refine lv_irem hx hb dX7_tryWay_47 (ib_ne0 b41 (by decide)) ?_
          refine lv_topi (fun z42 e43 => ?_)
          have b45 : Bd z42 (0) (11) := ib_remp e43 Bx20_2 b41 (by decide) (by decide)
          have rx44 := ib_remx e43 Bx20_2 b41 (by decide)
          refine lv_istore (lv' := [(4, .int z42), (3, .int x20_3), (2, .int x20_2), (0, .ref (ad 107)), (1, .int a1)]) hx hb dX7_tryWay_48 hl (by decide) rfl (fun ls hl => ?_)
          refine lv_aload_n hx hb dX7_tryWay_50 rfl (lv_at hl 3 rfl) ?_
          refine xget E hQ 107 (by decide) c37 rfl 0 (by decide) q451 rfl dX7_tryWay_51 ?_
          refine xget E hQ 2 (by decide) c38 rfl 1 (by decide) q242 rfl dX7_tryWay_54 ?_
          refine lv_iconst (v := 1) hx hb dX7_tryWay_57 (by decide) ?_
          refine lv_icmp_ge (tgt := 65) hx hb dX7_tryWay_58 (by decide) (fun k46 => ?_) (fun k46 => ?_)
          · have h47 := ib_le k46
            refine lv_iload_n hx hb dX7_tryWay_65 rfl (lv_at hl 2 rfl) ?_
            refine lv_aload_n hx hb dX7_tryWay_66 rfl (lv_at hl 3 rfl) ?_
            refine xget E hQ 107 (by decide) c37 rfl 0 (by decide) q451 rfl dX7_tryWay_67 ?_
            refine xget E hQ 2 (by decide) c38 rfl 1 (by decide) q242 rfl dX7_tryWay_70 ?_
            refine lv_idiv hx hb dX7_tryWay_73 (ib_ne0 b41 (by decide)) ?_
            refine lv_topi (fun z48 e49 => ?_)
            have b50 : Bd z48 (0) (2147483647) := ib_divp e49 Bx20_2 b41 (by decide) (by decide)
            refine lv_istore_n (lv' := [(2, .int z48), (4, .int z42), (3, .int x20_3), (0, .ref (ad 107)), (1, .int a1)]) hx hb dX7_tryWay_74 rfl hl (by decide) rfl (fun ls hl => ?_)
            refine lv_aload_n hx hb dX7_tryWay_75 rfl (lv_at hl 3 rfl) ?_
            refine xget E hQ 107 (by decide) c37 rfl 0 (by decide) q451 rfl dX7_tryWay_76 ?_
            refine lv_iload hx hb dX7_tryWay_79 (lv_at hl 1 rfl) ?_
            refine xcVi E hs hQ hml hl.1 2 (gX1_isBeach_2 l g ad hD S_20 hI z42) mX1_isBeach q1324 (by decide) c38 rfl rfl ⟨(Nat.le_of_ble_eq_true rfl), (Nat.le_of_ble_eq_true rfl)⟩ ⟨(Nat.le_of_ble_eq_true rfl), (Nat.le_of_ble_eq_true rfl)⟩ (Nat.le_of_ble_eq_true rfl) rfl dX7_tryWay_81 (fun r51 S51 H locs hp51 hQ _ => ?_)
            obtain ⟨rfl, b51⟩ := hp51
            refine lv_if_ne (tgt := 89) hx hb dX7_tryWay_84 (by decide) (fun k52 => ?_) (fun k52 => ?_)
            · have h53 := ib_ne k52
              have b54 : Bd r51 (1) (1) := rf_nlo b51 (by decide : Bd 0 (0) (0)) h53
              refine lv_aload_n hx hb dX7_tryWay_89 rfl (lv_at hl 3 rfl) ?_
              refine xget E hQ 107 (by decide) c37 rfl 4 (by decide) q455 rfl dX7_tryWay_90 ?_
              refine lv_iload_n hx hb dX7_tryWay_93 rfl (lv_at hl 2 rfl) ?_
              refine lv_iload hx hb dX7_tryWay_94 (lv_at hl 1 rfl) ?_
              refine xiast E hs hQ 110 (by decide) c28 (ib_in b36 (by decide) (by decide)) dX7_tryWay_96 (fun H locs S55 eS55 hQ => ?_)
              have hI := invX_up_110 hI eS55 ⟨_, rfl, upd_b b29 b45⟩
              have b57 : ∀ j, Bd ((upd f27 (x20_3 : Int32).toNatClampNeg z42) j) (0) (11) := upd_b b29 b45
              have c56 : S55 110 = .inl (g.2 0, 3, .inl (upd f27 (x20_3 : Int32).toNatClampNeg z42)) := up_at eS55 rfl
              refine lv_aload_n hx hb dX7_tryWay_97 rfl (lv_at hl 3 rfl) ?_
              have c58 : S55 107 = .inr (7, [.ref (ad 2), .ref (ad 95), .ref (ad 108), .ref (ad 109), .ref (ad 110)]) := (up_ne eS55 (by decide) c37)
              refine xget E hQ 107 (by decide) c58 rfl 3 (by decide) q454 rfl dX7_tryWay_98 ?_
              refine lv_iload hx hb dX7_tryWay_101 (lv_at hl 1 rfl) ?_
              refine lv_dup2_11 hx hb dX7_tryWay_103 rfl rfl ?_
              have c59 : S55 109 = .inl (g.2 0, 12, .inl f24) := (up_ne eS55 (by decide) c25)
              refine xiald E hQ 109 (by decide) c59 (ib_in b45 (by decide) (by decide)) dX7_tryWay_104 ?_
              refine lv_topi (fun z60 e61 => ?_)
              have b62 : Bd z60 (0) (2) := cw_b0 hC20 c25 b45 e61 (by omega)
              refine lv_iconst (v := 1) hx hb dX7_tryWay_105 (by decide) ?_
              refine lv_iadd hx hb dX7_tryWay_106 ?_
              refine lv_topi (fun z63 e64 => ?_)
              have t65 := ib_add e64 b62 (by decide : Bd 1 (1) (1)) (by decide) (by decide)
              have b66 : Bd z63 (1) (3) := ib_addb t65 b62 (by decide : Bd 1 (1) (1))
              have t65 : z63.toInt = z60.toInt + 1 := fold_add t65 rfl (by decide)
              refine xiast E hs hQ 109 (by decide) c59 (ib_in b45 (by decide) (by decide)) dX7_tryWay_107 (fun H locs S67 eS67 hQ => ?_)
              have hI := invX_up_109 hI eS67 ⟨_, rfl⟩
              have c68 : S67 109 = .inl (g.2 0, 12, .inl (upd f24 (z42 : Int32).toNatClampNeg z63)) := up_at eS67 rfl
              obtain ⟨z69, e70⟩ : ∃ z : Int32, z = x20_3 + (-1) := ⟨_, rfl⟩
              have t71 := ib_add e70 b36 (by decide : Bd (-1) (-1) (-1)) (by decide) (by decide)
              have b72 : Bd z69 (-1) (1) := ib_addb t71 b36 (by decide : Bd (-1) (-1) (-1))
              have t71 : z69.toInt = x20_3.toInt + (-1) := fold_add t71 rfl (by decide)
              refine lv_iinc (v := z69) (lv' := [(3, .int z69), (2, .int z48), (4, .int z42), (0, .ref (ad 107)), (1, .int a1)]) hx hb dX7_tryWay_108 hl (k := 2) rfl (by rw [e70]; rfl) (by decide) rfl (fun ls hl => ?_)
              refine lv_goto (tgt := 20) hx hb dX7_tryWay_111 (by decide) ?_
              have c73 : S67 110 = .inl (g.2 0, 3, .inl (upd f27 (x20_3 : Int32).toNatClampNeg z42)) := (up_ne eS67 (by decide) c56)
              exact ih20 _ _ _ _ z48 z69 b50 (ib_wk b72 (by decide) (by decide)) (by omega) hI (up_o (up_o hf20 eS55 (by decide)) eS67 (by decide)) (cw_s9 hC20 c25 c28 c68 c73 b45 (by omega) e61 (by omega) (by omega) (by omega) (by omega) (by omega)) hQ (lv_sub hl [0, 1, 3, 4] rfl)
            · have h74 := ib_eq k52
              have b75 : Bd r51 (0) (0) := ⟨(b51).1, ((rf_eq b51 (by decide : Bd 0 (0) (0)) h74).1).2⟩
              refine lv_iconst (v := 0) hx hb dX7_tryWay_87 (by decide) ?_
              exact xrz E hr hlk hQ rfl (⟨hI, (o_trans (up_o o_refl eS16 (by decide)) hf20 (by decide)), (ib_wk (by decide : Bd 0 (0) (0)) (by decide) (by decide)), Or.inl (by decide)⟩) dX7_tryWay_88
          · have h76 := ib_nle k46
            have b77 : Bd v3 (1) (0) := ⟨(b41).1, ((rf_lt b41 (by decide : Bd 1 (1) (1)) h76).1).2⟩
            exact absurd (Int.le_trans b77.1 b77.2) (by decide)
        · have h78 := ib_nle k39
          have b79 : Bd v3 (0) (0) := ⟨(b4).1, ((rf_lt b4 (by decide : Bd 1 (1) (1)) h78).1).2⟩
          refine lv_iconst (v := 0) hx hb dX7_tryWay_35 (by decide) ?_
          refine lv_goto (tgt := 48) hx hb dX7_tryWay_36 (by decide) ?_
          refine lv_istore (lv' := [(4, .int 0), (3, .int x20_3), (2, .int x20_2), (0, .ref (ad 107)), (1, .int a1)]) hx hb dX7_tryWay_48 hl (by decide) rfl (fun ls hl => ?_)
          refine lv_aload_n hx hb dX7_tryWay_50 rfl (lv_at hl 3 rfl) ?_
          refine xget E hQ 107 (by decide) c37 rfl 0 (by decide) q451 rfl dX7_tryWay_51 ?_
          refine xget E hQ 2 (by decide) c38 rfl 1 (by decide) q242 rfl dX7_tryWay_54 ?_
          refine lv_iconst (v := 1) hx hb dX7_tryWay_57 (by decide) ?_
          refine lv_icmp_ge (tgt := 65) hx hb dX7_tryWay_58 (by decide) (fun k80 => ?_) (fun k80 => ?_)
          · have h81 := ib_le k80
            exact absurd (Int.le_trans ((by decide : Bd 1 (1) (1))).1 ((rf_le (by decide : Bd 1 (1) (1)) b79 h81).1).2) (by decide)
          · have h82 := ib_nle k80
            refine lv_iconst (v := 0) hx hb dX7_tryWay_61 (by decide) ?_
            refine lv_goto (tgt := 74) hx hb dX7_tryWay_62 (by decide) ?_
            refine lv_istore_n (lv' := [(2, .int 0), (4, .int 0), (3, .int x20_3), (0, .ref (ad 107)), (1, .int a1)]) hx hb dX7_tryWay_74 rfl hl (by decide) rfl (fun ls hl => ?_)
            refine lv_aload_n hx hb dX7_tryWay_75 rfl (lv_at hl 3 rfl) ?_
            refine xget E hQ 107 (by decide) c37 rfl 0 (by decide) q451 rfl dX7_tryWay_76 ?_
            refine lv_iload hx hb dX7_tryWay_79 (lv_at hl 1 rfl) ?_
            refine xcVi E hs hQ hml hl.1 2 (gX1_isBeach_2 l g ad hD S_20 hI 0) mX1_isBeach q1324 (by decide) c38 rfl rfl ⟨(Nat.le_of_ble_eq_true rfl), (Nat.le_of_ble_eq_true rfl)⟩ ⟨(Nat.le_of_ble_eq_true rfl), (Nat.le_of_ble_eq_true rfl)⟩ (Nat.le_of_ble_eq_true rfl) rfl dX7_tryWay_81 (fun r83 S83 H locs hp83 hQ _ => ?_)
            obtain ⟨rfl, b83⟩ := hp83
            refine lv_if_ne (tgt := 89) hx hb dX7_tryWay_84 (by decide) (fun k84 => ?_) (fun k84 => ?_)
            · have h85 := ib_ne k84
              have b86 : Bd r83 (1) (1) := rf_nlo b83 (by decide : Bd 0 (0) (0)) h85
              refine lv_aload_n hx hb dX7_tryWay_89 rfl (lv_at hl 3 rfl) ?_
              refine xget E hQ 107 (by decide) c37 rfl 4 (by decide) q455 rfl dX7_tryWay_90 ?_
              refine lv_iload_n hx hb dX7_tryWay_93 rfl (lv_at hl 2 rfl) ?_
              refine lv_iload hx hb dX7_tryWay_94 (lv_at hl 1 rfl) ?_
              refine xiast E hs hQ 110 (by decide) c28 (ib_in b36 (by decide) (by decide)) dX7_tryWay_96 (fun H locs S87 eS87 hQ => ?_)
              have hI := invX_up_110 hI eS87 ⟨_, rfl, upd_b b29 (ib_wk (by decide : Bd 0 (0) (0)) (by decide) (by decide))⟩
              have b89 : ∀ j, Bd ((upd f27 (x20_3 : Int32).toNatClampNeg 0) j) (0) (11) := upd_b b29 (ib_wk (by decide : Bd 0 (0) (0)) (by decide) (by decide))
              have c88 : S87 110 = .inl (g.2 0, 3, .inl (upd f27 (x20_3 : Int32).toNatClampNeg 0)) := up_at eS87 rfl
              refine lv_aload_n hx hb dX7_tryWay_97 rfl (lv_at hl 3 rfl) ?_
              have c90 : S87 107 = .inr (7, [.ref (ad 2), .ref (ad 95), .ref (ad 108), .ref (ad 109), .ref (ad 110)]) := (up_ne eS87 (by decide) c37)
              refine xget E hQ 107 (by decide) c90 rfl 3 (by decide) q454 rfl dX7_tryWay_98 ?_
              refine lv_iload hx hb dX7_tryWay_101 (lv_at hl 1 rfl) ?_
              refine lv_dup2_11 hx hb dX7_tryWay_103 rfl rfl ?_
              have c91 : S87 109 = .inl (g.2 0, 12, .inl f24) := (up_ne eS87 (by decide) c25)
              refine xiald E hQ 109 (by decide) c91 (vp_in_lit 0 12 (by decide)) dX7_tryWay_104 ?_
              refine lv_topi (fun z92 e93 => ?_)
              have b94 : Bd z92 (0) (2) := cw_b0 hC20 c25 (ib_wk (by decide : Bd 0 (0) (0)) (by decide) (by decide)) e93 (by omega)
              refine lv_iconst (v := 1) hx hb dX7_tryWay_105 (by decide) ?_
              refine lv_iadd hx hb dX7_tryWay_106 ?_
              refine lv_topi (fun z95 e96 => ?_)
              have t97 := ib_add e96 b94 (by decide : Bd 1 (1) (1)) (by decide) (by decide)
              have b98 : Bd z95 (1) (3) := ib_addb t97 b94 (by decide : Bd 1 (1) (1))
              have t97 : z95.toInt = z92.toInt + 1 := fold_add t97 rfl (by decide)
              refine xiast E hs hQ 109 (by decide) c91 (vp_in_lit 0 12 (by decide)) dX7_tryWay_107 (fun H locs S99 eS99 hQ => ?_)
              have hI := invX_up_109 hI eS99 ⟨_, rfl⟩
              have c100 : S99 109 = .inl (g.2 0, 12, .inl (upd f24 (0 : Int32).toNatClampNeg z95)) := up_at eS99 rfl
              obtain ⟨z101, e102⟩ : ∃ z : Int32, z = x20_3 + (-1) := ⟨_, rfl⟩
              have t103 := ib_add e102 b36 (by decide : Bd (-1) (-1) (-1)) (by decide) (by decide)
              have b104 : Bd z101 (-1) (1) := ib_addb t103 b36 (by decide : Bd (-1) (-1) (-1))
              have t103 : z101.toInt = x20_3.toInt + (-1) := fold_add t103 rfl (by decide)
              refine lv_iinc (v := z101) (lv' := [(3, .int z101), (2, .int 0), (4, .int 0), (0, .ref (ad 107)), (1, .int a1)]) hx hb dX7_tryWay_108 hl (k := 2) rfl (by rw [e102]; rfl) (by decide) rfl (fun ls hl => ?_)
              refine lv_goto (tgt := 20) hx hb dX7_tryWay_111 (by decide) ?_
              have c105 : S99 110 = .inl (g.2 0, 3, .inl (upd f27 (x20_3 : Int32).toNatClampNeg 0)) := (up_ne eS99 (by decide) c88)
              exact ih20 _ _ _ _ 0 z101 (ib_wk (by decide : Bd 0 (0) (0)) (by decide) (by decide)) (ib_wk b104 (by decide) (by decide)) (by have : (0 : Int32).toInt = 0 := (by decide); omega) hI (up_o (up_o hf20 eS87 (by decide)) eS99 (by decide)) (cw_s9 hC20 c25 c28 c100 c105 (ib_wk (by decide : Bd 0 (0) (0)) (by decide) (by decide)) (by omega) e93 (by omega) (by omega) (by omega) (by omega) (by omega)) hQ (lv_sub hl [0, 1, 3, 4] rfl)
            · have h106 := ib_eq k84
              have b107 : Bd r83 (0) (0) := ⟨(b83).1, ((rf_eq b83 (by decide : Bd 0 (0) (0)) h106).1).2⟩
              refine lv_iconst (v := 0) hx hb dX7_tryWay_87 (by decide) ?_
              exact xrz E hr hlk hQ rfl (⟨hI, (o_trans (up_o o_refl eS16 (by decide)) hf20 (by decide)), (ib_wk (by decide : Bd 0 (0) (0)) (by decide) (by decide)), Or.inl (by decide)⟩) dX7_tryWay_88
  obtain ⟨n20, hn20⟩ := fu_n (z20.toInt + 1)
  exact loop20 n20 _ _ _ _ a1 z20 ba1 b23 (by omega) hI o_refl (cw_0 c17 (by omega) (by omega)) hQ (lv_sub hl [0, 1, 2, 3] rfl)
set_option maxHeartbeats 4000000 in
set_option maxRecDepth 100000 in
theorem gX7_wouldMove_107 (l : Launch) (g : GG) (ad : Nat → Nat) (hD : Dj ad 122) (S : SS) (hI : InvX g ad S) (a1 : Int32) (ba1 : Bd a1 (0) (11)) (hW : CWp (S 109) (S 110) 3 0 (fld (S 2) 12)) (hf : 1 ≤ elm (S 109) a1.toInt.toNat) : Met l yX7_wouldMove (wG (.code yX7_wouldMove cX7_wouldMove 4 (some .boolean))) (Rm 1) (XPre g ad 122 S [.ref (ad 107), .int a1]) (va_Qi (fun r S' => S = S' ∧ Bd r (0) (1)) (QB g ad 122) (FA ad 122)) 0 0 (FA ad 122) := by
  refine xmet cX7_wouldMove "EbbWreck$Seating" (by decide) rfl (Nat.le_of_ble_eq_true rfl) (fun p e s m below meth c E hr hlk hml hQ ls hl => ?_)
  have hx := E.1
  have hb := E.2.1
  have hs : Sp ad 122 (FA ad 122) := Sp.fa hD
  have hl : lv_has ls 4 [(0, .ref (ad 107)), (1, .int a1)] := hl
  refine lv_aload_n hx hb dX7_wouldMove_0 rfl (lv_at hl 0 rfl) ?_
  have c1 := invX_107 hI
  have c1 : S 107 = .inr (7, [.ref (ad 2), .ref (ad 95), .ref (ad 108), .ref (ad 109), .ref (ad 110)]) := c1
  refine xget E hQ 107 (by decide) c1 rfl 2 (by decide) q453 rfl dX7_wouldMove_1 ?_
  refine lv_aload_n hx hb dX7_wouldMove_4 rfl (lv_at hl 0 rfl) ?_
  refine xget E hQ 107 (by decide) c1 rfl 3 (by decide) q454 rfl dX7_wouldMove_5 ?_
  refine lv_iload_n hx hb dX7_wouldMove_8 rfl (lv_at hl 1 rfl) ?_
  obtain ⟨f2, c3⟩ := invX_109 hI
  refine xiald E hQ 109 (by decide) c3 (ib_in ba1 (by decide) (by decide)) dX7_wouldMove_9 ?_
  refine lv_topi (fun z5 e6 => ?_)
  have b7 : Bd z5 (0) (3) := cw_b hW c3 ba1 e6
  refine lv_bipush (v := 12) hx hb dX7_wouldMove_10 (by decide) ?_
  refine lv_imul hx hb dX7_wouldMove_12 ?_
  refine lv_topi (fun z8 e9 => ?_)
  have t10 := ib_mulc (q := 12) e9 (by decide) (by decide) b7 (by decide) (by decide)
  have b11 : Bd z8 (0) (36) := ib_mulb t10 (by decide) b7
  refine lv_iload_n hx hb dX7_wouldMove_13 rfl (lv_at hl 1 rfl) ?_
  refine lv_iadd hx hb dX7_wouldMove_14 ?_
  refine lv_topi (fun z12 e13 => ?_)
  have t14 := ib_add e13 b11 ba1 (by decide) (by decide)
  have b15 : Bd z12 (0) (47) := ib_addb t14 b11 ba1
  obtain ⟨f16, c17⟩ := invX_108 hI
  refine xiald E hQ 108 (by decide) c17 (ib_in b15 (by decide) (by decide)) dX7_wouldMove_15 ?_
  refine lv_topi (fun z19 e20 => ?_)
  refine lv_istore_n (lv' := [(2, .int z19), (0, .ref (ad 107)), (1, .int a1)]) hx hb dX7_wouldMove_16 rfl hl (by decide) rfl (fun ls hl => ?_)
  refine lv_iconst (v := 0) hx hb dX7_wouldMove_17 (by decide) ?_
  refine lv_istore_n (lv' := [(3, .int 0), (2, .int z19), (0, .ref (ad 107)), (1, .int a1)]) hx hb dX7_wouldMove_18 rfl hl (by decide) rfl (fun ls hl => ?_)
  have loop19 : ∀ (n : Nat) (H : Heap) (locs : List Loc) (ls : Array Slot) (x19_3 : Int32), Bd x19_3 (0) (12) → (-1) * x19_3.toInt + 12 < ((n : Nat) : Int) → Hp g ad 122 S (FA ad 122) s.heap H locs → lv_has ls 4 [(3, .int x19_3), (2, .int z19), (0, .ref (ad 107)), (1, .int a1)] → W p l e (Rm 1) s m [.ref (ad 107), .int a1].toArray below meth c H locs 0 0 (MQ below (va_Qi (fun r S' => S = S' ∧ Bd r (0) (1)) (QB g ad 122) (FA ad 122)) [.ref (ad 107), .int a1].toArray s 0 0 (FA ad 122)) (F0 m 19 ls []) := by
    intro n
    induction n with
    | zero => intro H locs ls x19_3 Bx19_3 hn19_ hQ hl; exfalso; have := (Bx19_3).2; omega
    | succ n19_ ih19 =>
      intro H locs ls x19_3 Bx19_3 hn19_ hQ hl
      refine lv_iload_n hx hb dX7_wouldMove_19 rfl (lv_at hl 0 rfl) ?_
      refine lv_aload_n hx hb dX7_wouldMove_20 rfl (lv_at hl 2 rfl) ?_
      refine xget E hQ 107 (by decide) c1 rfl 0 (by decide) q451 rfl dX7_wouldMove_21 ?_
      obtain ⟨v21, v23, v25, v26, v27, v29, c31, b22, b24, b28, b30⟩ := invX_2 hI
      have c31 : S 2 = .inr (1, [.int v21, .int v23, .int v25, .ref (ad 3), .ref (ad 5), .ref (ad 6), .int v26, .int v27, .ref (ad 7), .ref (ad 8), .ref (ad 9), .ref (ad 10), .int v29, .ref (ad 15), .ref (ad 16)]) := c31
      refine xget E hQ 2 (by decide) c31 rfl 1 (by decide) q242 rfl dX7_wouldMove_24 ?_
      refine lv_icmp_ge (tgt := 76) hx hb dX7_wouldMove_27 (by decide) (fun k32 => ?_) (fun k32 => ?_)
      · have h33 := ib_le k32
        refine lv_iconst (v := 0) hx hb dX7_wouldMove_76 (by decide) ?_
        exact xrz E hr hlk hQ rfl (⟨rfl, (ib_wk (by decide : Bd 0 (0) (0)) (by decide) (by decide))⟩) dX7_wouldMove_77
      · have h34 := ib_nle k32
        have b35 : Bd x19_3 (0) (11) := ⟨(Bx19_3).1, ((rf_lt Bx19_3 b24 h34).1).2⟩
        have b36 : Bd v23 (1) (12) := ⟨((rf_lt Bx19_3 b24 h34).2).1, (b24).2⟩
        refine lv_iload_n hx hb dX7_wouldMove_30 rfl (lv_at hl 0 rfl) ?_
        refine lv_iload_n hx hb dX7_wouldMove_31 rfl (lv_at hl 3 rfl) ?_
        refine lv_icmp_eq (tgt := 70) hx hb dX7_wouldMove_32 (by decide) (fun k37 => ?_) (fun k37 => ?_)
        · have h38 := ib_eq k37
          obtain ⟨z39, e40⟩ : ∃ z : Int32, z = x19_3 + 1 := ⟨_, rfl⟩
          have t41 := ib_add e40 b35 (by decide : Bd 1 (1) (1)) (by decide) (by decide)
          have b42 : Bd z39 (1) (12) := ib_addb t41 b35 (by decide : Bd 1 (1) (1))
          have t41 : z39.toInt = x19_3.toInt + 1 := fold_add t41 rfl (by decide)
          refine lv_iinc (v := z39) (lv' := [(3, .int z39), (2, .int z19), (0, .ref (ad 107)), (1, .int a1)]) hx hb dX7_wouldMove_70 hl (k := 0) rfl (by rw [e40]; rfl) (by decide) rfl (fun ls hl => ?_)
          refine lv_goto (tgt := 19) hx hb dX7_wouldMove_73 (by decide) ?_
          exact ih19 _ _ _ z39 (ib_wk b42 (by decide) (by decide)) (by omega) hQ (lv_sub hl [0, 1, 2, 3] rfl)
        · have h43 := ib_ne k37
          refine lv_aload_n hx hb dX7_wouldMove_35 rfl (lv_at hl 2 rfl) ?_
          refine xget E hQ 107 (by decide) c1 rfl 0 (by decide) q451 rfl dX7_wouldMove_36 ?_
          refine lv_iload_n hx hb dX7_wouldMove_39 rfl (lv_at hl 0 rfl) ?_
          refine xcVi E hs hQ hml hl.1 2 (gX1_isBeach_2 l g ad hD S hI x19_3) mX1_isBeach q1324 (by decide) c31 rfl rfl ⟨(Nat.le_of_ble_eq_true rfl), (Nat.le_of_ble_eq_true rfl)⟩ ⟨(Nat.le_of_ble_eq_true rfl), (Nat.le_of_ble_eq_true rfl)⟩ (Nat.le_of_ble_eq_true rfl) rfl dX7_wouldMove_40 (fun r44 S44 H locs hp44 hQ _ => ?_)
          obtain ⟨rfl, b44⟩ := hp44
          refine lv_if_eq (tgt := 70) hx hb dX7_wouldMove_43 (by decide) (fun k45 => ?_) (fun k45 => ?_)
          · have h46 := ib_eq k45
            have b47 : Bd r44 (0) (0) := ⟨(b44).1, ((rf_eq b44 (by decide : Bd 0 (0) (0)) h46).1).2⟩
            obtain ⟨z48, e49⟩ : ∃ z : Int32, z = x19_3 + 1 := ⟨_, rfl⟩
            have t50 := ib_add e49 b35 (by decide : Bd 1 (1) (1)) (by decide) (by decide)
            have b51 : Bd z48 (1) (12) := ib_addb t50 b35 (by decide : Bd 1 (1) (1))
            have t50 : z48.toInt = x19_3.toInt + 1 := fold_add t50 rfl (by decide)
            refine lv_iinc (v := z48) (lv' := [(3, .int z48), (2, .int z19), (0, .ref (ad 107)), (1, .int a1)]) hx hb dX7_wouldMove_70 hl (k := 0) rfl (by rw [e49]; rfl) (by decide) rfl (fun ls hl => ?_)
            refine lv_goto (tgt := 19) hx hb dX7_wouldMove_73 (by decide) ?_
            exact ih19 _ _ _ z48 (ib_wk b51 (by decide) (by decide)) (by omega) hQ (lv_sub hl [0, 1, 2, 3] rfl)
          · have h52 := ib_ne k45
            have b53 : Bd r44 (1) (1) := rf_nlo b44 (by decide : Bd 0 (0) (0)) h52
            refine lv_aload_n hx hb dX7_wouldMove_46 rfl (lv_at hl 2 rfl) ?_
            refine xget E hQ 107 (by decide) c1 rfl 2 (by decide) q453 rfl dX7_wouldMove_47 ?_
            refine lv_aload_n hx hb dX7_wouldMove_50 rfl (lv_at hl 2 rfl) ?_
            refine xget E hQ 107 (by decide) c1 rfl 3 (by decide) q454 rfl dX7_wouldMove_51 ?_
            refine lv_iload_n hx hb dX7_wouldMove_54 rfl (lv_at hl 0 rfl) ?_
            refine xiald E hQ 109 (by decide) c3 (ib_in b35 (by decide) (by decide)) dX7_wouldMove_55 ?_
            refine lv_topi (fun z54 e55 => ?_)
            have b56 : Bd z54 (0) (2) := cw_b2 hW c3 b35 ba1 (by omega) hf e55
            refine lv_iconst (v := 1) hx hb dX7_wouldMove_56 (by decide) ?_
            refine lv_iadd hx hb dX7_wouldMove_57 ?_
            refine lv_topi (fun z57 e58 => ?_)
            have t59 := ib_add e58 b56 (by decide : Bd 1 (1) (1)) (by decide) (by decide)
            have b60 : Bd z57 (1) (3) := ib_addb t59 b56 (by decide : Bd 1 (1) (1))
            have t59 : z57.toInt = z54.toInt + 1 := fold_add t59 rfl (by decide)
            refine lv_bipush (v := 12) hx hb dX7_wouldMove_58 (by decide) ?_
            refine lv_imul hx hb dX7_wouldMove_60 ?_
            refine lv_topi (fun z61 e62 => ?_)
            have t63 := ib_mulc (q := 12) e62 (by decide) (by decide) b60 (by decide) (by decide)
            have b64 : Bd z61 (12) (36) := ib_mulb t63 (by decide) b60
            refine lv_iload_n hx hb dX7_wouldMove_61 rfl (lv_at hl 0 rfl) ?_
            refine lv_iadd hx hb dX7_wouldMove_62 ?_
            refine lv_topi (fun z65 e66 => ?_)
            have t67 := ib_add e66 b64 b35 (by decide) (by decide)
            have b68 : Bd z65 (12) (47) := ib_addb t67 b64 b35
            refine xiald E hQ 108 (by decide) c17 (ib_in b68 (by decide) (by decide)) dX7_wouldMove_63 ?_
            refine lv_topi (fun z69 e70 => ?_)
            refine lv_iload_n hx hb dX7_wouldMove_64 rfl (lv_at hl 1 rfl) ?_
            refine lv_icmp_le (tgt := 70) hx hb dX7_wouldMove_65 (by decide) (fun k71 => ?_) (fun k71 => ?_)
            · have h72 := ib_le k71
              obtain ⟨z73, e74⟩ : ∃ z : Int32, z = x19_3 + 1 := ⟨_, rfl⟩
              have t75 := ib_add e74 b35 (by decide : Bd 1 (1) (1)) (by decide) (by decide)
              have b76 : Bd z73 (1) (12) := ib_addb t75 b35 (by decide : Bd 1 (1) (1))
              have t75 : z73.toInt = x19_3.toInt + 1 := fold_add t75 rfl (by decide)
              refine lv_iinc (v := z73) (lv' := [(3, .int z73), (2, .int z19), (0, .ref (ad 107)), (1, .int a1)]) hx hb dX7_wouldMove_70 hl (k := 0) rfl (by rw [e74]; rfl) (by decide) rfl (fun ls hl => ?_)
              refine lv_goto (tgt := 19) hx hb dX7_wouldMove_73 (by decide) ?_
              exact ih19 _ _ _ z73 (ib_wk b76 (by decide) (by decide)) (by omega) hQ (lv_sub hl [0, 1, 2, 3] rfl)
            · have h77 := ib_nle k71
              have b78 : Bd z19 (-2147483648) (2147483646) := ⟨((ib_full z19)).1, ((rf_lt (ib_full z19) (ib_full z69) h77).1).2⟩
              have b79 : Bd z69 (-2147483647) (2147483647) := ⟨((rf_lt (ib_full z19) (ib_full z69) h77).2).1, ((ib_full z69)).2⟩
              refine lv_iconst (v := 1) hx hb dX7_wouldMove_68 (by decide) ?_
              exact xrz E hr hlk hQ rfl (⟨rfl, (ib_wk (by decide : Bd 1 (1) (1)) (by decide) (by decide))⟩) dX7_wouldMove_69
  obtain ⟨n19, hn19⟩ := fu_n (12)
  exact loop19 n19 _ _ _ 0 (ib_wk (by decide : Bd 0 (0) (0)) (by decide) (by decide)) (by have : (0 : Int32).toInt = 0 := (by decide); omega) hQ (lv_sub hl [0, 1, 2, 3] rfl)
set_option maxHeartbeats 4000000 in
set_option maxRecDepth 100000 in
theorem gX7_isRest_107 (l : Launch) (g : GG) (ad : Nat → Nat) (hD : Dj ad 122) (S : SS) (hI : InvX g ad S) (hW : CWp (S 109) (S 110) 3 0 (fld (S 2) 12)) : Met l yX7_isRest (wG (.code yX7_isRest cX7_isRest 2 (some .boolean))) (Rm 2) (XPre g ad 122 S [.ref (ad 107)]) (va_Qi (fun r S' => S = S' ∧ Bd r (0) (1)) (QB g ad 122) (FA ad 122)) 0 0 (FA ad 122) := by
  refine xmet cX7_isRest "EbbWreck$Seating" (by decide) rfl (Nat.le_of_ble_eq_true rfl) (fun p e s m below meth c E hr hlk hml hQ ls hl => ?_)
  have hx := E.1
  have hb := E.2.1
  have hs : Sp ad 122 (FA ad 122) := Sp.fa hD
  have hl : lv_has ls 2 [(0, .ref (ad 107))] := hl
  refine lv_iconst (v := 0) hx hb dX7_isRest_0 (by decide) ?_
  refine lv_istore_n (lv' := [(1, .int 0), (0, .ref (ad 107))]) hx hb dX7_isRest_1 rfl hl (by decide) rfl (fun ls hl => ?_)
  have loop2 : ∀ (n : Nat) (H : Heap) (locs : List Loc) (ls : Array Slot) (x2_1 : Int32), Bd x2_1 (0) (3) → (-1) * x2_1.toInt + 3 < ((n : Nat) : Int) → Hp g ad 122 S (FA ad 122) s.heap H locs → lv_has ls 2 [(1, .int x2_1), (0, .ref (ad 107))] → W p l e (Rm 2) s m [.ref (ad 107)].toArray below meth c H locs 0 0 (MQ below (va_Qi (fun r S' => S = S' ∧ Bd r (0) (1)) (QB g ad 122) (FA ad 122)) [.ref (ad 107)].toArray s 0 0 (FA ad 122)) (F0 m 2 ls []) := by
    intro n
    induction n with
    | zero => intro H locs ls x2_1 Bx2_1 hn2_ hQ hl; exfalso; have := (Bx2_1).2; omega
    | succ n2_ ih2 =>
      intro H locs ls x2_1 Bx2_1 hn2_ hQ hl
      refine lv_iload_n hx hb dX7_isRest_2 rfl (lv_at hl 0 rfl) ?_
      refine lv_aload_n hx hb dX7_isRest_3 rfl (lv_at hl 1 rfl) ?_
      have c1 := invX_107 hI
      have c1 : S 107 = .inr (7, [.ref (ad 2), .ref (ad 95), .ref (ad 108), .ref (ad 109), .ref (ad 110)]) := c1
      refine xget E hQ 107 (by decide) c1 rfl 0 (by decide) q451 rfl dX7_isRest_4 ?_
      obtain ⟨v2, v4, v6, v7, v8, v10, c12, b3, b5, b9, b11⟩ := invX_2 hI
      have c12 : S 2 = .inr (1, [.int v2, .int v4, .int v6, .ref (ad 3), .ref (ad 5), .ref (ad 6), .int v7, .int v8, .ref (ad 7), .ref (ad 8), .ref (ad 9), .ref (ad 10), .int v10, .ref (ad 15), .ref (ad 16)]) := c12
      refine xget E hQ 2 (by decide) c12 rfl 12 (by decide) q294 rfl dX7_isRest_7 ?_
      refine lv_icmp_ge (tgt := 34) hx hb dX7_isRest_10 (by decide) (fun k13 => ?_) (fun k13 => ?_)
      · have h14 := ib_le k13
        refine lv_iconst (v := 1) hx hb dX7_isRest_34 (by decide) ?_
        exact xrz E hr hlk hQ rfl (⟨rfl, (ib_wk (by decide : Bd 1 (1) (1)) (by decide) (by decide))⟩) dX7_isRest_35
      · have h15 := ib_nle k13
        have b16 : Bd x2_1 (0) (2) := ⟨(Bx2_1).1, ((rf_lt Bx2_1 b11 h15).1).2⟩
        have b17 : Bd v10 (1) (3) := ⟨((rf_lt Bx2_1 b11 h15).2).1, (b11).2⟩
        refine lv_aload_n hx hb dX7_isRest_13 rfl (lv_at hl 1 rfl) ?_
        refine lv_aload_n hx hb dX7_isRest_14 rfl (lv_at hl 1 rfl) ?_
        refine xget E hQ 107 (by decide) c1 rfl 4 (by decide) q455 rfl dX7_isRest_15 ?_
        refine lv_iload_n hx hb dX7_isRest_18 rfl (lv_at hl 0 rfl) ?_
        obtain ⟨f18, c19, b20⟩ := invX_110 hI
        refine xiald E hQ 110 (by decide) c19 (ib_in b16 (by decide) (by decide)) dX7_isRest_19 ?_
        refine lv_topi (fun z21 e22 => ?_)
        have b23 : Bd z21 (0) (11) := (by rw [e22]; exact b20 _)
        have q24 : fld (S 2) 12 = v10.toInt := fld_of c12 rfl
        refine xcVi E hs hQ hml hl.1 107 (gX7_wouldMove_107 l g ad hD S hI z21 b23 hW (cw_f hW c19 (by omega) (by omega) e22)) mX7_wouldMove q1329 (by decide) c1 rfl rfl ⟨(Nat.le_of_ble_eq_true rfl), (Nat.le_of_ble_eq_true rfl)⟩ ⟨(Nat.le_of_ble_eq_true rfl), (Nat.le_of_ble_eq_true rfl)⟩ (Nat.le_of_ble_eq_true rfl) rfl dX7_isRest_20 (fun r25 S25 H locs hp25 hQ _ => ?_)
        obtain ⟨rfl, b25⟩ := hp25
        refine lv_if_eq (tgt := 28) hx hb dX7_isRest_23 (by decide) (fun k26 => ?_) (fun k26 => ?_)
        · have h27 := ib_eq k26
          have b28 : Bd r25 (0) (0) := ⟨(b25).1, ((rf_eq b25 (by decide : Bd 0 (0) (0)) h27).1).2⟩
          obtain ⟨z29, e30⟩ : ∃ z : Int32, z = x2_1 + 1 := ⟨_, rfl⟩
          have t31 := ib_add e30 b16 (by decide : Bd 1 (1) (1)) (by decide) (by decide)
          have b32 : Bd z29 (1) (3) := ib_addb t31 b16 (by decide : Bd 1 (1) (1))
          have t31 : z29.toInt = x2_1.toInt + 1 := fold_add t31 rfl (by decide)
          refine lv_iinc (v := z29) (lv' := [(1, .int z29), (0, .ref (ad 107))]) hx hb dX7_isRest_28 hl (k := 0) rfl (by rw [e30]; rfl) (by decide) rfl (fun ls hl => ?_)
          refine lv_goto (tgt := 2) hx hb dX7_isRest_31 (by decide) ?_
          exact ih2 _ _ _ z29 (ib_wk b32 (by decide) (by decide)) (by omega) hQ (lv_sub hl [0, 1] rfl)
        · have h33 := ib_ne k26
          have b34 : Bd r25 (1) (1) := rf_nlo b25 (by decide : Bd 0 (0) (0)) h33
          refine lv_iconst (v := 0) hx hb dX7_isRest_26 (by decide) ?_
          exact xrz E hr hlk hQ rfl (⟨rfl, (ib_wk (by decide : Bd 0 (0) (0)) (by decide) (by decide))⟩) dX7_isRest_27
  obtain ⟨n2, hn2⟩ := fu_n (3)
  exact loop2 n2 _ _ _ 0 (ib_wk (by decide : Bd 0 (0) (0)) (by decide) (by decide)) (by have : (0 : Int32).toInt = 0 := (by decide); omega) hQ (lv_sub hl [0, 1] rfl)
set_option maxHeartbeats 4000000 in
set_option maxRecDepth 100000 in
theorem gX7_countRests_107 (l : Launch) (g : GG) (ad : Nat → Nat) (hD : Dj ad 122) (S : SS) (hI : InvX g ad S) : Met l yX7_countRests (wG (.code yX7_countRests cX7_countRests 4 (some .int))) (Rm 4) (XPre g ad 122 S [.ref (ad 107)]) (va_Qi (fun _ S' => InvX g ad S' ∧ (∀ j, j ∉ ([108, 109, 110] : List Nat) → S' j = S j)) (QB g ad 122) (FA ad 122)) 0 0 (FA ad 122) := by
  refine xmet cX7_countRests "EbbWreck$Seating" (by decide) rfl (Nat.le_of_ble_eq_true rfl) (fun p e s m below meth c E hr hlk hml hQ ls hl => ?_)
  have hx := E.1
  have hb := E.2.1
  have hs : Sp ad 122 (FA ad 122) := Sp.fa hD
  have hl : lv_has ls 4 [(0, .ref (ad 107))] := hl
  refine lv_aload_n hx hb dX7_countRests_0 rfl (lv_at hl 0 rfl) ?_
  have c2 := invX_107 hI
  have c2 : S 107 = .inr (7, [.ref (ad 2), .ref (ad 95), .ref (ad 108), .ref (ad 109), .ref (ad 110)]) := c2
  refine xcVv E hs hQ hml hl.1 107 (gX7_layPays_107 l g ad hD S hI ) mX7_layPays q1311 (by decide) c2 rfl rfl ⟨(Nat.le_of_ble_eq_true rfl), (Nat.le_of_ble_eq_true rfl)⟩ ⟨(Nat.le_of_ble_eq_true rfl), (Nat.le_of_ble_eq_true rfl)⟩ (Nat.le_of_ble_eq_true rfl) rfl dX7_countRests_1 (fun S1 H locs hp1 hQ _ => ?_)
  obtain ⟨hI, o1⟩ := hp1
  refine lv_iconst (v := 0) hx hb dX7_countRests_4 (by decide) ?_
  refine lv_istore_n (lv' := [(1, .int 0), (0, .ref (ad 107))]) hx hb dX7_countRests_5 rfl hl (by decide) rfl (fun ls hl => ?_)
  refine lv_aload_n hx hb dX7_countRests_6 rfl (lv_at hl 1 rfl) ?_
  have c4 : S1 107 = .inr (7, [.ref (ad 2), .ref (ad 95), .ref (ad 108), .ref (ad 109), .ref (ad 110)]) := ((o1 107 (by decide)).trans c2)
  refine xcVi E hs hQ hml hl.1 107 (gX7_countWays_107 l g ad hD S1 hI ) mX7_countWays q1315 (by decide) c4 rfl rfl ⟨(Nat.le_of_ble_eq_true rfl), (Nat.le_of_ble_eq_true rfl)⟩ ⟨(Nat.le_of_ble_eq_true rfl), (Nat.le_of_ble_eq_true rfl)⟩ (Nat.le_of_ble_eq_true rfl) rfl dX7_countRests_7 (fun r3 S3 H locs hp3 hQ _ => ?_)
  subst hp3
  refine lv_istore_n (lv' := [(2, .int r3), (1, .int 0), (0, .ref (ad 107))]) hx hb dX7_countRests_10 rfl hl (by decide) rfl (fun ls hl => ?_)
  refine lv_iconst (v := 0) hx hb dX7_countRests_11 (by decide) ?_
  refine lv_istore_n (lv' := [(3, .int 0), (2, .int r3), (1, .int 0), (0, .ref (ad 107))]) hx hb dX7_countRests_12 rfl hl (by decide) rfl (fun ls hl => ?_)
  have loop13 : ∀ (n : Nat) (S_13 : SS) (H : Heap) (locs : List Loc) (ls : Array Slot) (x13_1 : Int32) (x13_3 : Int32), Bd x13_3 (0) (2147483647) → (-1) * x13_3.toInt + 2147483647 < ((n : Nat) : Int) → InvX g ad S_13 → (∀ j, j ∉ ([109, 110] : List Nat) → S_13 j = S1 j) → Hp g ad 122 S_13 (FA ad 122) s.heap H locs → lv_has ls 4 [(3, .int x13_3), (2, .int r3), (1, .int x13_1), (0, .ref (ad 107))] → W p l e (Rm 4) s m [.ref (ad 107)].toArray below meth c H locs 0 0 (MQ below (va_Qi (fun _ S' => InvX g ad S' ∧ (∀ j, j ∉ ([108, 109, 110] : List Nat) → S' j = S j)) (QB g ad 122) (FA ad 122)) [.ref (ad 107)].toArray s 0 0 (FA ad 122)) (F0 m 13 ls []) := by
    intro n
    induction n with
    | zero => intro S_13 H locs ls x13_1 x13_3 Bx13_3 hn13_ hI hf13 hQ hl; exfalso; have := (Bx13_3).2; omega
    | succ n13_ ih13 =>
      intro S_13 H locs ls x13_1 x13_3 Bx13_3 hn13_ hI hf13 hQ hl
      refine lv_iload_n hx hb dX7_countRests_13 rfl (lv_at hl 0 rfl) ?_
      refine lv_iload_n hx hb dX7_countRests_14 rfl (lv_at hl 1 rfl) ?_
      refine lv_icmp_ge (tgt := 42) hx hb dX7_countRests_15 (by decide) (fun k5 => ?_) (fun k5 => ?_)
      · have h6 := ib_le k5
        refine lv_iload_n hx hb dX7_countRests_42 rfl (lv_at hl 2 rfl) ?_
        exact xri E hr hlk hQ (⟨hI, (o_trans (o_trans o_refl o1 (by decide)) hf13 (by decide))⟩) dX7_countRests_43
      · have h7 := ib_nle k5
        have b8 : Bd x13_3 (0) (2147483646) := ⟨(Bx13_3).1, ((rf_lt Bx13_3 (ib_full r3) h7).1).2⟩
        have b9 : Bd r3 (1) (2147483647) := ⟨((rf_lt Bx13_3 (ib_full r3) h7).2).1, ((ib_full r3)).2⟩
        refine lv_aload_n hx hb dX7_countRests_18 rfl (lv_at hl 3 rfl) ?_
        refine lv_iload_n hx hb dX7_countRests_19 rfl (lv_at hl 0 rfl) ?_
        have c11 : S_13 107 = .inr (7, [.ref (ad 2), .ref (ad 95), .ref (ad 108), .ref (ad 109), .ref (ad 110)]) := ((hf13 107 (by decide)).trans c4)
        refine xcVi E hs hQ hml hl.1 107 (gX7_tryWay_107 l g ad hD S_13 hI x13_3 (ib_wk b8 (by decide) (by decide))) mX7_tryWay q1319 (by decide) c11 rfl rfl ⟨(Nat.le_of_ble_eq_true rfl), (Nat.le_of_ble_eq_true rfl)⟩ ⟨(Nat.le_of_ble_eq_true rfl), (Nat.le_of_ble_eq_true rfl)⟩ (Nat.le_of_ble_eq_true rfl) rfl dX7_countRests_20 (fun r10 S10 H locs hp10 hQ _ => ?_)
        obtain ⟨hI, o10, b10, u10_0⟩ := hp10
        refine lv_if_eq (tgt := 36) hx hb dX7_countRests_23 (by decide) (fun k12 => ?_) (fun k12 => ?_)
        · have h13 := ib_eq k12
          have b14 : Bd r10 (0) (0) := ⟨(b10).1, ((rf_eq b10 (by decide : Bd 0 (0) (0)) h13).1).2⟩
          obtain ⟨z15, e16⟩ : ∃ z : Int32, z = x13_3 + 1 := ⟨_, rfl⟩
          have t17 := ib_add e16 b8 (by decide : Bd 1 (1) (1)) (by decide) (by decide)
          have b18 : Bd z15 (1) (2147483647) := ib_addb t17 b8 (by decide : Bd 1 (1) (1))
          have t17 : z15.toInt = x13_3.toInt + 1 := fold_add t17 rfl (by decide)
          refine lv_iinc (v := z15) (lv' := [(3, .int z15), (2, .int r3), (1, .int x13_1), (0, .ref (ad 107))]) hx hb dX7_countRests_36 hl (k := 0) rfl (by rw [e16]; rfl) (by decide) rfl (fun ls hl => ?_)
          refine lv_goto (tgt := 13) hx hb dX7_countRests_39 (by decide) ?_
          exact ih13 _ _ _ _ x13_1 z15 (ib_wk b18 (by decide) (by decide)) (by omega) hI (o_trans hf13 o10 (by decide)) hQ (lv_sub hl [0, 1, 2, 3] rfl)
        · have h19 := ib_ne k12
          have b20 : Bd r10 (1) (1) := rf_nlo b10 (by decide : Bd 0 (0) (0)) h19
          refine lv_aload_n hx hb dX7_countRests_26 rfl (lv_at hl 3 rfl) ?_
          have c22 : S10 107 = .inr (7, [.ref (ad 2), .ref (ad 95), .ref (ad 108), .ref (ad 109), .ref (ad 110)]) := ((o10 107 (by decide)).trans c11)
          refine xcVi E hs hQ hml hl.1 107 (gX7_isRest_107 l g ad hD S10 hI (u10_0.resolve_left (by omega))) mX7_isRest q1325 (by decide) c22 rfl rfl ⟨(Nat.le_of_ble_eq_true rfl), (Nat.le_of_ble_eq_true rfl)⟩ ⟨(Nat.le_of_ble_eq_true rfl), (Nat.le_of_ble_eq_true rfl)⟩ (Nat.le_of_ble_eq_true rfl) rfl dX7_countRests_27 (fun r21 S21 H locs hp21 hQ _ => ?_)
          obtain ⟨rfl, b21⟩ := hp21
          refine lv_if_eq (tgt := 36) hx hb dX7_countRests_30 (by decide) (fun k23 => ?_) (fun k23 => ?_)
          · have h24 := ib_eq k23
            have b25 : Bd r21 (0) (0) := ⟨(b21).1, ((rf_eq b21 (by decide : Bd 0 (0) (0)) h24).1).2⟩
            obtain ⟨z26, e27⟩ : ∃ z : Int32, z = x13_3 + 1 := ⟨_, rfl⟩
            have t28 := ib_add e27 b8 (by decide : Bd 1 (1) (1)) (by decide) (by decide)
            have b29 : Bd z26 (1) (2147483647) := ib_addb t28 b8 (by decide : Bd 1 (1) (1))
            have t28 : z26.toInt = x13_3.toInt + 1 := fold_add t28 rfl (by decide)
            refine lv_iinc (v := z26) (lv' := [(3, .int z26), (2, .int r3), (1, .int x13_1), (0, .ref (ad 107))]) hx hb dX7_countRests_36 hl (k := 0) rfl (by rw [e27]; rfl) (by decide) rfl (fun ls hl => ?_)
            refine lv_goto (tgt := 13) hx hb dX7_countRests_39 (by decide) ?_
            exact ih13 _ _ _ _ x13_1 z26 (ib_wk b29 (by decide) (by decide)) (by omega) hI (o_trans hf13 o10 (by decide)) hQ (lv_sub hl [0, 1, 2, 3] rfl)
          · have h30 := ib_ne k23
            have b31 : Bd r21 (1) (1) := rf_nlo b21 (by decide : Bd 0 (0) (0)) h30
            obtain ⟨z32, e33⟩ : ∃ z : Int32, z = x13_1 + 1 := ⟨_, rfl⟩
            refine lv_iinc (v := z32) (lv' := [(1, .int z32), (3, .int x13_3), (2, .int r3), (0, .ref (ad 107))]) hx hb dX7_countRests_33 hl (k := 2) rfl (by rw [e33]; rfl) (by decide) rfl (fun ls hl => ?_)
            obtain ⟨z34, e35⟩ : ∃ z : Int32, z = x13_3 + 1 := ⟨_, rfl⟩
            have t36 := ib_add e35 b8 (by decide : Bd 1 (1) (1)) (by decide) (by decide)
            have b37 : Bd z34 (1) (2147483647) := ib_addb t36 b8 (by decide : Bd 1 (1) (1))
            have t36 : z34.toInt = x13_3.toInt + 1 := fold_add t36 rfl (by decide)
            refine lv_iinc (v := z34) (lv' := [(3, .int z34), (1, .int z32), (2, .int r3), (0, .ref (ad 107))]) hx hb dX7_countRests_36 hl (k := 1) rfl (by rw [e35]; rfl) (by decide) rfl (fun ls hl => ?_)
            refine lv_goto (tgt := 13) hx hb dX7_countRests_39 (by decide) ?_
            exact ih13 _ _ _ _ z32 z34 (ib_wk b37 (by decide) (by decide)) (by omega) hI (o_trans hf13 o10 (by decide)) hQ (lv_sub hl [0, 2, 1, 3] rfl)
  obtain ⟨n13, hn13⟩ := fu_n (2147483647)
  exact loop13 n13 _ _ _ _ 0 0 (ib_wk (by decide : Bd 0 (0) (0)) (by decide) (by decide)) (by have : (0 : Int32).toInt = 0 := (by decide); omega) hI o_refl hQ (lv_sub hl [0, 1, 2, 3] rfl)
set_option maxHeartbeats 4000000 in
set_option maxRecDepth 100000 in
theorem gX7_firstRest_107 (l : Launch) (g : GG) (ad : Nat → Nat) (hD : Dj ad 122) (S : SS) (hI : InvX g ad S) (a1 : Int32) (ba1 : Bd a1 (0) (2)) : Met l yX7_firstRest (wG (.code yX7_firstRest cX7_firstRest 4 (some .int))) (Rm 4) (XPre g ad 122 S [.ref (ad 107), .int a1]) (va_Qi (fun r S' => InvX g ad S' ∧ (∀ j, j ∉ ([108, 109, 110] : List Nat) → S' j = S j) ∧ Bd r (-1) (11)) (QB g ad 122) (FA ad 122)) 0 0 (FA ad 122) := by
  refine xmet cX7_firstRest "EbbWreck$Seating" (by decide) rfl (Nat.le_of_ble_eq_true rfl) (fun p e s m below meth c E hr hlk hml hQ ls hl => ?_)
  have hx := E.1
  have hb := E.2.1
  have hs : Sp ad 122 (FA ad 122) := Sp.fa hD
  have hl : lv_has ls 4 [(0, .ref (ad 107)), (1, .int a1)] := hl
  refine lv_aload_n hx hb dX7_firstRest_0 rfl (lv_at hl 0 rfl) ?_
  have c2 := invX_107 hI
  have c2 : S 107 = .inr (7, [.ref (ad 2), .ref (ad 95), .ref (ad 108), .ref (ad 109), .ref (ad 110)]) := c2
  refine xcVv E hs hQ hml hl.1 107 (gX7_layPays_107 l g ad hD S hI ) mX7_layPays q1311 (by decide) c2 rfl rfl ⟨(Nat.le_of_ble_eq_true rfl), (Nat.le_of_ble_eq_true rfl)⟩ ⟨(Nat.le_of_ble_eq_true rfl), (Nat.le_of_ble_eq_true rfl)⟩ (Nat.le_of_ble_eq_true rfl) rfl dX7_firstRest_1 (fun S1 H locs hp1 hQ _ => ?_)
  obtain ⟨hI, o1⟩ := hp1
  refine lv_aload_n hx hb dX7_firstRest_4 rfl (lv_at hl 0 rfl) ?_
  have c4 : S1 107 = .inr (7, [.ref (ad 2), .ref (ad 95), .ref (ad 108), .ref (ad 109), .ref (ad 110)]) := ((o1 107 (by decide)).trans c2)
  refine xcVi E hs hQ hml hl.1 107 (gX7_countWays_107 l g ad hD S1 hI ) mX7_countWays q1315 (by decide) c4 rfl rfl ⟨(Nat.le_of_ble_eq_true rfl), (Nat.le_of_ble_eq_true rfl)⟩ ⟨(Nat.le_of_ble_eq_true rfl), (Nat.le_of_ble_eq_true rfl)⟩ (Nat.le_of_ble_eq_true rfl) rfl dX7_firstRest_5 (fun r3 S3 H locs hp3 hQ _ => ?_)
  subst hp3
  refine lv_istore_n (lv' := [(2, .int r3), (0, .ref (ad 107)), (1, .int a1)]) hx hb dX7_firstRest_8 rfl hl (by decide) rfl (fun ls hl => ?_)
  refine lv_iconst (v := 0) hx hb dX7_firstRest_9 (by decide) ?_
  refine lv_istore_n (lv' := [(3, .int 0), (2, .int r3), (0, .ref (ad 107)), (1, .int a1)]) hx hb dX7_firstRest_10 rfl hl (by decide) rfl (fun ls hl => ?_)
  have loop11 : ∀ (n : Nat) (S_11 : SS) (H : Heap) (locs : List Loc) (ls : Array Slot) (x11_3 : Int32), Bd x11_3 (0) (2147483647) → (-1) * x11_3.toInt + 2147483647 < ((n : Nat) : Int) → InvX g ad S_11 → (∀ j, j ∉ ([109, 110] : List Nat) → S_11 j = S1 j) → Hp g ad 122 S_11 (FA ad 122) s.heap H locs → lv_has ls 4 [(3, .int x11_3), (2, .int r3), (0, .ref (ad 107)), (1, .int a1)] → W p l e (Rm 4) s m [.ref (ad 107), .int a1].toArray below meth c H locs 0 0 (MQ below (va_Qi (fun r S' => InvX g ad S' ∧ (∀ j, j ∉ ([108, 109, 110] : List Nat) → S' j = S j) ∧ Bd r (-1) (11)) (QB g ad 122) (FA ad 122)) [.ref (ad 107), .int a1].toArray s 0 0 (FA ad 122)) (F0 m 11 ls []) := by
    intro n
    induction n with
    | zero => intro S_11 H locs ls x11_3 Bx11_3 hn11_ hI hf11 hQ hl; exfalso; have := (Bx11_3).2; omega
    | succ n11_ ih11 =>
      intro S_11 H locs ls x11_3 Bx11_3 hn11_ hI hf11 hQ hl
      refine lv_iload_n hx hb dX7_firstRest_11 rfl (lv_at hl 0 rfl) ?_
      refine lv_iload_n hx hb dX7_firstRest_12 rfl (lv_at hl 1 rfl) ?_
      refine lv_icmp_ge (tgt := 44) hx hb dX7_firstRest_13 (by decide) (fun k5 => ?_) (fun k5 => ?_)
      · have h6 := ib_le k5
        refine lv_iconst (v := (-1)) hx hb dX7_firstRest_44 (by decide) ?_
        exact xri E hr hlk hQ (⟨hI, (o_trans (o_trans o_refl o1 (by decide)) hf11 (by decide)), (ib_wk (by decide : Bd (-1) (-1) (-1)) (by decide) (by decide))⟩) dX7_firstRest_45
      · have h7 := ib_nle k5
        have b8 : Bd x11_3 (0) (2147483646) := ⟨(Bx11_3).1, ((rf_lt Bx11_3 (ib_full r3) h7).1).2⟩
        have b9 : Bd r3 (1) (2147483647) := ⟨((rf_lt Bx11_3 (ib_full r3) h7).2).1, ((ib_full r3)).2⟩
        refine lv_aload_n hx hb dX7_firstRest_16 rfl (lv_at hl 2 rfl) ?_
        refine lv_iload_n hx hb dX7_firstRest_17 rfl (lv_at hl 0 rfl) ?_
        have c11 : S_11 107 = .inr (7, [.ref (ad 2), .ref (ad 95), .ref (ad 108), .ref (ad 109), .ref (ad 110)]) := ((hf11 107 (by decide)).trans c4)
        refine xcVi E hs hQ hml hl.1 107 (gX7_tryWay_107 l g ad hD S_11 hI x11_3 (ib_wk b8 (by decide) (by decide))) mX7_tryWay q1319 (by decide) c11 rfl rfl ⟨(Nat.le_of_ble_eq_true rfl), (Nat.le_of_ble_eq_true rfl)⟩ ⟨(Nat.le_of_ble_eq_true rfl), (Nat.le_of_ble_eq_true rfl)⟩ (Nat.le_of_ble_eq_true rfl) rfl dX7_firstRest_18 (fun r10 S10 H locs hp10 hQ _ => ?_)
        obtain ⟨hI, o10, b10, u10_0⟩ := hp10
        refine lv_if_eq (tgt := 38) hx hb dX7_firstRest_21 (by decide) (fun k12 => ?_) (fun k12 => ?_)
        · have h13 := ib_eq k12
          have b14 : Bd r10 (0) (0) := ⟨(b10).1, ((rf_eq b10 (by decide : Bd 0 (0) (0)) h13).1).2⟩
          obtain ⟨z15, e16⟩ : ∃ z : Int32, z = x11_3 + 1 := ⟨_, rfl⟩
          have t17 := ib_add e16 b8 (by decide : Bd 1 (1) (1)) (by decide) (by decide)
          have b18 : Bd z15 (1) (2147483647) := ib_addb t17 b8 (by decide : Bd 1 (1) (1))
          have t17 : z15.toInt = x11_3.toInt + 1 := fold_add t17 rfl (by decide)
          refine lv_iinc (v := z15) (lv' := [(3, .int z15), (2, .int r3), (0, .ref (ad 107)), (1, .int a1)]) hx hb dX7_firstRest_38 hl (k := 0) rfl (by rw [e16]; rfl) (by decide) rfl (fun ls hl => ?_)
          refine lv_goto (tgt := 11) hx hb dX7_firstRest_41 (by decide) ?_
          exact ih11 _ _ _ _ z15 (ib_wk b18 (by decide) (by decide)) (by omega) hI (o_trans hf11 o10 (by decide)) hQ (lv_sub hl [0, 1, 2, 3] rfl)
        · have h19 := ib_ne k12
          have b20 : Bd r10 (1) (1) := rf_nlo b10 (by decide : Bd 0 (0) (0)) h19
          refine lv_aload_n hx hb dX7_firstRest_24 rfl (lv_at hl 2 rfl) ?_
          have c22 : S10 107 = .inr (7, [.ref (ad 2), .ref (ad 95), .ref (ad 108), .ref (ad 109), .ref (ad 110)]) := ((o10 107 (by decide)).trans c11)
          refine xcVi E hs hQ hml hl.1 107 (gX7_isRest_107 l g ad hD S10 hI (u10_0.resolve_left (by omega))) mX7_isRest q1325 (by decide) c22 rfl rfl ⟨(Nat.le_of_ble_eq_true rfl), (Nat.le_of_ble_eq_true rfl)⟩ ⟨(Nat.le_of_ble_eq_true rfl), (Nat.le_of_ble_eq_true rfl)⟩ (Nat.le_of_ble_eq_true rfl) rfl dX7_firstRest_25 (fun r21 S21 H locs hp21 hQ _ => ?_)
          obtain ⟨rfl, b21⟩ := hp21
          refine lv_if_eq (tgt := 38) hx hb dX7_firstRest_28 (by decide) (fun k23 => ?_) (fun k23 => ?_)
          · have h24 := ib_eq k23
            have b25 : Bd r21 (0) (0) := ⟨(b21).1, ((rf_eq b21 (by decide : Bd 0 (0) (0)) h24).1).2⟩
            obtain ⟨z26, e27⟩ : ∃ z : Int32, z = x11_3 + 1 := ⟨_, rfl⟩
            have t28 := ib_add e27 b8 (by decide : Bd 1 (1) (1)) (by decide) (by decide)
            have b29 : Bd z26 (1) (2147483647) := ib_addb t28 b8 (by decide : Bd 1 (1) (1))
            have t28 : z26.toInt = x11_3.toInt + 1 := fold_add t28 rfl (by decide)
            refine lv_iinc (v := z26) (lv' := [(3, .int z26), (2, .int r3), (0, .ref (ad 107)), (1, .int a1)]) hx hb dX7_firstRest_38 hl (k := 0) rfl (by rw [e27]; rfl) (by decide) rfl (fun ls hl => ?_)
            refine lv_goto (tgt := 11) hx hb dX7_firstRest_41 (by decide) ?_
            exact ih11 _ _ _ _ z26 (ib_wk b29 (by decide) (by decide)) (by omega) hI (o_trans hf11 o10 (by decide)) hQ (lv_sub hl [0, 1, 2, 3] rfl)
          · have h30 := ib_ne k23
            have b31 : Bd r21 (1) (1) := rf_nlo b21 (by decide : Bd 0 (0) (0)) h30
            refine lv_aload_n hx hb dX7_firstRest_31 rfl (lv_at hl 2 rfl) ?_
            refine xget E hQ 107 (by decide) c22 rfl 4 (by decide) q455 rfl dX7_firstRest_32 ?_
            refine lv_iload_n hx hb dX7_firstRest_35 rfl (lv_at hl 3 rfl) ?_
            obtain ⟨f32, c33, b34⟩ := invX_110 hI
            refine xiald E hQ 110 (by decide) c33 (ib_in ba1 (by decide) (by decide)) dX7_firstRest_36 ?_
            refine lv_topi (fun z35 e36 => ?_)
            have b37 : Bd z35 (0) (11) := (by rw [e36]; exact b34 _)
            exact xri E hr hlk hQ (⟨hI, (o_trans (o_trans (o_trans o_refl o1 (by decide)) hf11 (by decide)) o10 (by decide)), (ib_wk b37 (by decide) (by decide))⟩) dX7_firstRest_37
  obtain ⟨n11, hn11⟩ := fu_n (2147483647)
  exact loop11 n11 _ _ _ _ 0 (ib_wk (by decide : Bd 0 (0) (0)) (by decide) (by decide)) (by have : (0 : Int32).toInt = 0 := (by decide); omega) hI o_refl hQ (lv_sub hl [0, 1, 2, 3] rfl)
set_option maxHeartbeats 4000000 in
set_option maxRecDepth 100000 in
theorem gX11_share_0 (l : Launch) (g : GG) (ad : Nat → Nat) (hD : Dj ad 122) (S : SS) (hI : InvX g ad S) (a1 : Int32) (hq1 : 0 ≤ 1201 * fld (S 2) 1 + (-1) * fld (S 2) 0) (hq2 : 0 ≤ 8 * fld (S 2) 1 + (-1) * fld (S 2) 7) (hq3 : 0 ≤ 3 * fld (S 2) 1 + (-1) * fld (S 2) 12) : Met l yX11_share (wG (.code yX11_share cX11_share 2 (some .int))) (Rm 4) (XPre g ad 122 S [.ref (ad 0), .int a1]) (va_Qi (fun _ S' => S = S') (QB g ad 122) (FA ad 122)) 0 0 (FA ad 122) := by
  refine xmet cX11_share "EbbWreck" (by decide) rfl (Nat.le_of_ble_eq_true rfl) (fun p e s m below meth c E hr hlk hml hQ ls hl => ?_)
  have hx := E.1
  have hb := E.2.1
  have hs : Sp ad 122 (FA ad 122) := Sp.fa hD
  have hl : lv_has ls 2 [(0, .ref (ad 0)), (1, .int a1)] := hl
  obtain ⟨v1, v3, v5, v6, v7, v9, c11, b2, b4, b8, b10⟩ := invX_2 hI
  have c11 : S 2 = .inr (1, [.int v1, .int v3, .int v5, .ref (ad 3), .ref (ad 5), .ref (ad 6), .int v6, .int v7, .ref (ad 7), .ref (ad 8), .ref (ad 9), .ref (ad 10), .int v9, .ref (ad 15), .ref (ad 16)]) := c11
  have q12 : fld (S 2) 1 = v3.toInt := fld_of c11 rfl
  have q13 : fld (S 2) 0 = v1.toInt := fld_of c11 rfl
  have q14 : fld (S 2) 7 = v7.toInt := fld_of c11 rfl
  have q15 : fld (S 2) 12 = v9.toInt := fld_of c11 rfl
  refine lv_aload_n hx hb dX11_share_0 rfl (lv_at hl 0 rfl) ?_
  obtain ⟨v16, v18, v19, c20, b17⟩ := invX_0 hI
  have c20 : S 0 = .inr (11, [.ref (ad 1), .int v16, .int v18, .int v19, .ref (ad 2), .ref (ad 20), .ref (ad 38), .ref (ad 93), .ref (ad 94), .ref (ad 95), .ref (ad 102), .ref (ad 104), .ref (ad 107), .ref (ad 111), .ref (ad 119)]) := c20
  refine xget E hQ 0 (by decide) c20 rfl 4 (by decide) q520 rfl dX11_share_1 ?_
  refine lv_iload_n hx hb dX11_share_4 rfl (lv_at hl 1 rfl) ?_
  refine xcVi E hs hQ hml hl.1 2 (gX1_hasSitter_2 l g ad hD S hI a1) mX1_hasSitter q848 (by decide) c11 rfl rfl ⟨(Nat.le_of_ble_eq_true rfl), (Nat.le_of_ble_eq_true rfl)⟩ ⟨(Nat.le_of_ble_eq_true rfl), (Nat.le_of_ble_eq_true rfl)⟩ (Nat.le_of_ble_eq_true rfl) rfl dX11_share_5 (fun r21 S21 H locs hp21 hQ _ => ?_)
  obtain ⟨rfl, b21, g21_0⟩ := hp21
  refine lv_if_ne (tgt := 14) hx hb dX11_share_8 (by decide) (fun k22 => ?_) (fun k22 => ?_)
  · have h23 := ib_ne k22
    have b24 : Bd r21 (1) (1) := rf_nlo b21 (by decide : Bd 0 (0) (0)) h23
    have g25 := g21_0.resolve_left (by omega)
    clear g21_0
    have b26 : Bd a1 (0) (2) := ⟨by omega, by omega⟩
    have b27 : Bd v9 (1) (3) := ⟨by omega, by omega⟩
    refine lv_aload_n hx hb dX11_share_14 rfl (lv_at hl 0 rfl) ?_
    refine xget E hQ 0 (by decide) c20 rfl 12 (by decide) q528 rfl dX11_share_15 ?_
    refine lv_iload_n hx hb dX11_share_18 rfl (lv_at hl 1 rfl) ?_
    refine lv_aload_n hx hb dX11_share_19 rfl (lv_at hl 0 rfl) ?_
    refine xget E hQ 0 (by decide) c20 rfl 4 (by decide) q520 rfl dX11_share_20 ?_
    refine xget E hQ 2 (by decide) c11 rfl 13 (by decide) q299 rfl dX11_share_23 ?_
    refine lv_iload_n hx hb dX11_share_26 rfl (lv_at hl 1 rfl) ?_
    obtain ⟨f28, c29, b30⟩ := invX_15 hI
    refine xiald E hQ 15 (by decide) c29 (ib_in b26 (by decide) (by decide)) dX11_share_27 ?_
    refine lv_topi (fun z31 e32 => ?_)
    have b33 : Bd z31 (0) (11) := (by rw [e32]; exact b30 _)
    have c35 := invX_107 hI
    have c35 : S 107 = .inr (7, [.ref (ad 2), .ref (ad 95), .ref (ad 108), .ref (ad 109), .ref (ad 110)]) := c35
    refine xcVi E hs hQ hml hl.1 107 (gX7_worthOn_107 l g ad hD S hI a1 z31) mX7_worthOn q1276 (by decide) c35 rfl rfl ⟨(Nat.le_of_ble_eq_true rfl), (Nat.le_of_ble_eq_true rfl)⟩ ⟨(Nat.le_of_ble_eq_true rfl), (Nat.le_of_ble_eq_true rfl)⟩ (Nat.le_of_ble_eq_true rfl) rfl dX11_share_28 (fun r34 S34 H locs hp34 hQ _ => ?_)
    subst hp34
    exact xri E hr hlk hQ (rfl) dX11_share_31
  · have h36 := ib_eq k22
    have b37 : Bd r21 (0) (0) := ⟨(b21).1, ((rf_eq b21 (by decide : Bd 0 (0) (0)) h36).1).2⟩
    clear g21_0
    refine lv_bipush (v := (-2)) hx hb dX11_share_11 (by decide) ?_
    exact xri E hr hlk hQ (rfl) dX11_share_13
set_option maxHeartbeats 4000000 in
set_option maxRecDepth 100000 in
theorem gX11_seat_0 (l : Launch) (g : GG) (ad : Nat → Nat) (hD : Dj ad 122) (S : SS) (hI : InvX g ad S) (a1 : Int32) (a2 : Int32) (hq1 : 0 ≤ 1201 * fld (S 2) 1 + (-1) * fld (S 2) 0) (hq2 : 0 ≤ 8 * fld (S 2) 1 + (-1) * fld (S 2) 7) (hq3 : 0 ≤ 3 * fld (S 2) 1 + (-1) * fld (S 2) 12) : Met l yX11_seat (wG (.code yX11_seat cX11_seat 3 (some .int))) (Rm 4) (XPre g ad 122 S [.ref (ad 0), .int a1, .int a2]) (va_Qi (fun _ S' => S = S') (QB g ad 122) (FA ad 122)) 0 0 (FA ad 122) := by
  refine xmet cX11_seat "EbbWreck" (by decide) rfl (Nat.le_of_ble_eq_true rfl) (fun p e s m below meth c E hr hlk hml hQ ls hl => ?_)
  have hx := E.1
  have hb := E.2.1
  have hs : Sp ad 122 (FA ad 122) := Sp.fa hD
  have hl : lv_has ls 3 [(0, .ref (ad 0)), (1, .int a1), (2, .int a2)] := hl
  obtain ⟨v1, v3, v5, v6, v7, v9, c11, b2, b4, b8, b10⟩ := invX_2 hI
  have c11 : S 2 = .inr (1, [.int v1, .int v3, .int v5, .ref (ad 3), .ref (ad 5), .ref (ad 6), .int v6, .int v7, .ref (ad 7), .ref (ad 8), .ref (ad 9), .ref (ad 10), .int v9, .ref (ad 15), .ref (ad 16)]) := c11
  have q12 : fld (S 2) 1 = v3.toInt := fld_of c11 rfl
  have q13 : fld (S 2) 0 = v1.toInt := fld_of c11 rfl
  have q14 : fld (S 2) 7 = v7.toInt := fld_of c11 rfl
  have q15 : fld (S 2) 12 = v9.toInt := fld_of c11 rfl
  refine lv_aload_n hx hb dX11_seat_0 rfl (lv_at hl 0 rfl) ?_
  obtain ⟨v16, v18, v19, c20, b17⟩ := invX_0 hI
  have c20 : S 0 = .inr (11, [.ref (ad 1), .int v16, .int v18, .int v19, .ref (ad 2), .ref (ad 20), .ref (ad 38), .ref (ad 93), .ref (ad 94), .ref (ad 95), .ref (ad 102), .ref (ad 104), .ref (ad 107), .ref (ad 111), .ref (ad 119)]) := c20
  refine xget E hQ 0 (by decide) c20 rfl 4 (by decide) q520 rfl dX11_seat_1 ?_
  refine lv_iload_n hx hb dX11_seat_4 rfl (lv_at hl 1 rfl) ?_
  refine xcVi E hs hQ hml hl.1 2 (gX1_hasSitter_2 l g ad hD S hI a1) mX1_hasSitter q848 (by decide) c11 rfl rfl ⟨(Nat.le_of_ble_eq_true rfl), (Nat.le_of_ble_eq_true rfl)⟩ ⟨(Nat.le_of_ble_eq_true rfl), (Nat.le_of_ble_eq_true rfl)⟩ (Nat.le_of_ble_eq_true rfl) rfl dX11_seat_5 (fun r21 S21 H locs hp21 hQ _ => ?_)
  obtain ⟨rfl, b21, g21_0⟩ := hp21
  refine lv_if_eq (tgt := 22) hx hb dX11_seat_8 (by decide) (fun k22 => ?_) (fun k22 => ?_)
  · have h23 := ib_eq k22
    have b24 : Bd r21 (0) (0) := ⟨(b21).1, ((rf_eq b21 (by decide : Bd 0 (0) (0)) h23).1).2⟩
    clear g21_0
    refine lv_bipush (v := (-2)) hx hb dX11_seat_22 (by decide) ?_
    exact xri E hr hlk hQ (rfl) dX11_seat_24
  · have h25 := ib_ne k22
    have b26 : Bd r21 (1) (1) := rf_nlo b21 (by decide : Bd 0 (0) (0)) h25
    have g27 := g21_0.resolve_left (by omega)
    clear g21_0
    have b28 : Bd a1 (0) (2) := ⟨by omega, by omega⟩
    have b29 : Bd v9 (1) (3) := ⟨by omega, by omega⟩
    refine lv_aload_n hx hb dX11_seat_11 rfl (lv_at hl 0 rfl) ?_
    refine xget E hQ 0 (by decide) c20 rfl 4 (by decide) q520 rfl dX11_seat_12 ?_
    refine lv_iload_n hx hb dX11_seat_15 rfl (lv_at hl 2 rfl) ?_
    refine xcVi E hs hQ hml hl.1 2 (gX1_hasCell_2 l g ad hD S hI a2) mX1_hasCell q823 (by decide) c11 rfl rfl ⟨(Nat.le_of_ble_eq_true rfl), (Nat.le_of_ble_eq_true rfl)⟩ ⟨(Nat.le_of_ble_eq_true rfl), (Nat.le_of_ble_eq_true rfl)⟩ (Nat.le_of_ble_eq_true rfl) rfl dX11_seat_16 (fun r30 S30 H locs hp30 hQ _ => ?_)
    obtain ⟨rfl, b30, g30_0⟩ := hp30
    refine lv_if_ne (tgt := 25) hx hb dX11_seat_19 (by decide) (fun k31 => ?_) (fun k31 => ?_)
    · have h32 := ib_ne k31
      have b33 : Bd r30 (1) (1) := rf_nlo b30 (by decide : Bd 0 (0) (0)) h32
      have g34 := g30_0.resolve_left (by omega)
      clear g30_0
      have b35 : Bd a2 (0) (11) := ⟨by omega, by omega⟩
      have b36 : Bd v3 (1) (12) := ⟨by omega, by omega⟩
      refine lv_aload_n hx hb dX11_seat_25 rfl (lv_at hl 0 rfl) ?_
      refine xget E hQ 0 (by decide) c20 rfl 12 (by decide) q528 rfl dX11_seat_26 ?_
      refine lv_iload_n hx hb dX11_seat_29 rfl (lv_at hl 1 rfl) ?_
      refine lv_iload_n hx hb dX11_seat_30 rfl (lv_at hl 2 rfl) ?_
      have c38 := invX_107 hI
      have c38 : S 107 = .inr (7, [.ref (ad 2), .ref (ad 95), .ref (ad 108), .ref (ad 109), .ref (ad 110)]) := c38
      refine xcVi E hs hQ hml hl.1 107 (gX7_worthOn_107 l g ad hD S hI a1 a2) mX7_worthOn q1276 (by decide) c38 rfl rfl ⟨(Nat.le_of_ble_eq_true rfl), (Nat.le_of_ble_eq_true rfl)⟩ ⟨(Nat.le_of_ble_eq_true rfl), (Nat.le_of_ble_eq_true rfl)⟩ (Nat.le_of_ble_eq_true rfl) rfl dX11_seat_31 (fun r37 S37 H locs hp37 hQ _ => ?_)
      subst hp37
      exact xri E hr hlk hQ (rfl) dX11_seat_34
    · have h39 := ib_eq k31
      have b40 : Bd r30 (0) (0) := ⟨(b30).1, ((rf_eq b30 (by decide : Bd 0 (0) (0)) h39).1).2⟩
      clear g30_0
      refine lv_bipush (v := (-2)) hx hb dX11_seat_22 (by decide) ?_
      exact xri E hr hlk hQ (rfl) dX11_seat_24
set_option maxHeartbeats 4000000 in
set_option maxRecDepth 100000 in
theorem gX11_seats_0 (l : Launch) (g : GG) (ad : Nat → Nat) (hD : Dj ad 122) (S : SS) (hI : InvX g ad S) (a1 : Int32) (hq1 : 0 ≤ 1201 * fld (S 2) 1 + (-1) * fld (S 2) 0) (hq2 : 0 ≤ 8 * fld (S 2) 1 + (-1) * fld (S 2) 7) (hq3 : 0 ≤ 3 * fld (S 2) 1 + (-1) * fld (S 2) 12) : Met l yX11_seats (wG (.code yX11_seats cX11_seats 2 (some .int))) (Rm 5) (XPre g ad 122 S [.ref (ad 0), .int a1]) (va_Qi (fun r S' => S = S' ∧ Bd r (-2) (11)) (QB g ad 122) (FA ad 122)) 0 0 (FA ad 122) := by
  refine xmet cX11_seats "EbbWreck" (by decide) rfl (Nat.le_of_ble_eq_true rfl) (fun p e s m below meth c E hr hlk hml hQ ls hl => ?_)
  have hx := E.1
  have hb := E.2.1
  have hs : Sp ad 122 (FA ad 122) := Sp.fa hD
  have hl : lv_has ls 2 [(0, .ref (ad 0)), (1, .int a1)] := hl
  obtain ⟨v1, v3, v5, v6, v7, v9, c11, b2, b4, b8, b10⟩ := invX_2 hI
  have c11 : S 2 = .inr (1, [.int v1, .int v3, .int v5, .ref (ad 3), .ref (ad 5), .ref (ad 6), .int v6, .int v7, .ref (ad 7), .ref (ad 8), .ref (ad 9), .ref (ad 10), .int v9, .ref (ad 15), .ref (ad 16)]) := c11
  have q12 : fld (S 2) 1 = v3.toInt := fld_of c11 rfl
  have q13 : fld (S 2) 0 = v1.toInt := fld_of c11 rfl
  have q14 : fld (S 2) 7 = v7.toInt := fld_of c11 rfl
  have q15 : fld (S 2) 12 = v9.toInt := fld_of c11 rfl
  refine lv_aload_n hx hb dX11_seats_0 rfl (lv_at hl 0 rfl) ?_
  obtain ⟨v16, v18, v19, c20, b17⟩ := invX_0 hI
  have c20 : S 0 = .inr (11, [.ref (ad 1), .int v16, .int v18, .int v19, .ref (ad 2), .ref (ad 20), .ref (ad 38), .ref (ad 93), .ref (ad 94), .ref (ad 95), .ref (ad 102), .ref (ad 104), .ref (ad 107), .ref (ad 111), .ref (ad 119)]) := c20
  refine xget E hQ 0 (by decide) c20 rfl 4 (by decide) q520 rfl dX11_seats_1 ?_
  refine lv_iload_n hx hb dX11_seats_4 rfl (lv_at hl 1 rfl) ?_
  refine xcVi E hs hQ hml hl.1 2 (gX1_hasSitter_2 l g ad hD S hI a1) mX1_hasSitter q848 (by decide) c11 rfl rfl ⟨(Nat.le_of_ble_eq_true rfl), (Nat.le_of_ble_eq_true rfl)⟩ ⟨(Nat.le_of_ble_eq_true rfl), (Nat.le_of_ble_eq_true rfl)⟩ (Nat.le_of_ble_eq_true rfl) rfl dX11_seats_5 (fun r21 S21 H locs hp21 hQ _ => ?_)
  obtain ⟨rfl, b21, g21_0⟩ := hp21
  refine lv_if_eq (tgt := 22) hx hb dX11_seats_8 (by decide) (fun k22 => ?_) (fun k22 => ?_)
  · have h23 := ib_eq k22
    have b24 : Bd r21 (0) (0) := ⟨(b21).1, ((rf_eq b21 (by decide : Bd 0 (0) (0)) h23).1).2⟩
    clear g21_0
    refine lv_bipush (v := (-2)) hx hb dX11_seats_22 (by decide) ?_
    exact xri E hr hlk hQ (⟨rfl, (ib_wk (by decide : Bd (-2) (-2) (-2)) (by decide) (by decide))⟩) dX11_seats_24
  · have h25 := ib_ne k22
    have b26 : Bd r21 (1) (1) := rf_nlo b21 (by decide : Bd 0 (0) (0)) h25
    have g27 := g21_0.resolve_left (by omega)
    clear g21_0
    have b28 : Bd a1 (0) (2) := ⟨by omega, by omega⟩
    have b29 : Bd v9 (1) (3) := ⟨by omega, by omega⟩
    refine lv_aload_n hx hb dX11_seats_11 rfl (lv_at hl 0 rfl) ?_
    refine xget E hQ 0 (by decide) c20 rfl 12 (by decide) q528 rfl dX11_seats_12 ?_
    refine lv_iload_n hx hb dX11_seats_15 rfl (lv_at hl 1 rfl) ?_
    have c31 := invX_107 hI
    have c31 : S 107 = .inr (7, [.ref (ad 2), .ref (ad 95), .ref (ad 108), .ref (ad 109), .ref (ad 110)]) := c31
    refine xcVi E hs hQ hml hl.1 107 (gX7_bestCell_107 l g ad hD S hI a1) mX7_bestCell q1298 (by decide) c31 rfl rfl ⟨(Nat.le_of_ble_eq_true rfl), (Nat.le_of_ble_eq_true rfl)⟩ ⟨(Nat.le_of_ble_eq_true rfl), (Nat.le_of_ble_eq_true rfl)⟩ (Nat.le_of_ble_eq_true rfl) rfl dX11_seats_16 (fun r30 S30 H locs hp30 hQ _ => ?_)
    obtain ⟨rfl, b30⟩ := hp30
    refine lv_goto (tgt := 24) hx hb dX11_seats_19 (by decide) ?_
    exact xri E hr hlk hQ (⟨rfl, (ib_wk b30 (by decide) (by decide))⟩) dX11_seats_24
set_option maxHeartbeats 4000000 in
set_option maxRecDepth 100000 in
theorem gX11_rests_0 (l : Launch) (g : GG) (ad : Nat → Nat) (hD : Dj ad 122) (S : SS) (hI : InvX g ad S) (hq1 : 0 ≤ 1201 * fld (S 2) 1 + (-1) * fld (S 2) 0) (hq2 : 0 ≤ 8 * fld (S 2) 1 + (-1) * fld (S 2) 7) (hq3 : 0 ≤ 3 * fld (S 2) 1 + (-1) * fld (S 2) 12) : Met l yX11_rests (wG (.code yX11_rests cX11_rests 1 (some .int))) (Rm 5) (XPre g ad 122 S [.ref (ad 0)]) (va_Qi (fun _ S' => InvX g ad S' ∧ (∀ j, j ∉ ([108, 109, 110] : List Nat) → S' j = S j)) (QB g ad 122) (FA ad 122)) 0 0 (FA ad 122) := by
  refine xmet cX11_rests "EbbWreck" (by decide) rfl (Nat.le_of_ble_eq_true rfl) (fun p e s m below meth c E hr hlk hml hQ ls hl => ?_)
  have hx := E.1
  have hb := E.2.1
  have hs : Sp ad 122 (FA ad 122) := Sp.fa hD
  have hl : lv_has ls 1 [(0, .ref (ad 0))] := hl
  obtain ⟨v1, v3, v5, v6, v7, v9, c11, b2, b4, b8, b10⟩ := invX_2 hI
  have c11 : S 2 = .inr (1, [.int v1, .int v3, .int v5, .ref (ad 3), .ref (ad 5), .ref (ad 6), .int v6, .int v7, .ref (ad 7), .ref (ad 8), .ref (ad 9), .ref (ad 10), .int v9, .ref (ad 15), .ref (ad 16)]) := c11
  have q12 : fld (S 2) 1 = v3.toInt := fld_of c11 rfl
  have q13 : fld (S 2) 0 = v1.toInt := fld_of c11 rfl
  have q14 : fld (S 2) 7 = v7.toInt := fld_of c11 rfl
  have q15 : fld (S 2) 12 = v9.toInt := fld_of c11 rfl
  refine lv_aload_n hx hb dX11_rests_0 rfl (lv_at hl 0 rfl) ?_
  obtain ⟨v16, v18, v19, c20, b17⟩ := invX_0 hI
  have c20 : S 0 = .inr (11, [.ref (ad 1), .int v16, .int v18, .int v19, .ref (ad 2), .ref (ad 20), .ref (ad 38), .ref (ad 93), .ref (ad 94), .ref (ad 95), .ref (ad 102), .ref (ad 104), .ref (ad 107), .ref (ad 111), .ref (ad 119)]) := c20
  refine xget E hQ 0 (by decide) c20 rfl 4 (by decide) q520 rfl dX11_rests_1 ?_
  refine xcVi E hs hQ hml hl.1 2 (gX1_isTold_2 l g ad hD S hI ) mX1_isTold q878 (by decide) c11 rfl rfl ⟨(Nat.le_of_ble_eq_true rfl), (Nat.le_of_ble_eq_true rfl)⟩ ⟨(Nat.le_of_ble_eq_true rfl), (Nat.le_of_ble_eq_true rfl)⟩ (Nat.le_of_ble_eq_true rfl) rfl dX11_rests_4 (fun r21 S21 H locs hp21 hQ _ => ?_)
  obtain ⟨rfl, b21, g21_0⟩ := hp21
  refine lv_if_eq (tgt := 20) hx hb dX11_rests_7 (by decide) (fun k22 => ?_) (fun k22 => ?_)
  · have h23 := ib_eq k22
    have b24 : Bd r21 (0) (0) := ⟨(b21).1, ((rf_eq b21 (by decide : Bd 0 (0) (0)) h23).1).2⟩
    clear g21_0
    refine lv_bipush (v := (-2)) hx hb dX11_rests_20 (by decide) ?_
    exact xri E hr hlk hQ (⟨hI, o_refl⟩) dX11_rests_22
  · have h25 := ib_ne k22
    have b26 : Bd r21 (1) (1) := rf_nlo b21 (by decide : Bd 0 (0) (0)) h25
    have g27 := g21_0.resolve_left (by omega)
    clear g21_0
    have b28 : Bd v1 (1) (1201) := ⟨by omega, by omega⟩
    refine lv_aload_n hx hb dX11_rests_10 rfl (lv_at hl 0 rfl) ?_
    refine xget E hQ 0 (by decide) c20 rfl 12 (by decide) q528 rfl dX11_rests_11 ?_
    have c30 := invX_107 hI
    have c30 : S 107 = .inr (7, [.ref (ad 2), .ref (ad 95), .ref (ad 108), .ref (ad 109), .ref (ad 110)]) := c30
    refine xcVi E hs hQ hml hl.1 107 (gX7_countRests_107 l g ad hD S hI ) mX7_countRests q1307 (by decide) c30 rfl rfl ⟨(Nat.le_of_ble_eq_true rfl), (Nat.le_of_ble_eq_true rfl)⟩ ⟨(Nat.le_of_ble_eq_true rfl), (Nat.le_of_ble_eq_true rfl)⟩ (Nat.le_of_ble_eq_true rfl) rfl dX11_rests_14 (fun r29 S29 H locs hp29 hQ _ => ?_)
    obtain ⟨hI, o29⟩ := hp29
    refine lv_goto (tgt := 22) hx hb dX11_rests_17 (by decide) ?_
    exact xri E hr hlk hQ (⟨hI, (o_trans o_refl o29 (by decide))⟩) dX11_rests_22
set_option maxHeartbeats 4000000 in
set_option maxRecDepth 100000 in
theorem gX11_rest_0 (l : Launch) (g : GG) (ad : Nat → Nat) (hD : Dj ad 122) (S : SS) (hI : InvX g ad S) (a1 : Int32) (hq1 : 0 ≤ 1201 * fld (S 2) 1 + (-1) * fld (S 2) 0) (hq2 : 0 ≤ 8 * fld (S 2) 1 + (-1) * fld (S 2) 7) (hq3 : 0 ≤ 3 * fld (S 2) 1 + (-1) * fld (S 2) 12) : Met l yX11_rest (wG (.code yX11_rest cX11_rest 2 (some .int))) (Rm 5) (XPre g ad 122 S [.ref (ad 0), .int a1]) (va_Qi (fun r S' => InvX g ad S' ∧ (∀ j, j ∉ ([108, 109, 110] : List Nat) → S' j = S j) ∧ Bd r (-2) (11)) (QB g ad 122) (FA ad 122)) 0 0 (FA ad 122) := by
  refine xmet cX11_rest "EbbWreck" (by decide) rfl (Nat.le_of_ble_eq_true rfl) (fun p e s m below meth c E hr hlk hml hQ ls hl => ?_)
  have hx := E.1
  have hb := E.2.1
  have hs : Sp ad 122 (FA ad 122) := Sp.fa hD
  have hl : lv_has ls 2 [(0, .ref (ad 0)), (1, .int a1)] := hl
  obtain ⟨v1, v3, v5, v6, v7, v9, c11, b2, b4, b8, b10⟩ := invX_2 hI
  have c11 : S 2 = .inr (1, [.int v1, .int v3, .int v5, .ref (ad 3), .ref (ad 5), .ref (ad 6), .int v6, .int v7, .ref (ad 7), .ref (ad 8), .ref (ad 9), .ref (ad 10), .int v9, .ref (ad 15), .ref (ad 16)]) := c11
  have q12 : fld (S 2) 1 = v3.toInt := fld_of c11 rfl
  have q13 : fld (S 2) 0 = v1.toInt := fld_of c11 rfl
  have q14 : fld (S 2) 7 = v7.toInt := fld_of c11 rfl
  have q15 : fld (S 2) 12 = v9.toInt := fld_of c11 rfl
  refine lv_aload_n hx hb dX11_rest_0 rfl (lv_at hl 0 rfl) ?_
  obtain ⟨v16, v18, v19, c20, b17⟩ := invX_0 hI
  have c20 : S 0 = .inr (11, [.ref (ad 1), .int v16, .int v18, .int v19, .ref (ad 2), .ref (ad 20), .ref (ad 38), .ref (ad 93), .ref (ad 94), .ref (ad 95), .ref (ad 102), .ref (ad 104), .ref (ad 107), .ref (ad 111), .ref (ad 119)]) := c20
  refine xget E hQ 0 (by decide) c20 rfl 4 (by decide) q520 rfl dX11_rest_1 ?_
  refine lv_iload_n hx hb dX11_rest_4 rfl (lv_at hl 1 rfl) ?_
  refine xcVi E hs hQ hml hl.1 2 (gX1_hasSitter_2 l g ad hD S hI a1) mX1_hasSitter q848 (by decide) c11 rfl rfl ⟨(Nat.le_of_ble_eq_true rfl), (Nat.le_of_ble_eq_true rfl)⟩ ⟨(Nat.le_of_ble_eq_true rfl), (Nat.le_of_ble_eq_true rfl)⟩ (Nat.le_of_ble_eq_true rfl) rfl dX11_rest_5 (fun r21 S21 H locs hp21 hQ _ => ?_)
  obtain ⟨rfl, b21, g21_0⟩ := hp21
  refine lv_if_eq (tgt := 22) hx hb dX11_rest_8 (by decide) (fun k22 => ?_) (fun k22 => ?_)
  · have h23 := ib_eq k22
    have b24 : Bd r21 (0) (0) := ⟨(b21).1, ((rf_eq b21 (by decide : Bd 0 (0) (0)) h23).1).2⟩
    clear g21_0
    refine lv_bipush (v := (-2)) hx hb dX11_rest_22 (by decide) ?_
    exact xri E hr hlk hQ (⟨hI, o_refl, (ib_wk (by decide : Bd (-2) (-2) (-2)) (by decide) (by decide))⟩) dX11_rest_24
  · have h25 := ib_ne k22
    have b26 : Bd r21 (1) (1) := rf_nlo b21 (by decide : Bd 0 (0) (0)) h25
    have g27 := g21_0.resolve_left (by omega)
    clear g21_0
    have b28 : Bd a1 (0) (2) := ⟨by omega, by omega⟩
    have b29 : Bd v9 (1) (3) := ⟨by omega, by omega⟩
    refine lv_aload_n hx hb dX11_rest_11 rfl (lv_at hl 0 rfl) ?_
    refine xget E hQ 0 (by decide) c20 rfl 12 (by decide) q528 rfl dX11_rest_12 ?_
    refine lv_iload_n hx hb dX11_rest_15 rfl (lv_at hl 1 rfl) ?_
    have c31 := invX_107 hI
    have c31 : S 107 = .inr (7, [.ref (ad 2), .ref (ad 95), .ref (ad 108), .ref (ad 109), .ref (ad 110)]) := c31
    refine xcVi E hs hQ hml hl.1 107 (gX7_firstRest_107 l g ad hD S hI a1 b28) mX7_firstRest q1337 (by decide) c31 rfl rfl ⟨(Nat.le_of_ble_eq_true rfl), (Nat.le_of_ble_eq_true rfl)⟩ ⟨(Nat.le_of_ble_eq_true rfl), (Nat.le_of_ble_eq_true rfl)⟩ (Nat.le_of_ble_eq_true rfl) rfl dX11_rest_16 (fun r30 S30 H locs hp30 hQ _ => ?_)
    obtain ⟨hI, o30, b30⟩ := hp30
    refine lv_goto (tgt := 24) hx hb dX11_rest_19 (by decide) ?_
    exact xri E hr hlk hQ (⟨hI, (o_trans o_refl o30 (by decide)), (ib_wk b30 (by decide) (by decide))⟩) dX11_rest_24
