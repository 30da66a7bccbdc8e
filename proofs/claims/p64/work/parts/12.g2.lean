set_option maxHeartbeats 4000000 in
set_option maxRecDepth 100000 in
theorem gJ6_bitCount_0f7a4 (l : Launch) (g : GG) (ad : Nat → Nat) (hD : Dj ad 122) (S : SS) (hI : InvX g ad S) (a1 : Int32) : Met l yJ6_bitCount_0f7a4 (wG (.code yJ6_bitCount_0f7a4 cJ6_bitCount_0f7a4 1 (some .int))) (Rm 0) (XPre g ad 122 S [.int a1]) (va_Qi (fun r S' => S = S' ∧ Bd r (0) (63)) (QB g ad 122) (FA ad 122)) 0 0 (FA ad 122) := by
  refine xmet cJ6_bitCount_0f7a4 "java/lang/Integer" (by decide) rfl (Nat.le_of_ble_eq_true rfl) (fun p e s m below meth c E hr hlk hml hQ ls hl => ?_)
  have hx := E.1
  have hb := E.2.1
  have hs : Sp ad 122 (FA ad 122) := Sp.fa hD
  have hl : lv_has ls 1 [(0, .int a1)] := hl
  refine lv_iload_n hx hb dJ6_bitCount_0f7a4_0 rfl (lv_at hl 0 rfl) ?_
  refine lv_iload_n hx hb dJ6_bitCount_0f7a4_1 rfl (lv_at hl 0 rfl) ?_
  refine lv_iconst (v := 1) hx hb dJ6_bitCount_0f7a4_2 (by decide) ?_
  refine lv_iushr hx hb dJ6_bitCount_0f7a4_3 rfl ?_
  refine lv_topi (fun z1 e2 => ?_)
  refine lv_ldcw (v := 1431655765) hx hb E.2.2.1 (E.2.2.2.1 _ q859) dJ6_bitCount_0f7a4_4 ?_
  refine lv_iand hx hb dJ6_bitCount_0f7a4_7 ?_
  refine lv_topi (fun z3 e4 => ?_)
  refine lv_isub hx hb dJ6_bitCount_0f7a4_8 ?_
  refine lv_topi (fun z5 e6 => ?_)
  refine lv_istore_n (lv' := [(0, .int z5)]) hx hb dJ6_bitCount_0f7a4_9 rfl hl (by decide) rfl (fun ls hl => ?_)
  refine lv_iload_n hx hb dJ6_bitCount_0f7a4_10 rfl (lv_at hl 0 rfl) ?_
  refine lv_ldcw (v := 858993459) hx hb E.2.2.1 (E.2.2.2.1 _ q860) dJ6_bitCount_0f7a4_11 ?_
  refine lv_iand hx hb dJ6_bitCount_0f7a4_14 ?_
  refine lv_topi (fun z7 e8 => ?_)
  refine lv_iload_n hx hb dJ6_bitCount_0f7a4_15 rfl (lv_at hl 0 rfl) ?_
  refine lv_iconst (v := 2) hx hb dJ6_bitCount_0f7a4_16 (by decide) ?_
  refine lv_iushr hx hb dJ6_bitCount_0f7a4_17 rfl ?_
  refine lv_topi (fun z9 e10 => ?_)
  refine lv_ldcw (v := 858993459) hx hb E.2.2.1 (E.2.2.2.1 _ q860) dJ6_bitCount_0f7a4_18 ?_
  refine lv_iand hx hb dJ6_bitCount_0f7a4_21 ?_
  refine lv_topi (fun z11 e12 => ?_)
  refine lv_iadd hx hb dJ6_bitCount_0f7a4_22 ?_
  refine lv_topi (fun z13 e14 => ?_)
  refine lv_istore_n (lv' := [(0, .int z13)]) hx hb dJ6_bitCount_0f7a4_23 rfl hl (by decide) rfl (fun ls hl => ?_)
  refine lv_iload_n hx hb dJ6_bitCount_0f7a4_24 rfl (lv_at hl 0 rfl) ?_
  refine lv_iload_n hx hb dJ6_bitCount_0f7a4_25 rfl (lv_at hl 0 rfl) ?_
  refine lv_iconst (v := 4) hx hb dJ6_bitCount_0f7a4_26 (by decide) ?_
  refine lv_iushr hx hb dJ6_bitCount_0f7a4_27 rfl ?_
  refine lv_topi (fun z15 e16 => ?_)
  refine lv_iadd hx hb dJ6_bitCount_0f7a4_28 ?_
  refine lv_topi (fun z17 e18 => ?_)
  refine lv_ldcw (v := 252645135) hx hb E.2.2.1 (E.2.2.2.1 _ q861) dJ6_bitCount_0f7a4_29 ?_
  refine lv_iand hx hb dJ6_bitCount_0f7a4_32 ?_
  refine lv_topi (fun z19 e20 => ?_)
  refine lv_istore_n (lv' := [(0, .int z19)]) hx hb dJ6_bitCount_0f7a4_33 rfl hl (by decide) rfl (fun ls hl => ?_)
  refine lv_iload_n hx hb dJ6_bitCount_0f7a4_34 rfl (lv_at hl 0 rfl) ?_
  refine lv_iload_n hx hb dJ6_bitCount_0f7a4_35 rfl (lv_at hl 0 rfl) ?_
  refine lv_bipush (v := 8) hx hb dJ6_bitCount_0f7a4_36 (by decide) ?_
  refine lv_iushr hx hb dJ6_bitCount_0f7a4_38 rfl ?_
  refine lv_topi (fun z21 e22 => ?_)
  refine lv_iadd hx hb dJ6_bitCount_0f7a4_39 ?_
  refine lv_topi (fun z23 e24 => ?_)
  refine lv_istore_n (lv' := [(0, .int z23)]) hx hb dJ6_bitCount_0f7a4_40 rfl hl (by decide) rfl (fun ls hl => ?_)
  refine lv_iload_n hx hb dJ6_bitCount_0f7a4_41 rfl (lv_at hl 0 rfl) ?_
  refine lv_iload_n hx hb dJ6_bitCount_0f7a4_42 rfl (lv_at hl 0 rfl) ?_
  refine lv_bipush (v := 16) hx hb dJ6_bitCount_0f7a4_43 (by decide) ?_
  refine lv_iushr hx hb dJ6_bitCount_0f7a4_45 rfl ?_
  refine lv_topi (fun z25 e26 => ?_)
  refine lv_iadd hx hb dJ6_bitCount_0f7a4_46 ?_
  refine lv_topi (fun z27 e28 => ?_)
  refine lv_istore_n (lv' := [(0, .int z27)]) hx hb dJ6_bitCount_0f7a4_47 rfl hl (by decide) rfl (fun ls hl => ?_)
  refine lv_iload_n hx hb dJ6_bitCount_0f7a4_48 rfl (lv_at hl 0 rfl) ?_
  refine lv_bipush (v := 63) hx hb dJ6_bitCount_0f7a4_49 (by decide) ?_
  refine lv_iand hx hb dJ6_bitCount_0f7a4_51 ?_
  refine lv_topi (fun z29 e30 => ?_)
  have b31 : Bd z29 (0) (63) := ib_and 6 e30 (by decide) (by decide)
  exact xri E hr hlk hQ (⟨rfl, b31⟩) dJ6_bitCount_0f7a4_52
set_option maxHeartbeats 4000000 in
set_option maxRecDepth 100000 in
theorem gX8_isSlot (l : Launch) (g : GG) (ad : Nat → Nat) (hD : Dj ad 122) (S : SS) (hI : InvX g ad S) (a1 : Int32) : Met l yX8_isSlot (wG (.code yX8_isSlot cX8_isSlot 1 (some .boolean))) (Rm 0) (XPre g ad 122 S [.int a1]) (va_Qi (fun r S' => S = S' ∧ Bd r (0) (1) ∧ ((r.toInt + (-1) < 0 ∨ (0 ≤ a1.toInt ∧ 0 ≤ (-1) * a1.toInt + 3))) ∧ (InP r.toInt a1.toInt 0 3)) (QB g ad 122) (FA ad 122)) 0 0 (FA ad 122) := by
  refine xmet cX8_isSlot "EbbWreck$Slots" (by decide) rfl (Nat.le_of_ble_eq_true rfl) (fun p e s m below meth c E hr hlk hml hQ ls hl => ?_)
  have hx := E.1
  have hb := E.2.1
  have hs : Sp ad 122 (FA ad 122) := Sp.fa hD
  have hl : lv_has ls 1 [(0, .int a1)] := hl
  refine lv_iload_n hx hb dX8_isSlot_0 rfl (lv_at hl 0 rfl) ?_
  refine lv_if_lt (tgt := 13) hx hb dX8_isSlot_1 (by decide) (fun k1 => ?_) (fun k1 => ?_)
  · have h2 := ib_lt k1
    have b3 : Bd a1 (-2147483648) (-1) := ⟨((ib_full a1)).1, ((rf_lt (ib_full a1) (by decide : Bd 0 (0) (0)) h2).1).2⟩
    refine lv_iconst (v := 0) hx hb dX8_isSlot_13 (by decide) ?_
    have q4 : (0 : Int32).toInt = 0 := by decide
    exact xrz E hr hlk hQ rfl (⟨rfl, (ib_wk (by decide : Bd 0 (0) (0)) (by decide) (by decide)), Or.inl (by omega), (by have h1 : (0 : Int32).toInt = 0 := (by decide); unfold InP; omega)⟩) dX8_isSlot_14
  · have h5 := ib_nlt k1
    have b6 : Bd a1 (0) (2147483647) := ⟨((rf_le (by decide : Bd 0 (0) (0)) (ib_full a1) h5).2).1, ((ib_full a1)).2⟩
    refine lv_iload_n hx hb dX8_isSlot_4 rfl (lv_at hl 0 rfl) ?_
    refine lv_iconst (v := 4) hx hb dX8_isSlot_5 (by decide) ?_
    refine lv_icmp_ge (tgt := 13) hx hb dX8_isSlot_6 (by decide) (fun k7 => ?_) (fun k7 => ?_)
    · have h8 := ib_le k7
      have b9 : Bd a1 (4) (2147483647) := ⟨((rf_le (by decide : Bd 4 (4) (4)) b6 h8).2).1, (b6).2⟩
      refine lv_iconst (v := 0) hx hb dX8_isSlot_13 (by decide) ?_
      have q10 : (0 : Int32).toInt = 0 := by decide
      exact xrz E hr hlk hQ rfl (⟨rfl, (ib_wk (by decide : Bd 0 (0) (0)) (by decide) (by decide)), Or.inl (by omega), (by have h1 : (0 : Int32).toInt = 0 := (by decide); unfold InP; omega)⟩) dX8_isSlot_14
    · have h11 := ib_nle k7
      have b12 : Bd a1 (0) (3) := ⟨(b6).1, ((rf_lt b6 (by decide : Bd 4 (4) (4)) h11).1).2⟩
      refine lv_iconst (v := 1) hx hb dX8_isSlot_9 (by decide) ?_
      refine lv_goto (tgt := 14) hx hb dX8_isSlot_10 (by decide) ?_
      have q13 : (1 : Int32).toInt = 1 := by decide
      exact xrz E hr hlk hQ rfl (⟨rfl, (ib_wk (by decide : Bd 1 (1) (1)) (by decide) (by decide)), Or.inr ⟨by omega, by omega⟩, (by have h1 : (1 : Int32).toInt = 1 := (by decide); unfold InP; omega)⟩) dX8_isSlot_14
set_option maxHeartbeats 4000000 in
set_option maxRecDepth 100000 in
theorem gX8_hasRow_111 (l : Launch) (g : GG) (ad : Nat → Nat) (hD : Dj ad 122) (S : SS) (hI : InvX g ad S) (a1 : Int32) (ba1 : Bd a1 (0) (3)) : Met l yX8_hasRow (wG (.code yX8_hasRow cX8_hasRow 2 (some .boolean))) (Rm 0) (XPre g ad 122 S [.ref (ad 111), .int a1]) (va_Qi (fun r S' => S = S' ∧ Bd r (0) (1) ∧ (HrP r.toInt (elm (S 118) a1.toInt.toNat))) (QB g ad 122) (FA ad 122)) 0 0 (FA ad 122) := by
  refine xmet cX8_hasRow "EbbWreck$Slots" (by decide) rfl (Nat.le_of_ble_eq_true rfl) (fun p e s m below meth c E hr hlk hml hQ ls hl => ?_)
  have hx := E.1
  have hb := E.2.1
  have hs : Sp ad 122 (FA ad 122) := Sp.fa hD
  have hl : lv_has ls 2 [(0, .ref (ad 111)), (1, .int a1)] := hl
  refine lv_aload_n hx hb dX8_hasRow_0 rfl (lv_at hl 0 rfl) ?_
  have c1 := invX_111 hI
  have c1 : S 111 = .inr (8, [.ref (ad 112), .ref (ad 117), .ref (ad 118)]) := c1
  refine xget E hQ 111 (by decide) c1 rfl 2 (by decide) q483 rfl dX8_hasRow_1 ?_
  refine lv_iload_n hx hb dX8_hasRow_4 rfl (lv_at hl 1 rfl) ?_
  obtain ⟨f2, c3, b4⟩ := invX_118 hI
  refine xiald E hQ 118 (by decide) c3 (ib_in ba1 (by decide) (by decide)) dX8_hasRow_5 ?_
  refine lv_topi (fun z5 e6 => ?_)
  have b7 : Bd z5 (-1) (60) := (by rw [e6]; exact b4 _)
  have el8 : elm (S 118) a1.toInt.toNat = z5.toInt := elm_ld c3 e6
  refine lv_iconst (v := (-1)) hx hb dX8_hasRow_6 (by decide) ?_
  refine lv_icmp_eq (tgt := 14) hx hb dX8_hasRow_7 (by decide) (fun k9 => ?_) (fun k9 => ?_)
  · have h10 := ib_eq k9
    have b11 : Bd z5 (-1) (-1) := ⟨(b7).1, ((rf_eq b7 (by decide : Bd (-1) (-1) (-1)) h10).1).2⟩
    refine lv_iconst (v := 0) hx hb dX8_hasRow_14 (by decide) ?_
    exact xrz E hr hlk hQ rfl (⟨rfl, (ib_wk (by decide : Bd 0 (0) (0)) (by decide) (by decide)), (by have h1 : (0 : Int32).toInt = 0 := (by decide); unfold HrP; rw [el8]; omega)⟩) dX8_hasRow_15
  · have h12 := ib_ne k9
    have b13 : Bd z5 (0) (60) := rf_nlo b7 (by decide : Bd (-1) (-1) (-1)) h12
    refine lv_iconst (v := 1) hx hb dX8_hasRow_10 (by decide) ?_
    refine lv_goto (tgt := 15) hx hb dX8_hasRow_11 (by decide) ?_
    exact xrz E hr hlk hQ rfl (⟨rfl, (ib_wk (by decide : Bd 1 (1) (1)) (by decide) (by decide)), (by have h1 : (1 : Int32).toInt = 1 := (by decide); unfold HrP; rw [el8]; omega)⟩) dX8_hasRow_15
set_option maxHeartbeats 4000000 in
set_option maxRecDepth 100000 in
theorem gX8_filled_111 (l : Launch) (g : GG) (ad : Nat → Nat) (hD : Dj ad 122) (S : SS) (hI : InvX g ad S) : Met l yX8_filled (wG (.code yX8_filled cX8_filled 3 (some .int))) (Rm 1) (XPre g ad 122 S [.ref (ad 111)]) (va_Qi (fun _ S' => S = S') (QB g ad 122) (FA ad 122)) 0 0 (FA ad 122) := by
  refine xmet cX8_filled "EbbWreck$Slots" (by decide) rfl (Nat.le_of_ble_eq_true rfl) (fun p e s m below meth c E hr hlk hml hQ ls hl => ?_)
  have hx := E.1
  have hb := E.2.1
  have hs : Sp ad 122 (FA ad 122) := Sp.fa hD
  have hl : lv_has ls 3 [(0, .ref (ad 111))] := hl
  refine lv_iconst (v := 0) hx hb dX8_filled_0 (by decide) ?_
  refine lv_istore_n (lv' := [(1, .int 0), (0, .ref (ad 111))]) hx hb dX8_filled_1 rfl hl (by decide) rfl (fun ls hl => ?_)
  refine lv_iconst (v := 0) hx hb dX8_filled_2 (by decide) ?_
  refine lv_istore_n (lv' := [(2, .int 0), (1, .int 0), (0, .ref (ad 111))]) hx hb dX8_filled_3 rfl hl (by decide) rfl (fun ls hl => ?_)
  have loop4 : ∀ (n : Nat) (H : Heap) (locs : List Loc) (ls : Array Slot) (x4_1 : Int32) (x4_2 : Int32), Bd x4_2 (0) (4) → (-1) * x4_2.toInt + 4 < ((n : Nat) : Int) → Hp g ad 122 S (FA ad 122) s.heap H locs → lv_has ls 3 [(2, .int x4_2), (1, .int x4_1), (0, .ref (ad 111))] → W p l e (Rm 1) s m [.ref (ad 111)].toArray below meth c H locs 0 0 (MQ below (va_Qi (fun _ S' => S = S') (QB g ad 122) (FA ad 122)) [.ref (ad 111)].toArray s 0 0 (FA ad 122)) (F0 m 4 ls []) := by
    intro n
    induction n with
    | zero => intro H locs ls x4_1 x4_2 Bx4_2 hn4_ hQ hl; exfalso; have := (Bx4_2).2; omega
    | succ n4_ ih4 =>
      intro H locs ls x4_1 x4_2 Bx4_2 hn4_ hQ hl
      refine lv_iload_n hx hb dX8_filled_4 rfl (lv_at hl 0 rfl) ?_
      refine lv_iconst (v := 4) hx hb dX8_filled_5 (by decide) ?_
      refine lv_icmp_ge (tgt := 26) hx hb dX8_filled_6 (by decide) (fun k1 => ?_) (fun k1 => ?_)
      · have h2 := ib_le k1
        have b3 : Bd x4_2 (4) (4) := ⟨((rf_le (by decide : Bd 4 (4) (4)) Bx4_2 h2).2).1, (Bx4_2).2⟩
        refine lv_iload_n hx hb dX8_filled_26 rfl (lv_at hl 1 rfl) ?_
        exact xri E hr hlk hQ (rfl) dX8_filled_27
      · have h4 := ib_nle k1
        have b5 : Bd x4_2 (0) (3) := ⟨(Bx4_2).1, ((rf_lt Bx4_2 (by decide : Bd 4 (4) (4)) h4).1).2⟩
        refine lv_aload_n hx hb dX8_filled_9 rfl (lv_at hl 2 rfl) ?_
        refine lv_iload_n hx hb dX8_filled_10 rfl (lv_at hl 0 rfl) ?_
        have c7 := invX_111 hI
        have c7 : S 111 = .inr (8, [.ref (ad 112), .ref (ad 117), .ref (ad 118)]) := c7
        refine xcVi E hs hQ hml hl.1 111 (gX8_hasRow_111 l g ad hD S hI x4_2 b5) mX8_hasRow q866 (by decide) c7 rfl rfl ⟨(Nat.le_of_ble_eq_true rfl), (Nat.le_of_ble_eq_true rfl)⟩ ⟨(Nat.le_of_ble_eq_true rfl), (Nat.le_of_ble_eq_true rfl)⟩ (Nat.le_of_ble_eq_true rfl) rfl dX8_filled_11 (fun r6 S6 H locs hp6 hQ _ => ?_)
        obtain ⟨rfl, b6, u6_0⟩ := hp6
        refine lv_if_eq (tgt := 20) hx hb dX8_filled_14 (by decide) (fun k8 => ?_) (fun k8 => ?_)
        · have h9 := ib_eq k8
          have b10 : Bd r6 (0) (0) := ⟨(b6).1, ((rf_eq b6 (by decide : Bd 0 (0) (0)) h9).1).2⟩
          obtain ⟨z11, e12⟩ : ∃ z : Int32, z = x4_2 + 1 := ⟨_, rfl⟩
          have t13 := ib_add e12 b5 (by decide : Bd 1 (1) (1)) (by decide) (by decide)
          have b14 : Bd z11 (1) (4) := ib_addb t13 b5 (by decide : Bd 1 (1) (1))
          have t13 : z11.toInt = x4_2.toInt + 1 := fold_add t13 rfl (by decide)
          refine lv_iinc (v := z11) (lv' := [(2, .int z11), (1, .int x4_1), (0, .ref (ad 111))]) hx hb dX8_filled_20 hl (k := 0) rfl (by rw [e12]; rfl) (by decide) rfl (fun ls hl => ?_)
          refine lv_goto (tgt := 4) hx hb dX8_filled_23 (by decide) ?_
          exact ih4 _ _ _ x4_1 z11 (ib_wk b14 (by decide) (by decide)) (by omega) hQ (lv_sub hl [0, 1, 2] rfl)
        · have h15 := ib_ne k8
          have b16 : Bd r6 (1) (1) := rf_nlo b6 (by decide : Bd 0 (0) (0)) h15
          obtain ⟨z17, e18⟩ : ∃ z : Int32, z = x4_1 + 1 := ⟨_, rfl⟩
          refine lv_iinc (v := z17) (lv' := [(1, .int z17), (2, .int x4_2), (0, .ref (ad 111))]) hx hb dX8_filled_17 hl (k := 1) rfl (by rw [e18]; rfl) (by decide) rfl (fun ls hl => ?_)
          obtain ⟨z19, e20⟩ : ∃ z : Int32, z = x4_2 + 1 := ⟨_, rfl⟩
          have t21 := ib_add e20 b5 (by decide : Bd 1 (1) (1)) (by decide) (by decide)
          have b22 : Bd z19 (1) (4) := ib_addb t21 b5 (by decide : Bd 1 (1) (1))
          have t21 : z19.toInt = x4_2.toInt + 1 := fold_add t21 rfl (by decide)
          refine lv_iinc (v := z19) (lv' := [(2, .int z19), (1, .int z17), (0, .ref (ad 111))]) hx hb dX8_filled_20 hl (k := 1) rfl (by rw [e20]; rfl) (by decide) rfl (fun ls hl => ?_)
          refine lv_goto (tgt := 4) hx hb dX8_filled_23 (by decide) ?_
          exact ih4 _ _ _ z17 z19 (ib_wk b22 (by decide) (by decide)) (by omega) hQ (lv_sub hl [0, 1, 2] rfl)
  obtain ⟨n4, hn4⟩ := fu_n (4)
  exact loop4 n4 _ _ _ 0 0 (ib_wk (by decide : Bd 0 (0) (0)) (by decide) (by decide)) (by have : (0 : Int32).toInt = 0 := (by decide); omega) hQ (lv_sub hl [0, 1, 2] rfl)
set_option maxHeartbeats 4000000 in
set_option maxRecDepth 100000 in
theorem gX8_cut (l : Launch) (g : GG) (ad : Nat → Nat) (hD : Dj ad 122) (S : SS) (hI : InvX g ad S) (wa1 : Int64) (a2 : Int32) : Met l yX8_cut (wG (.code yX8_cut cX8_cut 3 (some .long))) (Rm 0) (XPre g ad 122 S [.long wa1, .int a2]) (va_Ql (fun _ S' => S = S') (QB g ad 122) (FA ad 122)) 0 0 (FA ad 122) := by
  refine xmet cX8_cut "EbbWreck$Slots" (by decide) rfl (Nat.le_of_ble_eq_true rfl) (fun p e s m below meth c E hr hlk hml hQ ls hl => ?_)
  have hx := E.1
  have hb := E.2.1
  have hs : Sp ad 122 (FA ad 122) := Sp.fa hD
  have hl : lv_has ls 3 [(0, .long wa1), (2, .int a2)] := hl
  refine lv_iload_n hx hb dX8_cut_0 rfl (lv_at hl 1 rfl) ?_
  rcases pk_ix a2 (n := 3) (by decide) with h1 | h1 | ⟨jh1, hjh1, h1⟩
  · refine lv_tableOut (tgt := 42) hx hb dX8_cut_1 (Or.inl (by have := tlt0 h1; omega)) (by decide) ?_
    have b2 : Bd a2 (-2147483648) (-1) := ⟨((ib_full a2)).1, by have := tlt0 h1; omega⟩
    refine lv_lload_n hx hb dX8_cut_42 rfl (lv_at hl 0 rfl) ?_
    exact xrl E hr hlk hQ (rfl) dX8_cut_43
  · refine lv_tableOut (tgt := 42) hx hb dX8_cut_1 (Or.inr (by have := tge h1 (by decide); omega)) (by decide) ?_
    have b3 : Bd a2 (3) (2147483647) := ⟨by have := tge h1 (by decide); omega, ((ib_full a2)).2⟩
    refine lv_lload_n hx hb dX8_cut_42 rfl (lv_at hl 0 rfl) ?_
    exact xrl E hr hlk hQ (rfl) dX8_cut_43
  · rcases (show jh1 = 0 ∨ jh1 = 1 ∨ jh1 = 2 by omega) with rfl | rfl | rfl
    · refine lv_tableIn (off := 27) (tgt := 28) hx hb dX8_cut_1 (by rw [h1]; decide) (by rw [h1]; decide) (by rw [h1]; rfl) (by decide) ?_
      have b4 : Bd a2 (0) (0) := (by rw [h1]; decide)
      refine lv_lload_n hx hb dX8_cut_28 rfl (lv_at hl 0 rfl) ?_
      refine lv_l2i hx hb dX8_cut_29 rfl ?_
      refine lv_topi (fun z5 e6 => ?_)
      refine lv_i2b hx hb dX8_cut_30 rfl ?_
      refine lv_topi (fun z7 e8 => ?_)
      have b9 : Bd z7 (-128) (127) := (by rw [e8]; exact ib_byte _)
      refine lv_i2l hx hb dX8_cut_31 rfl ?_
      refine lv_topl (fun w10 e11 => ?_)
      have t12 : w10.toInt = z7.toInt := by rw [e11]; exact w64 _
      have b13 : BdL w10 (-128) (127) := (by have h1 := (b9).1; have h2 := (b9).2; exact ⟨by omega, by omega⟩)
      exact xrl E hr hlk hQ (rfl) dX8_cut_32
    · refine lv_tableIn (off := 32) (tgt := 33) hx hb dX8_cut_1 (by rw [h1]; decide) (by rw [h1]; decide) (by rw [h1]; rfl) (by decide) ?_
      have b14 : Bd a2 (1) (1) := (by rw [h1]; decide)
      refine lv_lload_n hx hb dX8_cut_33 rfl (lv_at hl 0 rfl) ?_
      refine lv_l2i hx hb dX8_cut_34 rfl ?_
      refine lv_topi (fun z15 e16 => ?_)
      refine lv_i2s hx hb dX8_cut_35 rfl ?_
      refine lv_topi (fun z17 e18 => ?_)
      refine lv_i2l hx hb dX8_cut_36 rfl ?_
      refine lv_topl (fun w19 e20 => ?_)
      have t21 : w19.toInt = z17.toInt := by rw [e20]; exact w64 _
      have b22 : BdL w19 (-2147483648) (2147483647) := (by have h1 := ((ib_full z17)).1; have h2 := ((ib_full z17)).2; exact ⟨by omega, by omega⟩)
      exact xrl E hr hlk hQ (rfl) dX8_cut_37
    · refine lv_tableIn (off := 37) (tgt := 38) hx hb dX8_cut_1 (by rw [h1]; decide) (by rw [h1]; decide) (by rw [h1]; rfl) (by decide) ?_
      have b23 : Bd a2 (2) (2) := (by rw [h1]; decide)
      refine lv_lload_n hx hb dX8_cut_38 rfl (lv_at hl 0 rfl) ?_
      refine lv_l2i hx hb dX8_cut_39 rfl ?_
      refine lv_topi (fun z24 e25 => ?_)
      refine lv_i2l hx hb dX8_cut_40 rfl ?_
      refine lv_topl (fun w26 e27 => ?_)
      have t28 : w26.toInt = z24.toInt := by rw [e27]; exact w64 _
      have b29 : BdL w26 (-2147483648) (2147483647) := (by have h1 := ((ib_full z24)).1; have h2 := ((ib_full z24)).2; exact ⟨by omega, by omega⟩)
      exact xrl E hr hlk hQ (rfl) dX8_cut_41
set_option maxHeartbeats 4000000 in
set_option maxRecDepth 100000 in
theorem gX8_lay_111 (l : Launch) (g : GG) (ad : Nat → Nat) (hD : Dj ad 122) (S : SS) (hI : InvX g ad S) (a1 : Int32) (a2 : Int32) (a3 : Int32) (ba1 : Bd a1 (0) (3)) (ba2 : Bd a2 (0) (3)) (ba3 : Bd a3 (0) (60)) : Met l yX8_lay (wG (.code yX8_lay cX8_lay 4 none)) (Rm 1) (XPre g ad 122 S [.ref (ad 111), .int a1, .int a2, .int a3]) (va_Qv (fun S' => InvX g ad S' ∧ (∀ j, j ∉ ([113, 114, 115, 116, 117, 118] : List Nat) → S' j = S j) ∧ (PUp (S' 117) (S 117) a1.toInt a2.toInt 4) ∧ (PUp (S' 118) (S 118) a1.toInt a3.toInt 4)) (QB g ad 122) (FA ad 122)) 0 0 (FA ad 122) := by
  refine xmet cX8_lay "EbbWreck$Slots" (by decide) rfl (Nat.le_of_ble_eq_true rfl) (fun p e s m below meth c E hr hlk hml hQ ls hl => ?_)
  have hx := E.1
  have hb := E.2.1
  have hs : Sp ad 122 (FA ad 122) := Sp.fa hD
  have hl : lv_has ls 4 [(0, .ref (ad 111)), (1, .int a1), (2, .int a2), (3, .int a3)] := hl
  obtain ⟨f1, c2, b3⟩ := invX_117 hI
  obtain ⟨f4, c5, b6⟩ := invX_118 hI
  refine lv_aload_n hx hb dX8_lay_0 rfl (lv_at hl 0 rfl) ?_
  have c7 := invX_111 hI
  have c7 : S 111 = .inr (8, [.ref (ad 112), .ref (ad 117), .ref (ad 118)]) := c7
  refine xget E hQ 111 (by decide) c7 rfl 1 (by decide) q481 rfl dX8_lay_1 ?_
  refine lv_iload_n hx hb dX8_lay_4 rfl (lv_at hl 1 rfl) ?_
  refine lv_iload_n hx hb dX8_lay_5 rfl (lv_at hl 2 rfl) ?_
  refine xiast E hs hQ 117 (by decide) c2 (ib_in ba1 (by decide) (by decide)) dX8_lay_6 (fun H locs S8 eS8 hQ => ?_)
  have hI := invX_up_117 hI eS8 ⟨_, rfl, upd_b b3 ba2⟩
  have b10 : ∀ j, Bd ((upd f1 (a1 : Int32).toNatClampNeg a2) j) (0) (3) := upd_b b3 ba2
  have c9 : S8 117 = .inl (g.2 0, 4, .inl (upd f1 (a1 : Int32).toNatClampNeg a2)) := up_at eS8 rfl
  refine lv_aload_n hx hb dX8_lay_7 rfl (lv_at hl 0 rfl) ?_
  have c11 : S8 111 = .inr (8, [.ref (ad 112), .ref (ad 117), .ref (ad 118)]) := (up_ne eS8 (by decide) c7)
  refine xget E hQ 111 (by decide) c11 rfl 2 (by decide) q483 rfl dX8_lay_8 ?_
  refine lv_iload_n hx hb dX8_lay_11 rfl (lv_at hl 1 rfl) ?_
  refine lv_iload_n hx hb dX8_lay_12 rfl (lv_at hl 3 rfl) ?_
  have c12 : S8 118 = .inl (g.2 0, 4, .inl f4) := (up_ne eS8 (by decide) c5)
  refine xiast E hs hQ 118 (by decide) c12 (ib_in ba1 (by decide) (by decide)) dX8_lay_13 (fun H locs S13 eS13 hQ => ?_)
  have hI := invX_up_118 hI eS13 ⟨_, rfl, upd_b b6 (ib_wk ba3 (by decide) (by decide))⟩
  have b15 : ∀ j, Bd ((upd f4 (a1 : Int32).toNatClampNeg a3) j) (-1) (60) := upd_b b6 (ib_wk ba3 (by decide) (by decide))
  have c14 : S13 118 = .inl (g.2 0, 4, .inl (upd f4 (a1 : Int32).toNatClampNeg a3)) := up_at eS13 rfl
  refine lv_aload_n hx hb dX8_lay_14 rfl (lv_at hl 0 rfl) ?_
  have c16 : S13 111 = .inr (8, [.ref (ad 112), .ref (ad 117), .ref (ad 118)]) := (up_ne eS13 (by decide) c11)
  refine xget E hQ 111 (by decide) c16 rfl 0 (by decide) q478 rfl dX8_lay_15 ?_
  refine lv_iload_n hx hb dX8_lay_18 rfl (lv_at hl 1 rfl) ?_
  have c17 : S13 112 = _ := invX_112 hI
  rcases bd_c4 ba1 with h18 | h18 | h18 | h18
  · refine xaald E hQ 112 (by decide) c17 (by rw [h18]; exact vp_in_lit 0 4 (by decide)) (by rw [h18]; rfl) dX8_lay_19 ?_
    have b19 : Bd a1 (0) (0) := (by rw [h18]; decide)
    refine lv_lconst (v := 0) hx hb dX8_lay_20 (by decide) ?_
    obtain ⟨f20, c21⟩ := invX_113 hI
    refine xcSv E hs hQ hml hl.1 (uFillL l g ad 122 hD S13 113 (by decide) 60 (by decide) f20 0 c21) mJ7_fill_d0a16 q1438 rfl ⟨(Nat.le_of_ble_eq_true rfl), (Nat.le_of_ble_eq_true rfl)⟩ ⟨(Nat.le_of_ble_eq_true rfl), (Nat.le_of_ble_eq_true rfl)⟩ (Nat.le_of_ble_eq_true rfl) rfl dX8_lay_21 (fun S23 H locs eS23 hQ => ?_)
    have hI := invX_up_113 hI eS23 ⟨_, rfl⟩
    have c24 : S23 113 = .inl (g.2 2, 60, .inr (.inl (fillL 0 60 f20))) := up_at eS23 rfl
    exact xrv E hr hlk hQ (⟨hI, (up_o (up_o (up_o o_refl eS8 (by decide)) eS13 (by decide)) eS23 (by decide)), (pu_tr (pu_st c2 c9 (by omega) rfl) ((up_eq (j := 117) eS23 (by decide)).trans (up_eq (j := 117) eS13 (by decide))) rfl), (pu_tr (pu_st c5 c14 (by omega) rfl) (up_eq (j := 118) eS23 (by decide)) rfl)⟩) dX8_lay_24
  · refine xaald E hQ 112 (by decide) c17 (by rw [h18]; exact vp_in_lit 1 4 (by decide)) (by rw [h18]; rfl) dX8_lay_19 ?_
    have b25 : Bd a1 (1) (1) := (by rw [h18]; decide)
    refine lv_lconst (v := 0) hx hb dX8_lay_20 (by decide) ?_
    obtain ⟨f26, c27⟩ := invX_114 hI
    refine xcSv E hs hQ hml hl.1 (uFillL l g ad 122 hD S13 114 (by decide) 60 (by decide) f26 0 c27) mJ7_fill_d0a16 q1438 rfl ⟨(Nat.le_of_ble_eq_true rfl), (Nat.le_of_ble_eq_true rfl)⟩ ⟨(Nat.le_of_ble_eq_true rfl), (Nat.le_of_ble_eq_true rfl)⟩ (Nat.le_of_ble_eq_true rfl) rfl dX8_lay_21 (fun S29 H locs eS29 hQ => ?_)
    have hI := invX_up_114 hI eS29 ⟨_, rfl⟩
    have c30 : S29 114 = .inl (g.2 2, 60, .inr (.inl (fillL 0 60 f26))) := up_at eS29 rfl
    exact xrv E hr hlk hQ (⟨hI, (up_o (up_o (up_o o_refl eS8 (by decide)) eS13 (by decide)) eS29 (by decide)), (pu_tr (pu_st c2 c9 (by omega) rfl) ((up_eq (j := 117) eS29 (by decide)).trans (up_eq (j := 117) eS13 (by decide))) rfl), (pu_tr (pu_st c5 c14 (by omega) rfl) (up_eq (j := 118) eS29 (by decide)) rfl)⟩) dX8_lay_24
  · refine xaald E hQ 112 (by decide) c17 (by rw [h18]; exact vp_in_lit 2 4 (by decide)) (by rw [h18]; rfl) dX8_lay_19 ?_
    have b31 : Bd a1 (2) (2) := (by rw [h18]; decide)
    refine lv_lconst (v := 0) hx hb dX8_lay_20 (by decide) ?_
    obtain ⟨f32, c33⟩ := invX_115 hI
    refine xcSv E hs hQ hml hl.1 (uFillL l g ad 122 hD S13 115 (by decide) 60 (by decide) f32 0 c33) mJ7_fill_d0a16 q1438 rfl ⟨(Nat.le_of_ble_eq_true rfl), (Nat.le_of_ble_eq_true rfl)⟩ ⟨(Nat.le_of_ble_eq_true rfl), (Nat.le_of_ble_eq_true rfl)⟩ (Nat.le_of_ble_eq_true rfl) rfl dX8_lay_21 (fun S35 H locs eS35 hQ => ?_)
    have hI := invX_up_115 hI eS35 ⟨_, rfl⟩
    have c36 : S35 115 = .inl (g.2 2, 60, .inr (.inl (fillL 0 60 f32))) := up_at eS35 rfl
    exact xrv E hr hlk hQ (⟨hI, (up_o (up_o (up_o o_refl eS8 (by decide)) eS13 (by decide)) eS35 (by decide)), (pu_tr (pu_st c2 c9 (by omega) rfl) ((up_eq (j := 117) eS35 (by decide)).trans (up_eq (j := 117) eS13 (by decide))) rfl), (pu_tr (pu_st c5 c14 (by omega) rfl) (up_eq (j := 118) eS35 (by decide)) rfl)⟩) dX8_lay_24
  · refine xaald E hQ 112 (by decide) c17 (by rw [h18]; exact vp_in_lit 3 4 (by decide)) (by rw [h18]; rfl) dX8_lay_19 ?_
    have b37 : Bd a1 (3) (3) := (by rw [h18]; decide)
    refine lv_lconst (v := 0) hx hb dX8_lay_20 (by decide) ?_
    obtain ⟨f38, c39⟩ := invX_116 hI
    refine xcSv E hs hQ hml hl.1 (uFillL l g ad 122 hD S13 116 (by decide) 60 (by decide) f38 0 c39) mJ7_fill_d0a16 q1438 rfl ⟨(Nat.le_of_ble_eq_true rfl), (Nat.le_of_ble_eq_true rfl)⟩ ⟨(Nat.le_of_ble_eq_true rfl), (Nat.le_of_ble_eq_true rfl)⟩ (Nat.le_of_ble_eq_true rfl) rfl dX8_lay_21 (fun S41 H locs eS41 hQ => ?_)
    have hI := invX_up_116 hI eS41 ⟨_, rfl⟩
    have c42 : S41 116 = .inl (g.2 2, 60, .inr (.inl (fillL 0 60 f38))) := up_at eS41 rfl
    exact xrv E hr hlk hQ (⟨hI, (up_o (up_o (up_o o_refl eS8 (by decide)) eS13 (by decide)) eS41 (by decide)), (pu_tr (pu_st c2 c9 (by omega) rfl) ((up_eq (j := 117) eS41 (by decide)).trans (up_eq (j := 117) eS13 (by decide))) rfl), (pu_tr (pu_st c5 c14 (by omega) rfl) (up_eq (j := 118) eS41 (by decide)) rfl)⟩) dX8_lay_24
set_option maxHeartbeats 4000000 in
set_option maxRecDepth 100000 in
theorem gX8_put_111 (l : Launch) (g : GG) (ad : Nat → Nat) (hD : Dj ad 122) (S : SS) (hI : InvX g ad S) (a1 : Int32) (a2 : Int32) (wa3 : Int64) (ba1 : Bd a1 (0) (3)) (ba2 : Bd a2 (0) (59)) : Met l yX8_put (wG (.code yX8_put cX8_put 5 none)) (Rm 1) (XPre g ad 122 S [.ref (ad 111), .int a1, .int a2, .long wa3]) (va_Qv (fun S' => InvX g ad S' ∧ (∀ j, j ∉ ([113, 114, 115, 116] : List Nat) → S' j = S j)) (QB g ad 122) (FA ad 122)) 0 0 (FA ad 122) := by
  refine xmet cX8_put "EbbWreck$Slots" (by decide) rfl (Nat.le_of_ble_eq_true rfl) (fun p e s m below meth c E hr hlk hml hQ ls hl => ?_)
  have hx := E.1
  have hb := E.2.1
  have hs : Sp ad 122 (FA ad 122) := Sp.fa hD
  have hl : lv_has ls 5 [(0, .ref (ad 111)), (1, .int a1), (2, .int a2), (3, .long wa3)] := hl
  refine lv_aload_n hx hb dX8_put_0 rfl (lv_at hl 0 rfl) ?_
  have c1 := invX_111 hI
  have c1 : S 111 = .inr (8, [.ref (ad 112), .ref (ad 117), .ref (ad 118)]) := c1
  refine xget E hQ 111 (by decide) c1 rfl 0 (by decide) q478 rfl dX8_put_1 ?_
  refine lv_iload_n hx hb dX8_put_4 rfl (lv_at hl 1 rfl) ?_
  have c2 : S 112 = _ := invX_112 hI
  rcases bd_c4 ba1 with h3 | h3 | h3 | h3
  · refine xaald E hQ 112 (by decide) c2 (by rw [h3]; exact vp_in_lit 0 4 (by decide)) (by rw [h3]; rfl) dX8_put_5 ?_
    have b4 : Bd a1 (0) (0) := (by rw [h3]; decide)
    refine lv_iload_n hx hb dX8_put_6 rfl (lv_at hl 2 rfl) ?_
    refine lv_lload_n hx hb dX8_put_7 rfl (lv_at hl 3 rfl) ?_
    refine lv_aload_n hx hb dX8_put_8 rfl (lv_at hl 0 rfl) ?_
    refine xget E hQ 111 (by decide) c1 rfl 1 (by decide) q481 rfl dX8_put_9 ?_
    refine lv_iload_n hx hb dX8_put_12 rfl (lv_at hl 1 rfl) ?_
    obtain ⟨f5, c6, b7⟩ := invX_117 hI
    refine xiald E hQ 117 (by decide) c6 (ib_in b4 (by decide) (by decide)) dX8_put_13 ?_
    refine lv_topi (fun z8 e9 => ?_)
    have b10 : Bd z8 (0) (3) := (by rw [e9]; exact b7 _)
    refine xcSl E hs hQ hml hl.1 (gX8_cut l g ad hD S hI wa3 z8) mX8_cut q1450 rfl ⟨(Nat.le_of_ble_eq_true rfl), (Nat.le_of_ble_eq_true rfl)⟩ ⟨(Nat.le_of_ble_eq_true rfl), (Nat.le_of_ble_eq_true rfl)⟩ (Nat.le_of_ble_eq_true rfl) rfl dX8_put_14 (fun r11 S11 H locs hp11 hQ => ?_)
    subst hp11
    obtain ⟨w11, ew11⟩ : ∃ z : Int64, z = r11 := ⟨_, rfl⟩
    rw [← ew11]
    obtain ⟨f12, c13⟩ := invX_113 hI
    refine xlast E hs hQ 113 (by decide) c13 (ib_in ba2 (by decide) (by decide)) dX8_put_17 (fun H locs S15 eS15 hQ => ?_)
    have hI := invX_up_113 hI eS15 ⟨_, rfl⟩
    have c16 : S15 113 = .inl (g.2 2, 60, .inr (.inl (vp_updL f12 (a2 : Int32).toNatClampNeg w11))) := up_at eS15 rfl
    exact xrv E hr hlk hQ (⟨hI, (up_o o_refl eS15 (by decide))⟩) dX8_put_18
  · refine xaald E hQ 112 (by decide) c2 (by rw [h3]; exact vp_in_lit 1 4 (by decide)) (by rw [h3]; rfl) dX8_put_5 ?_
    have b17 : Bd a1 (1) (1) := (by rw [h3]; decide)
    refine lv_iload_n hx hb dX8_put_6 rfl (lv_at hl 2 rfl) ?_
    refine lv_lload_n hx hb dX8_put_7 rfl (lv_at hl 3 rfl) ?_
    refine lv_aload_n hx hb dX8_put_8 rfl (lv_at hl 0 rfl) ?_
    refine xget E hQ 111 (by decide) c1 rfl 1 (by decide) q481 rfl dX8_put_9 ?_
    refine lv_iload_n hx hb dX8_put_12 rfl (lv_at hl 1 rfl) ?_
    obtain ⟨f18, c19, b20⟩ := invX_117 hI
    refine xiald E hQ 117 (by decide) c19 (ib_in b17 (by decide) (by decide)) dX8_put_13 ?_
    refine lv_topi (fun z21 e22 => ?_)
    have b23 : Bd z21 (0) (3) := (by rw [e22]; exact b20 _)
    refine xcSl E hs hQ hml hl.1 (gX8_cut l g ad hD S hI wa3 z21) mX8_cut q1450 rfl ⟨(Nat.le_of_ble_eq_true rfl), (Nat.le_of_ble_eq_true rfl)⟩ ⟨(Nat.le_of_ble_eq_true rfl), (Nat.le_of_ble_eq_true rfl)⟩ (Nat.le_of_ble_eq_true rfl) rfl dX8_put_14 (fun r24 S24 H locs hp24 hQ => ?_)
    subst hp24
    obtain ⟨w24, ew24⟩ : ∃ z : Int64, z = r24 := ⟨_, rfl⟩
    rw [← ew24]
    obtain ⟨f25, c26⟩ := invX_114 hI
    refine xlast E hs hQ 114 (by decide) c26 (ib_in ba2 (by decide) (by decide)) dX8_put_17 (fun H locs S28 eS28 hQ => ?_)
    have hI := invX_up_114 hI eS28 ⟨_, rfl⟩
    have c29 : S28 114 = .inl (g.2 2, 60, .inr (.inl (vp_updL f25 (a2 : Int32).toNatClampNeg w24))) := up_at eS28 rfl
    exact xrv E hr hlk hQ (⟨hI, (up_o o_refl eS28 (by decide))⟩) dX8_put_18
  · refine xaald E hQ 112 (by decide) c2 (by rw [h3]; exact vp_in_lit 2 4 (by decide)) (by rw [h3]; rfl) dX8_put_5 ?_
    have b30 : Bd a1 (2) (2) := (by rw [h3]; decide)
    refine lv_iload_n hx hb dX8_put_6 rfl (lv_at hl 2 rfl) ?_
    refine lv_lload_n hx hb dX8_put_7 rfl (lv_at hl 3 rfl) ?_
    refine lv_aload_n hx hb dX8_put_8 rfl (lv_at hl 0 rfl) ?_
    refine xget E hQ 111 (by decide) c1 rfl 1 (by decide) q481 rfl dX8_put_9 ?_
    refine lv_iload_n hx hb dX8_put_12 rfl (lv_at hl 1 rfl) ?_
    obtain ⟨f31, c32, b33⟩ := invX_117 hI
    refine xiald E hQ 117 (by decide) c32 (ib_in b30 (by decide) (by decide)) dX8_put_13 ?_
    refine lv_topi (fun z34 e35 => ?_)
    have b36 : Bd z34 (0) (3) := (by rw [e35]; exact b33 _)
    refine xcSl E hs hQ hml hl.1 (gX8_cut l g ad hD S hI wa3 z34) mX8_cut q1450 rfl ⟨(Nat.le_of_ble_eq_true rfl), (Nat.le_of_ble_eq_true rfl)⟩ ⟨(Nat.le_of_ble_eq_true rfl), (Nat.le_of_ble_eq_true rfl)⟩ (Nat.le_of_ble_eq_true rfl) rfl dX8_put_14 (fun r37 S37 H locs hp37 hQ => ?_)
    subst hp37
    obtain ⟨w37, ew37⟩ : ∃ z : Int64, z = r37 := ⟨_, rfl⟩
    rw [← ew37]
    obtain ⟨f38, c39⟩ := invX_115 hI
    refine xlast E hs hQ 115 (by decide) c39 (ib_in ba2 (by decide) (by decide)) dX8_put_17 (fun H locs S41 eS41 hQ => ?_)
    have hI := invX_up_115 hI eS41 ⟨_, rfl⟩
    have c42 : S41 115 = .inl (g.2 2, 60, .inr (.inl (vp_updL f38 (a2 : Int32).toNatClampNeg w37))) := up_at eS41 rfl
    exact xrv E hr hlk hQ (⟨hI, (up_o o_refl eS41 (by decide))⟩) dX8_put_18
  · refine xaald E hQ 112 (by decide) c2 (by rw [h3]; exact vp_in_lit 3 4 (by decide)) (by rw [h3]; rfl) dX8_put_5 ?_
    have b43 : Bd a1 (3) (3) := (by rw [h3]; decide)
    refine lv_iload_n hx hb dX8_put_6 rfl (lv_at hl 2 rfl) ?_
    refine lv_lload_n hx hb dX8_put_7 rfl (lv_at hl 3 rfl) ?_
    refine lv_aload_n hx hb dX8_put_8 rfl (lv_at hl 0 rfl) ?_
    refine xget E hQ 111 (by decide) c1 rfl 1 (by decide) q481 rfl dX8_put_9 ?_
    refine lv_iload_n hx hb dX8_put_12 rfl (lv_at hl 1 rfl) ?_
    obtain ⟨f44, c45, b46⟩ := invX_117 hI
    refine xiald E hQ 117 (by decide) c45 (ib_in b43 (by decide) (by decide)) dX8_put_13 ?_
    refine lv_topi (fun z47 e48 => ?_)
    have b49 : Bd z47 (0) (3) := (by rw [e48]; exact b46 _)
    refine xcSl E hs hQ hml hl.1 (gX8_cut l g ad hD S hI wa3 z47) mX8_cut q1450 rfl ⟨(Nat.le_of_ble_eq_true rfl), (Nat.le_of_ble_eq_true rfl)⟩ ⟨(Nat.le_of_ble_eq_true rfl), (Nat.le_of_ble_eq_true rfl)⟩ (Nat.le_of_ble_eq_true rfl) rfl dX8_put_14 (fun r50 S50 H locs hp50 hQ => ?_)
    subst hp50
    obtain ⟨w50, ew50⟩ : ∃ z : Int64, z = r50 := ⟨_, rfl⟩
    rw [← ew50]
    obtain ⟨f51, c52⟩ := invX_116 hI
    refine xlast E hs hQ 116 (by decide) c52 (ib_in ba2 (by decide) (by decide)) dX8_put_17 (fun H locs S54 eS54 hQ => ?_)
    have hI := invX_up_116 hI eS54 ⟨_, rfl⟩
    have c55 : S54 116 = .inl (g.2 2, 60, .inr (.inl (vp_updL f51 (a2 : Int32).toNatClampNeg w50))) := up_at eS54 rfl
    exact xrv E hr hlk hQ (⟨hI, (up_o o_refl eS54 (by decide))⟩) dX8_put_18
set_option maxHeartbeats 4000000 in
set_option maxRecDepth 100000 in
theorem gX8_holds_111 (l : Launch) (g : GG) (ad : Nat → Nat) (hD : Dj ad 122) (S : SS) (hI : InvX g ad S) (a1 : Int32) (a2 : Int32) (a3 : Int32) (ba1 : Bd a1 (0) (3)) : Met l yX8_holds (wG (.code yX8_holds cX8_holds 4 (some .boolean))) (Rm 0) (XPre g ad 122 S [.ref (ad 111), .int a1, .int a2, .int a3]) (va_Qi (fun r S' => S = S' ∧ Bd r (0) (1) ∧ ((r.toInt + (-1) < 0 ∨ (0 ≤ a2.toInt ∧ 0 ≤ a3.toInt ∧ 0 ≤ (-1) * a2.toInt + (-1) * a3.toInt + 60))) ∧ (HoP r.toInt a2.toInt a3.toInt (elm (S 118) a1.toInt.toNat))) (QB g ad 122) (FA ad 122)) 0 0 (FA ad 122) := by
  refine xmet cX8_holds "EbbWreck$Slots" (by decide) rfl (Nat.le_of_ble_eq_true rfl) (fun p e s m below meth c E hr hlk hml hQ ls hl => ?_)
  have hx := E.1
  have hb := E.2.1
  have hs : Sp ad 122 (FA ad 122) := Sp.fa hD
  have hl : lv_has ls 4 [(0, .ref (ad 111)), (1, .int a1), (2, .int a2), (3, .int a3)] := hl
  refine lv_iload_n hx hb dX8_holds_0 rfl (lv_at hl 2 rfl) ?_
  refine lv_if_lt (tgt := 24) hx hb dX8_holds_1 (by decide) (fun k1 => ?_) (fun k1 => ?_)
  · have h2 := ib_lt k1
    have b3 : Bd a2 (-2147483648) (-1) := ⟨((ib_full a2)).1, ((rf_lt (ib_full a2) (by decide : Bd 0 (0) (0)) h2).1).2⟩
    refine lv_iconst (v := 0) hx hb dX8_holds_24 (by decide) ?_
    have q4 : (0 : Int32).toInt = 0 := by decide
    exact xrz E hr hlk hQ rfl (⟨rfl, (ib_wk (by decide : Bd 0 (0) (0)) (by decide) (by decide)), Or.inl (by omega), (by have h1 : (0 : Int32).toInt = 0 := (by decide); unfold HoP; omega)⟩) dX8_holds_25
  · have h5 := ib_nlt k1
    have b6 : Bd a2 (0) (2147483647) := ⟨((rf_le (by decide : Bd 0 (0) (0)) (ib_full a2) h5).2).1, ((ib_full a2)).2⟩
    refine lv_iload_n hx hb dX8_holds_4 rfl (lv_at hl 3 rfl) ?_
    refine lv_if_lt (tgt := 24) hx hb dX8_holds_5 (by decide) (fun k7 => ?_) (fun k7 => ?_)
    · have h8 := ib_lt k7
      have b9 : Bd a3 (-2147483648) (-1) := ⟨((ib_full a3)).1, ((rf_lt (ib_full a3) (by decide : Bd 0 (0) (0)) h8).1).2⟩
      refine lv_iconst (v := 0) hx hb dX8_holds_24 (by decide) ?_
      have q10 : (0 : Int32).toInt = 0 := by decide
      exact xrz E hr hlk hQ rfl (⟨rfl, (ib_wk (by decide : Bd 0 (0) (0)) (by decide) (by decide)), Or.inl (by omega), (by have h1 : (0 : Int32).toInt = 0 := (by decide); unfold HoP; omega)⟩) dX8_holds_25
    · have h11 := ib_nlt k7
      have b12 : Bd a3 (0) (2147483647) := ⟨((rf_le (by decide : Bd 0 (0) (0)) (ib_full a3) h11).2).1, ((ib_full a3)).2⟩
      refine lv_iload_n hx hb dX8_holds_8 rfl (lv_at hl 2 rfl) ?_
      refine lv_aload_n hx hb dX8_holds_9 rfl (lv_at hl 0 rfl) ?_
      have c13 := invX_111 hI
      have c13 : S 111 = .inr (8, [.ref (ad 112), .ref (ad 117), .ref (ad 118)]) := c13
      refine xget E hQ 111 (by decide) c13 rfl 2 (by decide) q483 rfl dX8_holds_10 ?_
      refine lv_iload_n hx hb dX8_holds_13 rfl (lv_at hl 1 rfl) ?_
      obtain ⟨f14, c15, b16⟩ := invX_118 hI
      refine xiald E hQ 118 (by decide) c15 (ib_in ba1 (by decide) (by decide)) dX8_holds_14 ?_
      refine lv_topi (fun z17 e18 => ?_)
      have b19 : Bd z17 (-1) (60) := (by rw [e18]; exact b16 _)
      have el20 : elm (S 118) a1.toInt.toNat = z17.toInt := elm_ld c15 e18
      refine lv_iload_n hx hb dX8_holds_15 rfl (lv_at hl 3 rfl) ?_
      refine lv_isub hx hb dX8_holds_16 ?_
      refine lv_topi (fun z21 e22 => ?_)
      have t23 := ib_sub e22 b19 b12 (by decide) (by decide)
      have b24 : Bd z21 (-2147483648) (60) := ib_subb t23 b19 b12
      refine lv_icmp_gt (tgt := 24) hx hb dX8_holds_17 (by decide) (fun k25 => ?_) (fun k25 => ?_)
      · have h26 := ib_lt k25
        refine lv_iconst (v := 0) hx hb dX8_holds_24 (by decide) ?_
        have q27 : (0 : Int32).toInt = 0 := by decide
        exact xrz E hr hlk hQ rfl (⟨rfl, (ib_wk (by decide : Bd 0 (0) (0)) (by decide) (by decide)), Or.inl (by omega), (by have h1 : (0 : Int32).toInt = 0 := (by decide); unfold HoP; rw [el20]; omega)⟩) dX8_holds_25
      · have h28 := ib_nlt k25
        have b29 : Bd a2 (0) (60) := ⟨(b6).1, ((rf_le b6 b24 h28).1).2⟩
        have b30 : Bd z21 (0) (60) := ⟨((rf_le b6 b24 h28).2).1, (b24).2⟩
        refine lv_iconst (v := 1) hx hb dX8_holds_20 (by decide) ?_
        refine lv_goto (tgt := 25) hx hb dX8_holds_21 (by decide) ?_
        have q31 : (1 : Int32).toInt = 1 := by decide
        exact xrz E hr hlk hQ rfl (⟨rfl, (ib_wk (by decide : Bd 1 (1) (1)) (by decide) (by decide)), Or.inr ⟨by omega, by omega, by omega⟩, (by have h1 : (1 : Int32).toInt = 1 := (by decide); unfold HoP; rw [el20]; omega)⟩) dX8_holds_25
set_option maxHeartbeats 4000000 in
set_option maxRecDepth 100000 in
theorem gX11_row_0 (l : Launch) (g : GG) (ad : Nat → Nat) (hD : Dj ad 122) (S : SS) (hI : InvX g ad S) (a1 : Int32) (a2 : Int32) (a3 : Int32) (hq1 : 0 ≤ 1201 * fld (S 2) 1 + (-1) * fld (S 2) 0) (hq2 : 0 ≤ 8 * fld (S 2) 1 + (-1) * fld (S 2) 7) (hq3 : 0 ≤ 3 * fld (S 2) 1 + (-1) * fld (S 2) 12) : Met l yX11_row (wG (.code yX11_row cX11_row 4 (some .int))) (Rm 2) (XPre g ad 122 S [.ref (ad 0), .int a1, .int a2, .int a3]) (va_Qi (fun r S' => InvX g ad S' ∧ (∀ j, j ∉ ([113, 114, 115, 116, 117, 118] : List Nat) → S' j = S j) ∧ Bd r (-3) (0) ∧ (r = ansRow a1 a2 a3) ∧ (PUp (S' 117) (S 117) (if r.toInt = 0 then a1.toInt else -1) a2.toInt 4) ∧ (PUp (S' 118) (S 118) (if r.toInt = 0 then a1.toInt else -1) a3.toInt 4)) (QB g ad 122) (FA ad 122)) 0 0 (FA ad 122) := by
  refine xmet cX11_row "EbbWreck" (by decide) rfl (Nat.le_of_ble_eq_true rfl) (fun p e s m below meth c E hr hlk hml hQ ls hl => ?_)
  have hx := E.1
  have hb := E.2.1
  have hs : Sp ad 122 (FA ad 122) := Sp.fa hD
  have hl : lv_has ls 4 [(0, .ref (ad 0)), (1, .int a1), (2, .int a2), (3, .int a3)] := hl
  obtain ⟨v1, v3, v5, v6, v7, v9, c11, b2, b4, b8, b10⟩ := invX_2 hI
  have c11 : S 2 = .inr (1, [.int v1, .int v3, .int v5, .ref (ad 3), .ref (ad 5), .ref (ad 6), .int v6, .int v7, .ref (ad 7), .ref (ad 8), .ref (ad 9), .ref (ad 10), .int v9, .ref (ad 15), .ref (ad 16)]) := c11
  have q12 : fld (S 2) 1 = v3.toInt := fld_of c11 rfl
  have q13 : fld (S 2) 0 = v1.toInt := fld_of c11 rfl
  have q14 : fld (S 2) 7 = v7.toInt := fld_of c11 rfl
  have q15 : fld (S 2) 12 = v9.toInt := fld_of c11 rfl
  refine lv_iload_n hx hb dX11_row_0 rfl (lv_at hl 1 rfl) ?_
  refine xcSi E hs hQ hml hl.1 (gX8_isSlot l g ad hD S hI a1) mX8_isSlot q1433 rfl ⟨(Nat.le_of_ble_eq_true rfl), (Nat.le_of_ble_eq_true rfl)⟩ ⟨(Nat.le_of_ble_eq_true rfl), (Nat.le_of_ble_eq_true rfl)⟩ (Nat.le_of_ble_eq_true rfl) rfl dX11_row_1 (fun r16 S16 H locs hp16 hQ => ?_)
  obtain ⟨rfl, b16, g16_0, u16_0⟩ := hp16
  refine lv_if_eq (tgt := 22) hx hb dX11_row_4 (by decide) (fun k17 => ?_) (fun k17 => ?_)
  · have h18 := ib_eq k17
    have b19 : Bd r16 (0) (0) := ⟨(b16).1, ((rf_eq b16 (by decide : Bd 0 (0) (0)) h18).1).2⟩
    clear g16_0
    refine lv_bipush (v := (-2)) hx hb dX11_row_22 (by decide) ?_
    exact xri E hr hlk hQ (⟨hI, o_refl, (ib_wk (by decide : Bd (-2) (-2) (-2)) (by decide) (by decide)), (by have h1 := u16_0; unfold InP at h1; unfold ansRow; rw [if_pos (by omega)]), (by rw [if_neg (by decide)]; exact pu_no rfl (by decide)), (by rw [if_neg (by decide)]; exact pu_no rfl (by decide))⟩) dX11_row_24
  · have h20 := ib_ne k17
    have b21 : Bd r16 (1) (1) := rf_nlo b16 (by decide : Bd 0 (0) (0)) h20
    have g22 := g16_0.resolve_left (by omega)
    clear g16_0
    have b23 : Bd a1 (0) (3) := ⟨by omega, by omega⟩
    refine lv_iload_n hx hb dX11_row_7 rfl (lv_at hl 2 rfl) ?_
    refine lv_if_lt (tgt := 22) hx hb dX11_row_8 (by decide) (fun k24 => ?_) (fun k24 => ?_)
    · have h25 := ib_lt k24
      have b26 : Bd a2 (-2147483648) (-1) := ⟨((ib_full a2)).1, ((rf_lt (ib_full a2) (by decide : Bd 0 (0) (0)) h25).1).2⟩
      refine lv_bipush (v := (-2)) hx hb dX11_row_22 (by decide) ?_
      exact xri E hr hlk hQ (⟨hI, o_refl, (ib_wk (by decide : Bd (-2) (-2) (-2)) (by decide) (by decide)), (by have h1 := u16_0; unfold InP at h1; unfold ansRow; rw [if_pos (by omega)]), (by rw [if_neg (by decide)]; exact pu_no rfl (by decide)), (by rw [if_neg (by decide)]; exact pu_no rfl (by decide))⟩) dX11_row_24
    · have h27 := ib_nlt k24
      have b28 : Bd a2 (0) (2147483647) := ⟨((rf_le (by decide : Bd 0 (0) (0)) (ib_full a2) h27).2).1, ((ib_full a2)).2⟩
      refine lv_iload_n hx hb dX11_row_11 rfl (lv_at hl 2 rfl) ?_
      refine lv_iconst (v := 4) hx hb dX11_row_12 (by decide) ?_
      refine lv_icmp_ge (tgt := 22) hx hb dX11_row_13 (by decide) (fun k29 => ?_) (fun k29 => ?_)
      · have h30 := ib_le k29
        have b31 : Bd a2 (4) (2147483647) := ⟨((rf_le (by decide : Bd 4 (4) (4)) b28 h30).2).1, (b28).2⟩
        refine lv_bipush (v := (-2)) hx hb dX11_row_22 (by decide) ?_
        exact xri E hr hlk hQ (⟨hI, o_refl, (ib_wk (by decide : Bd (-2) (-2) (-2)) (by decide) (by decide)), (by have h1 := u16_0; unfold InP at h1; unfold ansRow; rw [if_pos (by omega)]), (by rw [if_neg (by decide)]; exact pu_no rfl (by decide)), (by rw [if_neg (by decide)]; exact pu_no rfl (by decide))⟩) dX11_row_24
      · have h32 := ib_nle k29
        have b33 : Bd a2 (0) (3) := ⟨(b28).1, ((rf_lt b28 (by decide : Bd 4 (4) (4)) h32).1).2⟩
        refine lv_iload_n hx hb dX11_row_16 rfl (lv_at hl 3 rfl) ?_
        refine lv_bipush (v := 60) hx hb dX11_row_17 (by decide) ?_
        refine lv_icmp_le (tgt := 25) hx hb dX11_row_19 (by decide) (fun k34 => ?_) (fun k34 => ?_)
        · have h35 := ib_le k34
          have b36 : Bd a3 (-2147483648) (60) := ⟨((ib_full a3)).1, ((rf_le (ib_full a3) (by decide : Bd 60 (60) (60)) h35).1).2⟩
          refine lv_iload_n hx hb dX11_row_25 rfl (lv_at hl 3 rfl) ?_
          refine lv_if_ge (tgt := 32) hx hb dX11_row_26 (by decide) (fun k37 => ?_) (fun k37 => ?_)
          · have h38 := ib_le k37
            have b39 : Bd a3 (0) (60) := ⟨((rf_le (by decide : Bd 0 (0) (0)) b36 h38).2).1, (b36).2⟩
            refine lv_aload_n hx hb dX11_row_32 rfl (lv_at hl 0 rfl) ?_
            obtain ⟨v40, v42, v43, c44, b41⟩ := invX_0 hI
            have c44 : S 0 = .inr (11, [.ref (ad 1), .int v40, .int v42, .int v43, .ref (ad 2), .ref (ad 20), .ref (ad 38), .ref (ad 93), .ref (ad 94), .ref (ad 95), .ref (ad 102), .ref (ad 104), .ref (ad 107), .ref (ad 111), .ref (ad 119)]) := c44
            refine xget E hQ 0 (by decide) c44 rfl 13 (by decide) q529 rfl dX11_row_33 ?_
            refine lv_iload_n hx hb dX11_row_36 rfl (lv_at hl 1 rfl) ?_
            refine lv_iload_n hx hb dX11_row_37 rfl (lv_at hl 2 rfl) ?_
            refine lv_iload_n hx hb dX11_row_38 rfl (lv_at hl 3 rfl) ?_
            have c46 := invX_111 hI
            have c46 : S 111 = .inr (8, [.ref (ad 112), .ref (ad 117), .ref (ad 118)]) := c46
            refine xcVv E hs hQ hml hl.1 111 (gX8_lay_111 l g ad hD S hI a1 a2 a3 b23 b33 b39) mX8_lay q1434 (by decide) c46 rfl rfl ⟨(Nat.le_of_ble_eq_true rfl), (Nat.le_of_ble_eq_true rfl)⟩ ⟨(Nat.le_of_ble_eq_true rfl), (Nat.le_of_ble_eq_true rfl)⟩ (Nat.le_of_ble_eq_true rfl) rfl dX11_row_39 (fun S45 H locs hp45 hQ _ => ?_)
            obtain ⟨hI, o45, u45_0, u45_1⟩ := hp45
            refine lv_iconst (v := 0) hx hb dX11_row_42 (by decide) ?_
            exact xri E hr hlk hQ (⟨hI, (o_trans o_refl o45 (by decide)), (ib_wk (by decide : Bd 0 (0) (0)) (by decide) (by decide)), (by have h1 := u16_0; unfold InP at h1; unfold ansRow; rw [if_neg (by omega), if_neg (by omega)]), (by rw [if_pos (by decide)]; exact u45_0), (by rw [if_pos (by decide)]; exact u45_1)⟩) dX11_row_43
          · have h47 := ib_nle k37
            have b48 : Bd a3 (-2147483648) (-1) := ⟨(b36).1, ((rf_lt b36 (by decide : Bd 0 (0) (0)) h47).1).2⟩
            refine lv_bipush (v := (-3)) hx hb dX11_row_29 (by decide) ?_
            exact xri E hr hlk hQ (⟨hI, o_refl, (ib_wk (by decide : Bd (-3) (-3) (-3)) (by decide) (by decide)), (by have h1 := u16_0; unfold InP at h1; unfold ansRow; rw [if_neg (by omega), if_pos (by omega)]), (by rw [if_neg (by decide)]; exact pu_no rfl (by decide)), (by rw [if_neg (by decide)]; exact pu_no rfl (by decide))⟩) dX11_row_31
        · have h49 := ib_nle k34
          have b50 : Bd a3 (61) (2147483647) := ⟨((rf_lt (by decide : Bd 60 (60) (60)) (ib_full a3) h49).2).1, ((ib_full a3)).2⟩
          refine lv_bipush (v := (-2)) hx hb dX11_row_22 (by decide) ?_
          exact xri E hr hlk hQ (⟨hI, o_refl, (ib_wk (by decide : Bd (-2) (-2) (-2)) (by decide) (by decide)), (by have h1 := u16_0; unfold InP at h1; unfold ansRow; rw [if_pos (by omega)]), (by rw [if_neg (by decide)]; exact pu_no rfl (by decide)), (by rw [if_neg (by decide)]; exact pu_no rfl (by decide))⟩) dX11_row_24
set_option maxHeartbeats 4000000 in
set_option maxRecDepth 100000 in
theorem gX11_write_0 (l : Launch) (g : GG) (ad : Nat → Nat) (hD : Dj ad 122) (S : SS) (hI : InvX g ad S) (a1 : Int32) (a2 : Int32) (wa3 : Int64) (hq1 : 0 ≤ 1201 * fld (S 2) 1 + (-1) * fld (S 2) 0) (hq2 : 0 ≤ 8 * fld (S 2) 1 + (-1) * fld (S 2) 7) (hq3 : 0 ≤ 3 * fld (S 2) 1 + (-1) * fld (S 2) 12) : Met l yX11_write (wG (.code yX11_write cX11_write 5 (some .int))) (Rm 2) (XPre g ad 122 S [.ref (ad 0), .int a1, .int a2, .long wa3]) (va_Qi (fun r S' => InvX g ad S' ∧ (∀ j, j ∉ ([113, 114, 115, 116] : List Nat) → S' j = S j) ∧ Bd r (-7) (0) ∧ (r = ansWr a1 a2 (elm (S 118) a1.toInt.toNat))) (QB g ad 122) (FA ad 122)) 0 0 (FA ad 122) := by
  refine xmet cX11_write "EbbWreck" (by decide) rfl (Nat.le_of_ble_eq_true rfl) (fun p e s m below meth c E hr hlk hml hQ ls hl => ?_)
  have hx := E.1
  have hb := E.2.1
  have hs : Sp ad 122 (FA ad 122) := Sp.fa hD
  have hl : lv_has ls 5 [(0, .ref (ad 0)), (1, .int a1), (2, .int a2), (3, .long wa3)] := hl
  obtain ⟨v1, v3, v5, v6, v7, v9, c11, b2, b4, b8, b10⟩ := invX_2 hI
  have c11 : S 2 = .inr (1, [.int v1, .int v3, .int v5, .ref (ad 3), .ref (ad 5), .ref (ad 6), .int v6, .int v7, .ref (ad 7), .ref (ad 8), .ref (ad 9), .ref (ad 10), .int v9, .ref (ad 15), .ref (ad 16)]) := c11
  have q12 : fld (S 2) 1 = v3.toInt := fld_of c11 rfl
  have q13 : fld (S 2) 0 = v1.toInt := fld_of c11 rfl
  have q14 : fld (S 2) 7 = v7.toInt := fld_of c11 rfl
  have q15 : fld (S 2) 12 = v9.toInt := fld_of c11 rfl
  refine lv_iload_n hx hb dX11_write_0 rfl (lv_at hl 1 rfl) ?_
  refine xcSi E hs hQ hml hl.1 (gX8_isSlot l g ad hD S hI a1) mX8_isSlot q1433 rfl ⟨(Nat.le_of_ble_eq_true rfl), (Nat.le_of_ble_eq_true rfl)⟩ ⟨(Nat.le_of_ble_eq_true rfl), (Nat.le_of_ble_eq_true rfl)⟩ (Nat.le_of_ble_eq_true rfl) rfl dX11_write_1 (fun r16 S16 H locs hp16 hQ => ?_)
  obtain ⟨rfl, b16, g16_0, u16_0⟩ := hp16
  refine lv_if_ne (tgt := 10) hx hb dX11_write_4 (by decide) (fun k17 => ?_) (fun k17 => ?_)
  · have h18 := ib_ne k17
    have b19 : Bd r16 (1) (1) := rf_nlo b16 (by decide : Bd 0 (0) (0)) h18
    have g20 := g16_0.resolve_left (by omega)
    clear g16_0
    have b21 : Bd a1 (0) (3) := ⟨by omega, by omega⟩
    refine lv_aload_n hx hb dX11_write_10 rfl (lv_at hl 0 rfl) ?_
    obtain ⟨v22, v24, v25, c26, b23⟩ := invX_0 hI
    have c26 : S 0 = .inr (11, [.ref (ad 1), .int v22, .int v24, .int v25, .ref (ad 2), .ref (ad 20), .ref (ad 38), .ref (ad 93), .ref (ad 94), .ref (ad 95), .ref (ad 102), .ref (ad 104), .ref (ad 107), .ref (ad 111), .ref (ad 119)]) := c26
    refine xget E hQ 0 (by decide) c26 rfl 13 (by decide) q529 rfl dX11_write_11 ?_
    refine lv_iload_n hx hb dX11_write_14 rfl (lv_at hl 1 rfl) ?_
    have c28 := invX_111 hI
    have c28 : S 111 = .inr (8, [.ref (ad 112), .ref (ad 117), .ref (ad 118)]) := c28
    refine xcVi E hs hQ hml hl.1 111 (gX8_hasRow_111 l g ad hD S hI a1 b21) mX8_hasRow q1445 (by decide) c28 rfl rfl ⟨(Nat.le_of_ble_eq_true rfl), (Nat.le_of_ble_eq_true rfl)⟩ ⟨(Nat.le_of_ble_eq_true rfl), (Nat.le_of_ble_eq_true rfl)⟩ (Nat.le_of_ble_eq_true rfl) rfl dX11_write_15 (fun r27 S27 H locs hp27 hQ _ => ?_)
    obtain ⟨rfl, b27, u27_0⟩ := hp27
    refine lv_if_ne (tgt := 24) hx hb dX11_write_18 (by decide) (fun k29 => ?_) (fun k29 => ?_)
    · have h30 := ib_ne k29
      have b31 : Bd r27 (1) (1) := rf_nlo b27 (by decide : Bd 0 (0) (0)) h30
      refine lv_iload_n hx hb dX11_write_24 rfl (lv_at hl 2 rfl) ?_
      refine lv_if_lt (tgt := 41) hx hb dX11_write_25 (by decide) (fun k32 => ?_) (fun k32 => ?_)
      · have h33 := ib_lt k32
        have b34 : Bd a2 (-2147483648) (-1) := ⟨((ib_full a2)).1, ((rf_lt (ib_full a2) (by decide : Bd 0 (0) (0)) h33).1).2⟩
        refine lv_bipush (v := (-7)) hx hb dX11_write_41 (by decide) ?_
        exact xri E hr hlk hQ (⟨hI, o_refl, (ib_wk (by decide : Bd (-7) (-7) (-7)) (by decide) (by decide)), (by have h1 := u16_0; unfold InP at h1; have h2 := u27_0; unfold HrP at h2; unfold ansWr; rw [if_neg (by omega), if_neg (by omega), if_pos (by omega)])⟩) dX11_write_43
      · have h35 := ib_nlt k32
        have b36 : Bd a2 (0) (2147483647) := ⟨((rf_le (by decide : Bd 0 (0) (0)) (ib_full a2) h35).2).1, ((ib_full a2)).2⟩
        refine lv_iload_n hx hb dX11_write_28 rfl (lv_at hl 2 rfl) ?_
        refine lv_aload_n hx hb dX11_write_29 rfl (lv_at hl 0 rfl) ?_
        refine xget E hQ 0 (by decide) c26 rfl 13 (by decide) q529 rfl dX11_write_30 ?_
        refine xget E hQ 111 (by decide) c28 rfl 2 (by decide) q485 rfl dX11_write_33 ?_
        refine lv_iload_n hx hb dX11_write_36 rfl (lv_at hl 1 rfl) ?_
        obtain ⟨f37, c38, b39⟩ := invX_118 hI
        refine xiald E hQ 118 (by decide) c38 (ib_in b21 (by decide) (by decide)) dX11_write_37 ?_
        refine lv_topi (fun z40 e41 => ?_)
        have b42 : Bd z40 (-1) (60) := (by rw [e41]; exact b39 _)
        have el43 : elm (S 118) a1.toInt.toNat = z40.toInt := elm_ld c38 e41
        refine lv_icmp_lt (tgt := 44) hx hb dX11_write_38 (by decide) (fun k44 => ?_) (fun k44 => ?_)
        · have h45 := ib_lt k44
          have b46 : Bd a2 (0) (59) := ⟨(b36).1, ((rf_lt b36 b42 h45).1).2⟩
          have b47 : Bd z40 (1) (60) := ⟨((rf_lt b36 b42 h45).2).1, (b42).2⟩
          refine lv_aload_n hx hb dX11_write_44 rfl (lv_at hl 0 rfl) ?_
          refine xget E hQ 0 (by decide) c26 rfl 13 (by decide) q529 rfl dX11_write_45 ?_
          refine lv_iload_n hx hb dX11_write_48 rfl (lv_at hl 1 rfl) ?_
          refine lv_iload_n hx hb dX11_write_49 rfl (lv_at hl 2 rfl) ?_
          refine lv_lload_n hx hb dX11_write_50 rfl (lv_at hl 3 rfl) ?_
          refine xcVv E hs hQ hml hl.1 111 (gX8_put_111 l g ad hD S hI a1 a2 wa3 b21 b46) mX8_put q1446 (by decide) c28 rfl rfl ⟨(Nat.le_of_ble_eq_true rfl), (Nat.le_of_ble_eq_true rfl)⟩ ⟨(Nat.le_of_ble_eq_true rfl), (Nat.le_of_ble_eq_true rfl)⟩ (Nat.le_of_ble_eq_true rfl) rfl dX11_write_51 (fun S48 H locs hp48 hQ _ => ?_)
          obtain ⟨hI, o48⟩ := hp48
          refine lv_iconst (v := 0) hx hb dX11_write_54 (by decide) ?_
          exact xri E hr hlk hQ (⟨hI, (o_trans o_refl o48 (by decide)), (ib_wk (by decide : Bd 0 (0) (0)) (by decide) (by decide)), (by have h1 := u16_0; unfold InP at h1; have h2 := u27_0; unfold HrP at h2; have e1 := el43; unfold ansWr; rw [if_neg (by omega), if_neg (by omega), if_neg (by omega)])⟩) dX11_write_55
        · have h49 := ib_nlt k44
          refine lv_bipush (v := (-7)) hx hb dX11_write_41 (by decide) ?_
          exact xri E hr hlk hQ (⟨hI, o_refl, (ib_wk (by decide : Bd (-7) (-7) (-7)) (by decide) (by decide)), (by have h1 := u16_0; unfold InP at h1; have h2 := u27_0; unfold HrP at h2; have e1 := el43; unfold ansWr; rw [if_neg (by omega), if_neg (by omega), if_pos (by omega)])⟩) dX11_write_43
    · have h50 := ib_eq k29
      have b51 : Bd r27 (0) (0) := ⟨(b27).1, ((rf_eq b27 (by decide : Bd 0 (0) (0)) h50).1).2⟩
      refine lv_bipush (v := (-6)) hx hb dX11_write_21 (by decide) ?_
      exact xri E hr hlk hQ (⟨hI, o_refl, (ib_wk (by decide : Bd (-6) (-6) (-6)) (by decide) (by decide)), (by have h1 := u16_0; unfold InP at h1; have h2 := u27_0; unfold HrP at h2; unfold ansWr; rw [if_neg (by omega), if_pos (by omega)])⟩) dX11_write_23
  · have h52 := ib_eq k17
    have b53 : Bd r16 (0) (0) := ⟨(b16).1, ((rf_eq b16 (by decide : Bd 0 (0) (0)) h52).1).2⟩
    clear g16_0
    refine lv_bipush (v := (-2)) hx hb dX11_write_7 (by decide) ?_
    exact xri E hr hlk hQ (⟨hI, o_refl, (ib_wk (by decide : Bd (-2) (-2) (-2)) (by decide) (by decide)), (by have h1 := u16_0; unfold InP at h1; unfold ansWr; rw [if_pos (by omega)])⟩) dX11_write_9
set_option maxHeartbeats 4000000 in
set_option maxRecDepth 100000 in
theorem gX11_paste_0 (l : Launch) (g : GG) (ad : Nat → Nat) (hD : Dj ad 122) (S : SS) (hI : InvX g ad S) (a1 : Int32) (a2 : Int32) (a3 : Int32) (a4 : Int32) (a5 : Int32) (hq1 : 0 ≤ 1201 * fld (S 2) 1 + (-1) * fld (S 2) 0) (hq2 : 0 ≤ 8 * fld (S 2) 1 + (-1) * fld (S 2) 7) (hq3 : 0 ≤ 3 * fld (S 2) 1 + (-1) * fld (S 2) 12) : Met l yX11_paste (wG (.code yX11_paste cX11_paste 6 (some .int))) (Rm 1) (XPre g ad 122 S [.ref (ad 0), .int a1, .int a2, .int a3, .int a4, .int a5]) (va_Qi (fun r S' => InvX g ad S' ∧ (∀ j, j ∉ ([113, 114, 115, 116] : List Nat) → S' j = S j) ∧ Bd r (-8) (0) ∧ (r = ansPa a1 a2 a3 a4 a5 (elm (S 118) a1.toInt.toNat) (elm (S 118) a3.toInt.toNat) (elm (S 117) a1.toInt.toNat) (elm (S 117) a3.toInt.toNat))) (QB g ad 122) (FA ad 122)) 0 0 (FA ad 122) := by
  refine xmet cX11_paste "EbbWreck" (by decide) rfl (Nat.le_of_ble_eq_true rfl) (fun p e s m below meth c E hr hlk hml hQ ls hl => ?_)
  have hx := E.1
  have hb := E.2.1
  have hs : Sp ad 122 (FA ad 122) := Sp.fa hD
  have hl : lv_has ls 6 [(0, .ref (ad 0)), (1, .int a1), (2, .int a2), (3, .int a3), (4, .int a4), (5, .int a5)] := hl
  obtain ⟨v1, v3, v5, v6, v7, v9, c11, b2, b4, b8, b10⟩ := invX_2 hI
  have c11 : S 2 = .inr (1, [.int v1, .int v3, .int v5, .ref (ad 3), .ref (ad 5), .ref (ad 6), .int v6, .int v7, .ref (ad 7), .ref (ad 8), .ref (ad 9), .ref (ad 10), .int v9, .ref (ad 15), .ref (ad 16)]) := c11
  have q12 : fld (S 2) 1 = v3.toInt := fld_of c11 rfl
  have q13 : fld (S 2) 0 = v1.toInt := fld_of c11 rfl
  have q14 : fld (S 2) 7 = v7.toInt := fld_of c11 rfl
  have q15 : fld (S 2) 12 = v9.toInt := fld_of c11 rfl
  refine lv_iload_n hx hb dX11_paste_0 rfl (lv_at hl 1 rfl) ?_
  refine xcSi E hs hQ hml hl.1 (gX8_isSlot l g ad hD S hI a1) mX8_isSlot q1433 rfl ⟨(Nat.le_of_ble_eq_true rfl), (Nat.le_of_ble_eq_true rfl)⟩ ⟨(Nat.le_of_ble_eq_true rfl), (Nat.le_of_ble_eq_true rfl)⟩ (Nat.le_of_ble_eq_true rfl) rfl dX11_paste_1 (fun r16 S16 H locs hp16 hQ => ?_)
  obtain ⟨rfl, b16, g16_0, u16_0⟩ := hp16
  refine lv_if_eq (tgt := 14) hx hb dX11_paste_4 (by decide) (fun k17 => ?_) (fun k17 => ?_)
  · have h18 := ib_eq k17
    have b19 : Bd r16 (0) (0) := ⟨(b16).1, ((rf_eq b16 (by decide : Bd 0 (0) (0)) h18).1).2⟩
    clear g16_0
    refine lv_bipush (v := (-2)) hx hb dX11_paste_14 (by decide) ?_
    exact xri E hr hlk hQ (⟨hI, o_refl, (ib_wk (by decide : Bd (-2) (-2) (-2)) (by decide) (by decide)), (by have h1 := u16_0; unfold InP at h1; unfold ansPa; rw [if_pos (by omega)])⟩) dX11_paste_16
  · have h20 := ib_ne k17
    have b21 : Bd r16 (1) (1) := rf_nlo b16 (by decide : Bd 0 (0) (0)) h20
    have g22 := g16_0.resolve_left (by omega)
    clear g16_0
    have b23 : Bd a1 (0) (3) := ⟨by omega, by omega⟩
    refine lv_iload_n hx hb dX11_paste_7 rfl (lv_at hl 3 rfl) ?_
    refine xcSi E hs hQ hml hl.1 (gX8_isSlot l g ad hD S hI a3) mX8_isSlot q1433 rfl ⟨(Nat.le_of_ble_eq_true rfl), (Nat.le_of_ble_eq_true rfl)⟩ ⟨(Nat.le_of_ble_eq_true rfl), (Nat.le_of_ble_eq_true rfl)⟩ (Nat.le_of_ble_eq_true rfl) rfl dX11_paste_8 (fun r24 S24 H locs hp24 hQ => ?_)
    obtain ⟨rfl, b24, g24_0, u24_0⟩ := hp24
    refine lv_if_ne (tgt := 17) hx hb dX11_paste_11 (by decide) (fun k25 => ?_) (fun k25 => ?_)
    · have h26 := ib_ne k25
      have b27 : Bd r24 (1) (1) := rf_nlo b24 (by decide : Bd 0 (0) (0)) h26
      have g28 := g24_0.resolve_left (by omega)
      clear g24_0
      have b29 : Bd a3 (0) (3) := ⟨by omega, by omega⟩
      refine lv_aload_n hx hb dX11_paste_17 rfl (lv_at hl 0 rfl) ?_
      obtain ⟨v30, v32, v33, c34, b31⟩ := invX_0 hI
      have c34 : S 0 = .inr (11, [.ref (ad 1), .int v30, .int v32, .int v33, .ref (ad 2), .ref (ad 20), .ref (ad 38), .ref (ad 93), .ref (ad 94), .ref (ad 95), .ref (ad 102), .ref (ad 104), .ref (ad 107), .ref (ad 111), .ref (ad 119)]) := c34
      refine xget E hQ 0 (by decide) c34 rfl 13 (by decide) q529 rfl dX11_paste_18 ?_
      refine lv_iload_n hx hb dX11_paste_21 rfl (lv_at hl 1 rfl) ?_
      have c36 := invX_111 hI
      have c36 : S 111 = .inr (8, [.ref (ad 112), .ref (ad 117), .ref (ad 118)]) := c36
      refine xcVi E hs hQ hml hl.1 111 (gX8_hasRow_111 l g ad hD S hI a1 b23) mX8_hasRow q1445 (by decide) c36 rfl rfl ⟨(Nat.le_of_ble_eq_true rfl), (Nat.le_of_ble_eq_true rfl)⟩ ⟨(Nat.le_of_ble_eq_true rfl), (Nat.le_of_ble_eq_true rfl)⟩ (Nat.le_of_ble_eq_true rfl) rfl dX11_paste_22 (fun r35 S35 H locs hp35 hQ _ => ?_)
      obtain ⟨rfl, b35, u35_0⟩ := hp35
      refine lv_if_eq (tgt := 39) hx hb dX11_paste_25 (by decide) (fun k37 => ?_) (fun k37 => ?_)
      · have h38 := ib_eq k37
        have b39 : Bd r35 (0) (0) := ⟨(b35).1, ((rf_eq b35 (by decide : Bd 0 (0) (0)) h38).1).2⟩
        refine lv_bipush (v := (-6)) hx hb dX11_paste_39 (by decide) ?_
        exact xri E hr hlk hQ (⟨hI, o_refl, (ib_wk (by decide : Bd (-6) (-6) (-6)) (by decide) (by decide)), (by have h1 := u16_0; unfold InP at h1; have h2 := u24_0; unfold InP at h2; have h3 := u35_0; unfold HrP at h3; unfold ansPa; rw [if_neg (by omega), if_pos (by omega)])⟩) dX11_paste_41
      · have h40 := ib_ne k37
        have b41 : Bd r35 (1) (1) := rf_nlo b35 (by decide : Bd 0 (0) (0)) h40
        refine lv_aload_n hx hb dX11_paste_28 rfl (lv_at hl 0 rfl) ?_
        refine xget E hQ 0 (by decide) c34 rfl 13 (by decide) q529 rfl dX11_paste_29 ?_
        refine lv_iload_n hx hb dX11_paste_32 rfl (lv_at hl 3 rfl) ?_
        refine xcVi E hs hQ hml hl.1 111 (gX8_hasRow_111 l g ad hD S hI a3 b29) mX8_hasRow q1445 (by decide) c36 rfl rfl ⟨(Nat.le_of_ble_eq_true rfl), (Nat.le_of_ble_eq_true rfl)⟩ ⟨(Nat.le_of_ble_eq_true rfl), (Nat.le_of_ble_eq_true rfl)⟩ (Nat.le_of_ble_eq_true rfl) rfl dX11_paste_33 (fun r42 S42 H locs hp42 hQ _ => ?_)
        obtain ⟨rfl, b42, u42_0⟩ := hp42
        refine lv_if_ne (tgt := 42) hx hb dX11_paste_36 (by decide) (fun k43 => ?_) (fun k43 => ?_)
        · have h44 := ib_ne k43
          have b45 : Bd r42 (1) (1) := rf_nlo b42 (by decide : Bd 0 (0) (0)) h44
          refine lv_aload_n hx hb dX11_paste_42 rfl (lv_at hl 0 rfl) ?_
          refine xget E hQ 0 (by decide) c34 rfl 13 (by decide) q529 rfl dX11_paste_43 ?_
          refine xget E hQ 111 (by decide) c36 rfl 1 (by decide) q482 rfl dX11_paste_46 ?_
          refine lv_iload_n hx hb dX11_paste_49 rfl (lv_at hl 1 rfl) ?_
          obtain ⟨f46, c47, b48⟩ := invX_117 hI
          refine xiald E hQ 117 (by decide) c47 (ib_in b23 (by decide) (by decide)) dX11_paste_50 ?_
          refine lv_topi (fun z49 e50 => ?_)
          have b51 : Bd z49 (0) (3) := (by rw [e50]; exact b48 _)
          have el52 : elm (S 117) a1.toInt.toNat = z49.toInt := elm_ld c47 e50
          refine lv_aload_n hx hb dX11_paste_51 rfl (lv_at hl 0 rfl) ?_
          refine xget E hQ 0 (by decide) c34 rfl 13 (by decide) q529 rfl dX11_paste_52 ?_
          refine xget E hQ 111 (by decide) c36 rfl 1 (by decide) q482 rfl dX11_paste_55 ?_
          refine lv_iload_n hx hb dX11_paste_58 rfl (lv_at hl 3 rfl) ?_
          refine xiald E hQ 117 (by decide) c47 (ib_in b29 (by decide) (by decide)) dX11_paste_59 ?_
          refine lv_topi (fun z53 e54 => ?_)
          have b55 : Bd z53 (0) (3) := (by rw [e54]; exact b48 _)
          have el56 : elm (S 117) a3.toInt.toNat = z53.toInt := elm_ld c47 e54
          refine lv_icmp_eq (tgt := 66) hx hb dX11_paste_60 (by decide) (fun k57 => ?_) (fun k57 => ?_)
          · have h58 := ib_eq k57
            refine lv_aload_n hx hb dX11_paste_66 rfl (lv_at hl 0 rfl) ?_
            refine xget E hQ 0 (by decide) c34 rfl 13 (by decide) q529 rfl dX11_paste_67 ?_
            refine lv_iload_n hx hb dX11_paste_70 rfl (lv_at hl 1 rfl) ?_
            refine lv_iload_n hx hb dX11_paste_71 rfl (lv_at hl 2 rfl) ?_
            refine lv_iload hx hb dX11_paste_72 (lv_at hl 5 rfl) ?_
            refine xcVi E hs hQ hml hl.1 111 (gX8_holds_111 l g ad hD S hI a1 a2 a5 b23) mX8_holds q1457 (by decide) c36 rfl rfl ⟨(Nat.le_of_ble_eq_true rfl), (Nat.le_of_ble_eq_true rfl)⟩ ⟨(Nat.le_of_ble_eq_true rfl), (Nat.le_of_ble_eq_true rfl)⟩ (Nat.le_of_ble_eq_true rfl) rfl dX11_paste_74 (fun r59 S59 H locs hp59 hQ _ => ?_)
            obtain ⟨rfl, b59, g59_0, u59_0⟩ := hp59
            refine lv_if_eq (tgt := 95) hx hb dX11_paste_77 (by decide) (fun k60 => ?_) (fun k60 => ?_)
            · have h61 := ib_eq k60
              have b62 : Bd r59 (0) (0) := ⟨(b59).1, ((rf_eq b59 (by decide : Bd 0 (0) (0)) h61).1).2⟩
              clear g59_0
              refine lv_bipush (v := (-7)) hx hb dX11_paste_95 (by decide) ?_
              exact xri E hr hlk hQ (⟨hI, o_refl, (ib_wk (by decide : Bd (-7) (-7) (-7)) (by decide) (by decide)), (by have h1 := u16_0; unfold InP at h1; have h2 := u24_0; unfold InP at h2; have h3 := u35_0; unfold HrP at h3; have h4 := u42_0; unfold HrP at h4; have h5 := u59_0; unfold HoP at h5; have e1 := el52; have e2 := el56; unfold ansPa; rw [if_neg (by omega), if_neg (by omega), if_neg (by omega), if_pos (by omega)])⟩) dX11_paste_97
            · have h63 := ib_ne k60
              have b64 : Bd r59 (1) (1) := rf_nlo b59 (by decide : Bd 0 (0) (0)) h63
              have g65 := g59_0.resolve_left (by omega)
              clear g59_0
              have b66 : Bd a2 (0) (60) := ⟨by omega, by omega⟩
              have b67 : Bd a5 (0) (60) := ⟨by omega, by omega⟩
              refine lv_aload_n hx hb dX11_paste_80 rfl (lv_at hl 0 rfl) ?_
              refine xget E hQ 0 (by decide) c34 rfl 13 (by decide) q529 rfl dX11_paste_81 ?_
              refine lv_iload_n hx hb dX11_paste_84 rfl (lv_at hl 3 rfl) ?_
              refine lv_iload hx hb dX11_paste_85 (lv_at hl 4 rfl) ?_
              refine lv_iload hx hb dX11_paste_87 (lv_at hl 5 rfl) ?_
              refine xcVi E hs hQ hml hl.1 111 (gX8_holds_111 l g ad hD S hI a3 a4 a5 b29) mX8_holds q1457 (by decide) c36 rfl rfl ⟨(Nat.le_of_ble_eq_true rfl), (Nat.le_of_ble_eq_true rfl)⟩ ⟨(Nat.le_of_ble_eq_true rfl), (Nat.le_of_ble_eq_true rfl)⟩ (Nat.le_of_ble_eq_true rfl) rfl dX11_paste_89 (fun r68 S68 H locs hp68 hQ _ => ?_)
              obtain ⟨rfl, b68, g68_0, u68_0⟩ := hp68
              refine lv_if_ne (tgt := 98) hx hb dX11_paste_92 (by decide) (fun k69 => ?_) (fun k69 => ?_)
              · have h70 := ib_ne k69
                have b71 : Bd r68 (1) (1) := rf_nlo b68 (by decide : Bd 0 (0) (0)) h70
                have g72 := g68_0.resolve_left (by omega)
                clear g68_0
                have b73 : Bd a4 (0) (60) := ⟨by omega, by omega⟩
                refine lv_aload_n hx hb dX11_paste_98 rfl (lv_at hl 0 rfl) ?_
                refine xget E hQ 0 (by decide) c34 rfl 13 (by decide) q529 rfl dX11_paste_99 ?_
                refine xget E hQ 111 (by decide) c36 rfl 0 (by decide) q480 rfl dX11_paste_102 ?_
                refine lv_iload_n hx hb dX11_paste_105 rfl (lv_at hl 1 rfl) ?_
                have c74 : S 112 = _ := invX_112 hI
                rcases bd_c4 b23 with h75 | h75 | h75 | h75
                · refine xaald E hQ 112 (by decide) c74 (by rw [h75]; exact vp_in_lit 0 4 (by decide)) (by rw [h75]; rfl) dX11_paste_106 ?_
                  have b76 : Bd a1 (0) (0) := (by rw [h75]; decide)
                  refine lv_iload_n hx hb dX11_paste_107 rfl (lv_at hl 2 rfl) ?_
                  refine lv_aload_n hx hb dX11_paste_108 rfl (lv_at hl 0 rfl) ?_
                  refine xget E hQ 0 (by decide) c34 rfl 13 (by decide) q529 rfl dX11_paste_109 ?_
                  refine xget E hQ 111 (by decide) c36 rfl 0 (by decide) q480 rfl dX11_paste_112 ?_
                  refine lv_iload_n hx hb dX11_paste_115 rfl (lv_at hl 3 rfl) ?_
                  rcases bd_c4 b29 with h77 | h77 | h77 | h77
                  · refine xaald E hQ 112 (by decide) c74 (by rw [h77]; exact vp_in_lit 0 4 (by decide)) (by rw [h77]; rfl) dX11_paste_116 ?_
                    have b78 : Bd a3 (0) (0) := (by rw [h77]; decide)
                    refine lv_iload hx hb dX11_paste_117 (lv_at hl 4 rfl) ?_
                    refine lv_iload hx hb dX11_paste_119 (lv_at hl 5 rfl) ?_
                    obtain ⟨f79, c80⟩ := invX_113 hI
                    refine xcopyl E hs hQ hml hl.1 113 (by decide) 113 (by decide) c80 c80 q1461 (nlt0 (by omega)) (nlt0 (by omega)) (nlt0 (by omega)) (cl_add (by omega) (by omega) (by omega)) (cl_add (by omega) (by omega) (by omega)) (Nat.le_of_ble_eq_true rfl) (Nat.le_of_ble_eq_true rfl) dX11_paste_121 (fun H locs S82 eS82 hQ => ?_)
                    have hI := invX_up_113 hI eS82 ⟨_, rfl⟩
                    have c83 : S82 113 = .inl (g.2 2, 60, .inr (.inl (va_cpy f79 f79 (a2 : Int32).toNatClampNeg (a4 : Int32).toNatClampNeg (a5 : Int32).toNatClampNeg))) := up_at eS82 rfl
                    refine lv_iconst (v := 0) hx hb dX11_paste_124 (by decide) ?_
                    exact xri E hr hlk hQ (⟨hI, (up_o o_refl eS82 (by decide)), (ib_wk (by decide : Bd 0 (0) (0)) (by decide) (by decide)), (by have h1 := u16_0; unfold InP at h1; have h2 := u24_0; unfold InP at h2; have h3 := u35_0; unfold HrP at h3; have h4 := u42_0; unfold HrP at h4; have h5 := u59_0; unfold HoP at h5; have h6 := u68_0; unfold HoP at h6; have e1 := el52; have e2 := el56; unfold ansPa; rw [if_neg (by omega), if_neg (by omega), if_neg (by omega), if_neg (by omega)])⟩) dX11_paste_125
                  · refine xaald E hQ 112 (by decide) c74 (by rw [h77]; exact vp_in_lit 1 4 (by decide)) (by rw [h77]; rfl) dX11_paste_116 ?_
                    have b84 : Bd a3 (1) (1) := (by rw [h77]; decide)
                    refine lv_iload hx hb dX11_paste_117 (lv_at hl 4 rfl) ?_
                    refine lv_iload hx hb dX11_paste_119 (lv_at hl 5 rfl) ?_
                    obtain ⟨f85, c86⟩ := invX_113 hI
                    obtain ⟨f88, c89⟩ := invX_114 hI
                    refine xcopyl E hs hQ hml hl.1 113 (by decide) 114 (by decide) c86 c89 q1461 (nlt0 (by omega)) (nlt0 (by omega)) (nlt0 (by omega)) (cl_add (by omega) (by omega) (by omega)) (cl_add (by omega) (by omega) (by omega)) (Nat.le_of_ble_eq_true rfl) (Nat.le_of_ble_eq_true rfl) dX11_paste_121 (fun H locs S91 eS91 hQ => ?_)
                    have hI := invX_up_114 hI eS91 ⟨_, rfl⟩
                    have c92 : S91 114 = .inl (g.2 2, 60, .inr (.inl (va_cpy f85 f88 (a2 : Int32).toNatClampNeg (a4 : Int32).toNatClampNeg (a5 : Int32).toNatClampNeg))) := up_at eS91 rfl
                    refine lv_iconst (v := 0) hx hb dX11_paste_124 (by decide) ?_
                    exact xri E hr hlk hQ (⟨hI, (up_o o_refl eS91 (by decide)), (ib_wk (by decide : Bd 0 (0) (0)) (by decide) (by decide)), (by have h1 := u16_0; unfold InP at h1; have h2 := u24_0; unfold InP at h2; have h3 := u35_0; unfold HrP at h3; have h4 := u42_0; unfold HrP at h4; have h5 := u59_0; unfold HoP at h5; have h6 := u68_0; unfold HoP at h6; have e1 := el52; have e2 := el56; unfold ansPa; rw [if_neg (by omega), if_neg (by omega), if_neg (by omega), if_neg (by omega)])⟩) dX11_paste_125
                  · refine xaald E hQ 112 (by decide) c74 (by rw [h77]; exact vp_in_lit 2 4 (by decide)) (by rw [h77]; rfl) dX11_paste_116 ?_
                    have b93 : Bd a3 (2) (2) := (by rw [h77]; decide)
                    refine lv_iload hx hb dX11_paste_117 (lv_at hl 4 rfl) ?_
                    refine lv_iload hx hb dX11_paste_119 (lv_at hl 5 rfl) ?_
                    obtain ⟨f94, c95⟩ := invX_113 hI
                    obtain ⟨f97, c98⟩ := invX_115 hI
                    refine xcopyl E hs hQ hml hl.1 113 (by decide) 115 (by decide) c95 c98 q1461 (nlt0 (by omega)) (nlt0 (by omega)) (nlt0 (by omega)) (cl_add (by omega) (by omega) (by omega)) (cl_add (by omega) (by omega) (by omega)) (Nat.le_of_ble_eq_true rfl) (Nat.le_of_ble_eq_true rfl) dX11_paste_121 (fun H locs S100 eS100 hQ => ?_)
                    have hI := invX_up_115 hI eS100 ⟨_, rfl⟩
                    have c101 : S100 115 = .inl (g.2 2, 60, .inr (.inl (va_cpy f94 f97 (a2 : Int32).toNatClampNeg (a4 : Int32).toNatClampNeg (a5 : Int32).toNatClampNeg))) := up_at eS100 rfl
                    refine lv_iconst (v := 0) hx hb dX11_paste_124 (by decide) ?_
                    exact xri E hr hlk hQ (⟨hI, (up_o o_refl eS100 (by decide)), (ib_wk (by decide : Bd 0 (0) (0)) (by decide) (by decide)), (by have h1 := u16_0; unfold InP at h1; have h2 := u24_0; unfold InP at h2; have h3 := u35_0; unfold HrP at h3; have h4 := u42_0; unfold HrP at h4; have h5 := u59_0; unfold HoP at h5; have h6 := u68_0; unfold HoP at h6; have e1 := el52; have e2 := el56; unfold ansPa; rw [if_neg (by omega), if_neg (by omega), if_neg (by omega), if_neg (by omega)])⟩) dX11_paste_125
                  · refine xaald E hQ 112 (by decide) c74 (by rw [h77]; exact vp_in_lit 3 4 (by decide)) (by rw [h77]; rfl) dX11_paste_116 ?_
                    have b102 : Bd a3 (3) (3) := (by rw [h77]; decide)
                    refine lv_iload hx hb dX11_paste_117 (lv_at hl 4 rfl) ?_
                    refine lv_iload hx hb dX11_paste_119 (lv_at hl 5 rfl) ?_
                    obtain ⟨f103, c104⟩ := invX_113 hI
                    obtain ⟨f106, c107⟩ := invX_116 hI
                    refine xcopyl E hs hQ hml hl.1 113 (by decide) 116 (by decide) c104 c107 q1461 (nlt0 (by omega)) (nlt0 (by omega)) (nlt0 (by omega)) (cl_add (by omega) (by omega) (by omega)) (cl_add (by omega) (by omega) (by omega)) (Nat.le_of_ble_eq_true rfl) (Nat.le_of_ble_eq_true rfl) dX11_paste_121 (fun H locs S109 eS109 hQ => ?_)
                    have hI := invX_up_116 hI eS109 ⟨_, rfl⟩
                    have c110 : S109 116 = .inl (g.2 2, 60, .inr (.inl (va_cpy f103 f106 (a2 : Int32).toNatClampNeg (a4 : Int32).toNatClampNeg (a5 : Int32).toNatClampNeg))) := up_at eS109 rfl
                    refine lv_iconst (v := 0) hx hb dX11_paste_124 (by decide) ?_
                    exact xri E hr hlk hQ (⟨hI, (up_o o_refl eS109 (by decide)), (ib_wk (by decide : Bd 0 (0) (0)) (by decide) (by decide)), (by have h1 := u16_0; unfold InP at h1; have h2 := u24_0; unfold InP at h2; have h3 := u35_0; unfold HrP at h3; have h4 := u42_0; unfold HrP at h4; have h5 := u59_0; unfold HoP at h5; have h6 := u68_0; unfold HoP at h6; have e1 := el52; have e2 := el56; unfold ansPa; rw [if_neg (by omega), if_neg (by omega), if_neg (by omega), if_neg (by omega)])⟩) dX11_paste_125
                · refine xaald E hQ 112 (by decide) c74 (by rw [h75]; exact vp_in_lit 1 4 (by decide)) (by rw [h75]; rfl) dX11_paste_106 ?_
                  have b111 : Bd a1 (1) (1) := (by rw [h75]; decide)
                  refine lv_iload_n hx hb dX11_paste_107 rfl (lv_at hl 2 rfl) ?_
                  refine lv_aload_n hx hb dX11_paste_108 rfl (lv_at hl 0 rfl) ?_
                  refine xget E hQ 0 (by decide) c34 rfl 13 (by decide) q529 rfl dX11_paste_109 ?_
                  refine xget E hQ 111 (by decide) c36 rfl 0 (by decide) q480 rfl dX11_paste_112 ?_
                  refine lv_iload_n hx hb dX11_paste_115 rfl (lv_at hl 3 rfl) ?_
                  rcases bd_c4 b29 with h112 | h112 | h112 | h112
                  · refine xaald E hQ 112 (by decide) c74 (by rw [h112]; exact vp_in_lit 0 4 (by decide)) (by rw [h112]; rfl) dX11_paste_116 ?_
                    have b113 : Bd a3 (0) (0) := (by rw [h112]; decide)
                    refine lv_iload hx hb dX11_paste_117 (lv_at hl 4 rfl) ?_
                    refine lv_iload hx hb dX11_paste_119 (lv_at hl 5 rfl) ?_
                    obtain ⟨f114, c115⟩ := invX_114 hI
                    obtain ⟨f117, c118⟩ := invX_113 hI
                    refine xcopyl E hs hQ hml hl.1 114 (by decide) 113 (by decide) c115 c118 q1461 (nlt0 (by omega)) (nlt0 (by omega)) (nlt0 (by omega)) (cl_add (by omega) (by omega) (by omega)) (cl_add (by omega) (by omega) (by omega)) (Nat.le_of_ble_eq_true rfl) (Nat.le_of_ble_eq_true rfl) dX11_paste_121 (fun H locs S120 eS120 hQ => ?_)
                    have hI := invX_up_113 hI eS120 ⟨_, rfl⟩
                    have c121 : S120 113 = .inl (g.2 2, 60, .inr (.inl (va_cpy f114 f117 (a2 : Int32).toNatClampNeg (a4 : Int32).toNatClampNeg (a5 : Int32).toNatClampNeg))) := up_at eS120 rfl
                    refine lv_iconst (v := 0) hx hb dX11_paste_124 (by decide) ?_
                    exact xri E hr hlk hQ (⟨hI, (up_o o_refl eS120 (by decide)), (ib_wk (by decide : Bd 0 (0) (0)) (by decide) (by decide)), (by have h1 := u16_0; unfold InP at h1; have h2 := u24_0; unfold InP at h2; have h3 := u35_0; unfold HrP at h3; have h4 := u42_0; unfold HrP at h4; have h5 := u59_0; unfold HoP at h5; have h6 := u68_0; unfold HoP at h6; have e1 := el52; have e2 := el56; unfold ansPa; rw [if_neg (by omega), if_neg (by omega), if_neg (by omega), if_neg (by omega)])⟩) dX11_paste_125
                  · refine xaald E hQ 112 (by decide) c74 (by rw [h112]; exact vp_in_lit 1 4 (by decide)) (by rw [h112]; rfl) dX11_paste_116 ?_
                    have b122 : Bd a3 (1) (1) := (by rw [h112]; decide)
                    refine lv_iload hx hb dX11_paste_117 (lv_at hl 4 rfl) ?_
                    refine lv_iload hx hb dX11_paste_119 (lv_at hl 5 rfl) ?_
                    obtain ⟨f123, c124⟩ := invX_114 hI
                    refine xcopyl E hs hQ hml hl.1 114 (by decide) 114 (by decide) c124 c124 q1461 (nlt0 (by omega)) (nlt0 (by omega)) (nlt0 (by omega)) (cl_add (by omega) (by omega) (by omega)) (cl_add (by omega) (by omega) (by omega)) (Nat.le_of_ble_eq_true rfl) (Nat.le_of_ble_eq_true rfl) dX11_paste_121 (fun H locs S126 eS126 hQ => ?_)
                    have hI := invX_up_114 hI eS126 ⟨_, rfl⟩
                    have c127 : S126 114 = .inl (g.2 2, 60, .inr (.inl (va_cpy f123 f123 (a2 : Int32).toNatClampNeg (a4 : Int32).toNatClampNeg (a5 : Int32).toNatClampNeg))) := up_at eS126 rfl
                    refine lv_iconst (v := 0) hx hb dX11_paste_124 (by decide) ?_
                    exact xri E hr hlk hQ (⟨hI, (up_o o_refl eS126 (by decide)), (ib_wk (by decide : Bd 0 (0) (0)) (by decide) (by decide)), (by have h1 := u16_0; unfold InP at h1; have h2 := u24_0; unfold InP at h2; have h3 := u35_0; unfold HrP at h3; have h4 := u42_0; unfold HrP at h4; have h5 := u59_0; unfold HoP at h5; have h6 := u68_0; unfold HoP at h6; have e1 := el52; have e2 := el56; unfold ansPa; rw [if_neg (by omega), if_neg (by omega), if_neg (by omega), if_neg (by omega)])⟩) dX11_paste_125
                  · refine xaald E hQ 112 (by decide) c74 (by rw [h112]; exact vp_in_lit 2 4 (by decide)) (by rw [h112]; rfl) dX11_paste_116 ?_
                    have b128 : Bd a3 (2) (2) := (by rw [h112]; decide)
                    refine lv_iload hx hb dX11_paste_117 (lv_at hl 4 rfl) ?_
                    refine lv_iload hx hb dX11_paste_119 (lv_at hl 5 rfl) ?_
                    obtain ⟨f129, c130⟩ := invX_114 hI
                    obtain ⟨f132, c133⟩ := invX_115 hI
                    refine xcopyl E hs hQ hml hl.1 114 (by decide) 115 (by decide) c130 c133 q1461 (nlt0 (by omega)) (nlt0 (by omega)) (nlt0 (by omega)) (cl_add (by omega) (by omega) (by omega)) (cl_add (by omega) (by omega) (by omega)) (Nat.le_of_ble_eq_true rfl) (Nat.le_of_ble_eq_true rfl) dX11_paste_121 (fun H locs S135 eS135 hQ => ?_)
                    have hI := invX_up_115 hI eS135 ⟨_, rfl⟩
                    have c136 : S135 115 = .inl (g.2 2, 60, .inr (.inl (va_cpy f129 f132 (a2 : Int32).toNatClampNeg (a4 : Int32).toNatClampNeg (a5 : Int32).toNatClampNeg))) := up_at eS135 rfl
                    refine lv_iconst (v := 0) hx hb dX11_paste_124 (by decide) ?_
                    exact xri E hr hlk hQ (⟨hI, (up_o o_refl eS135 (by decide)), (ib_wk (by decide : Bd 0 (0) (0)) (by decide) (by decide)), (by have h1 := u16_0; unfold InP at h1; have h2 := u24_0; unfold InP at h2; have h3 := u35_0; unfold HrP at h3; have h4 := u42_0; unfold HrP at h4; have h5 := u59_0; unfold HoP at h5; have h6 := u68_0; unfold HoP at h6; have e1 := el52; have e2 := el56; unfold ansPa; rw [if_neg (by omega), if_neg (by omega), if_neg (by omega), if_neg (by omega)])⟩) dX11_paste_125
                  · refine xaald E hQ 112 (by decide) c74 (by rw [h112]; exact vp_in_lit 3 4 (by decide)) (by rw [h112]; rfl) dX11_paste_116 ?_
                    have b137 : Bd a3 (3) (3) := (by rw [h112]; decide)
                    refine lv_iload hx hb dX11_paste_117 (lv_at hl 4 rfl) ?_
                    refine lv_iload hx hb dX11_paste_119 (lv_at hl 5 rfl) ?_
                    obtain ⟨f138, c139⟩ := invX_114 hI
                    obtain ⟨f141, c142⟩ := invX_116 hI
                    refine xcopyl E hs hQ hml hl.1 114 (by decide) 116 (by decide) c139 c142 q1461 (nlt0 (by omega)) (nlt0 (by omega)) (nlt0 (by omega)) (cl_add (by omega) (by omega) (by omega)) (cl_add (by omega) (by omega) (by omega)) (Nat.le_of_ble_eq_true rfl) (Nat.le_of_ble_eq_true rfl) dX11_paste_121 (fun H locs S144 eS144 hQ => ?_)
                    have hI := invX_up_116 hI eS144 ⟨_, rfl⟩
                    have c145 : S144 116 = .inl (g.2 2, 60, .inr (.inl (va_cpy f138 f141 (a2 : Int32).toNatClampNeg (a4 : Int32).toNatClampNeg (a5 : Int32).toNatClampNeg))) := up_at eS144 rfl
                    refine lv_iconst (v := 0) hx hb dX11_paste_124 (by decide) ?_
                    exact xri E hr hlk hQ (⟨hI, (up_o o_refl eS144 (by decide)), (ib_wk (by decide : Bd 0 (0) (0)) (by decide) (by decide)), (by have h1 := u16_0; unfold InP at h1; have h2 := u24_0; unfold InP at h2; have h3 := u35_0; unfold HrP at h3; have h4 := u42_0; unfold HrP at h4; have h5 := u59_0; unfold HoP at h5; have h6 := u68_0; unfold HoP at h6; have e1 := el52; have e2 := el56; unfold ansPa; rw [if_neg (by omega), if_neg (by omega), if_neg (by omega), if_neg (by omega)])⟩) dX11_paste_125
                · refine xaald E hQ 112 (by decide) c74 (by rw [h75]; exact vp_in_lit 2 4 (by decide)) (by rw [h75]; rfl) dX11_paste_106 ?_
                  have b146 : Bd a1 (2) (2) := (by rw [h75]; decide)
                  refine lv_iload_n hx hb dX11_paste_107 rfl (lv_at hl 2 rfl) ?_
                  refine lv_aload_n hx hb dX11_paste_108 rfl (lv_at hl 0 rfl) ?_
                  refine xget E hQ 0 (by decide) c34 rfl 13 (by decide) q529 rfl dX11_paste_109 ?_
                  refine xget E hQ 111 (by decide) c36 rfl 0 (by decide) q480 rfl dX11_paste_112 ?_
                  refine lv_iload_n hx hb dX11_paste_115 rfl (lv_at hl 3 rfl) ?_
                  rcases bd_c4 b29 with h147 | h147 | h147 | h147
                  · refine xaald E hQ 112 (by decide) c74 (by rw [h147]; exact vp_in_lit 0 4 (by decide)) (by rw [h147]; rfl) dX11_paste_116 ?_
                    have b148 : Bd a3 (0) (0) := (by rw [h147]; decide)
                    refine lv_iload hx hb dX11_paste_117 (lv_at hl 4 rfl) ?_
                    refine lv_iload hx hb dX11_paste_119 (lv_at hl 5 rfl) ?_
                    obtain ⟨f149, c150⟩ := invX_115 hI
                    obtain ⟨f152, c153⟩ := invX_113 hI
                    refine xcopyl E hs hQ hml hl.1 115 (by decide) 113 (by decide) c150 c153 q1461 (nlt0 (by omega)) (nlt0 (by omega)) (nlt0 (by omega)) (cl_add (by omega) (by omega) (by omega)) (cl_add (by omega) (by omega) (by omega)) (Nat.le_of_ble_eq_true rfl) (Nat.le_of_ble_eq_true rfl) dX11_paste_121 (fun H locs S155 eS155 hQ => ?_)
                    have hI := invX_up_113 hI eS155 ⟨_, rfl⟩
                    have c156 : S155 113 = .inl (g.2 2, 60, .inr (.inl (va_cpy f149 f152 (a2 : Int32).toNatClampNeg (a4 : Int32).toNatClampNeg (a5 : Int32).toNatClampNeg))) := up_at eS155 rfl
                    refine lv_iconst (v := 0) hx hb dX11_paste_124 (by decide) ?_
                    exact xri E hr hlk hQ (⟨hI, (up_o o_refl eS155 (by decide)), (ib_wk (by decide : Bd 0 (0) (0)) (by decide) (by decide)), (by have h1 := u16_0; unfold InP at h1; have h2 := u24_0; unfold InP at h2; have h3 := u35_0; unfold HrP at h3; have h4 := u42_0; unfold HrP at h4; have h5 := u59_0; unfold HoP at h5; have h6 := u68_0; unfold HoP at h6; have e1 := el52; have e2 := el56; unfold ansPa; rw [if_neg (by omega), if_neg (by omega), if_neg (by omega), if_neg (by omega)])⟩) dX11_paste_125
                  · refine xaald E hQ 112 (by decide) c74 (by rw [h147]; exact vp_in_lit 1 4 (by decide)) (by rw [h147]; rfl) dX11_paste_116 ?_
                    have b157 : Bd a3 (1) (1) := (by rw [h147]; decide)
                    refine lv_iload hx hb dX11_paste_117 (lv_at hl 4 rfl) ?_
                    refine lv_iload hx hb dX11_paste_119 (lv_at hl 5 rfl) ?_
                    obtain ⟨f158, c159⟩ := invX_115 hI
                    obtain ⟨f161, c162⟩ := invX_114 hI
                    refine xcopyl E hs hQ hml hl.1 115 (by decide) 114 (by decide) c159 c162 q1461 (nlt0 (by omega)) (nlt0 (by omega)) (nlt0 (by omega)) (cl_add (by omega) (by omega) (by omega)) (cl_add (by omega) (by omega) (by omega)) (Nat.le_of_ble_eq_true rfl) (Nat.le_of_ble_eq_true rfl) dX11_paste_121 (fun H locs S164 eS164 hQ => ?_)
                    have hI := invX_up_114 hI eS164 ⟨_, rfl⟩
                    have c165 : S164 114 = .inl (g.2 2, 60, .inr (.inl (va_cpy f158 f161 (a2 : Int32).toNatClampNeg (a4 : Int32).toNatClampNeg (a5 : Int32).toNatClampNeg))) := up_at eS164 rfl
                    refine lv_iconst (v := 0) hx hb dX11_paste_124 (by decide) ?_
                    exact xri E hr hlk hQ (⟨hI, (up_o o_refl eS164 (by decide)), (ib_wk (by decide : Bd 0 (0) (0)) (by decide) (by decide)), (by have h1 := u16_0; unfold InP at h1; have h2 := u24_0; unfold InP at h2; have h3 := u35_0; unfold HrP at h3; have h4 := u42_0; unfold HrP at h4; have h5 := u59_0; unfold HoP at h5; have h6 := u68_0; unfold HoP at h6; have e1 := el52; have e2 := el56; unfold ansPa; rw [if_neg (by omega), if_neg (by omega), if_neg (by omega), if_neg (by omega)])⟩) dX11_paste_125
                  · refine xaald E hQ 112 (by decide) c74 (by rw [h147]; exact vp_in_lit 2 4 (by decide)) (by rw [h147]; rfl) dX11_paste_116 ?_
                    have b166 : Bd a3 (2) (2) := (by rw [h147]; decide)
                    refine lv_iload hx hb dX11_paste_117 (lv_at hl 4 rfl) ?_
                    refine lv_iload hx hb dX11_paste_119 (lv_at hl 5 rfl) ?_
                    obtain ⟨f167, c168⟩ := invX_115 hI
                    refine xcopyl E hs hQ hml hl.1 115 (by decide) 115 (by decide) c168 c168 q1461 (nlt0 (by omega)) (nlt0 (by omega)) (nlt0 (by omega)) (cl_add (by omega) (by omega) (by omega)) (cl_add (by omega) (by omega) (by omega)) (Nat.le_of_ble_eq_true rfl) (Nat.le_of_ble_eq_true rfl) dX11_paste_121 (fun H locs S170 eS170 hQ => ?_)
                    have hI := invX_up_115 hI eS170 ⟨_, rfl⟩
                    have c171 : S170 115 = .inl (g.2 2, 60, .inr (.inl (va_cpy f167 f167 (a2 : Int32).toNatClampNeg (a4 : Int32).toNatClampNeg (a5 : Int32).toNatClampNeg))) := up_at eS170 rfl
                    refine lv_iconst (v := 0) hx hb dX11_paste_124 (by decide) ?_
                    exact xri E hr hlk hQ (⟨hI, (up_o o_refl eS170 (by decide)), (ib_wk (by decide : Bd 0 (0) (0)) (by decide) (by decide)), (by have h1 := u16_0; unfold InP at h1; have h2 := u24_0; unfold InP at h2; have h3 := u35_0; unfold HrP at h3; have h4 := u42_0; unfold HrP at h4; have h5 := u59_0; unfold HoP at h5; have h6 := u68_0; unfold HoP at h6; have e1 := el52; have e2 := el56; unfold ansPa; rw [if_neg (by omega), if_neg (by omega), if_neg (by omega), if_neg (by omega)])⟩) dX11_paste_125
                  · refine xaald E hQ 112 (by decide) c74 (by rw [h147]; exact vp_in_lit 3 4 (by decide)) (by rw [h147]; rfl) dX11_paste_116 ?_
                    have b172 : Bd a3 (3) (3) := (by rw [h147]; decide)
                    refine lv_iload hx hb dX11_paste_117 (lv_at hl 4 rfl) ?_
                    refine lv_iload hx hb dX11_paste_119 (lv_at hl 5 rfl) ?_
                    obtain ⟨f173, c174⟩ := invX_115 hI
                    obtain ⟨f176, c177⟩ := invX_116 hI
                    refine xcopyl E hs hQ hml hl.1 115 (by decide) 116 (by decide) c174 c177 q1461 (nlt0 (by omega)) (nlt0 (by omega)) (nlt0 (by omega)) (cl_add (by omega) (by omega) (by omega)) (cl_add (by omega) (by omega) (by omega)) (Nat.le_of_ble_eq_true rfl) (Nat.le_of_ble_eq_true rfl) dX11_paste_121 (fun H locs S179 eS179 hQ => ?_)
                    have hI := invX_up_116 hI eS179 ⟨_, rfl⟩
                    have c180 : S179 116 = .inl (g.2 2, 60, .inr (.inl (va_cpy f173 f176 (a2 : Int32).toNatClampNeg (a4 : Int32).toNatClampNeg (a5 : Int32).toNatClampNeg))) := up_at eS179 rfl
                    refine lv_iconst (v := 0) hx hb dX11_paste_124 (by decide) ?_
                    exact xri E hr hlk hQ (⟨hI, (up_o o_refl eS179 (by decide)), (ib_wk (by decide : Bd 0 (0) (0)) (by decide) (by decide)), (by have h1 := u16_0; unfold InP at h1; have h2 := u24_0; unfold InP at h2; have h3 := u35_0; unfold HrP at h3; have h4 := u42_0; unfold HrP at h4; have h5 := u59_0; unfold HoP at h5; have h6 := u68_0; unfold HoP at h6; have e1 := el52; have e2 := el56; unfold ansPa; rw [if_neg (by omega), if_neg (by omega), if_neg (by omega), if_neg (by omega)])⟩) dX11_paste_125
                · refine xaald E hQ 112 (by decide) c74 (by rw [h75]; exact vp_in_lit 3 4 (by decide)) (by rw [h75]; rfl) dX11_paste_106 ?_
                  have b181 : Bd a1 (3) (3) := (by rw [h75]; decide)
                  refine lv_iload_n hx hb dX11_paste_107 rfl (lv_at hl 2 rfl) ?_
                  refine lv_aload_n hx hb dX11_paste_108 rfl (lv_at hl 0 rfl) ?_
                  refine xget E hQ 0 (by decide) c34 rfl 13 (by decide) q529 rfl dX11_paste_109 ?_
                  refine xget E hQ 111 (by decide) c36 rfl 0 (by decide) q480 rfl dX11_paste_112 ?_
                  refine lv_iload_n hx hb dX11_paste_115 rfl (lv_at hl 3 rfl) ?_
                  rcases bd_c4 b29 with h182 | h182 | h182 | h182
                  · refine xaald E hQ 112 (by decide) c74 (by rw [h182]; exact vp_in_lit 0 4 (by decide)) (by rw [h182]; rfl) dX11_paste_116 ?_
                    have b183 : Bd a3 (0) (0) := (by rw [h182]; decide)
                    refine lv_iload hx hb dX11_paste_117 (lv_at hl 4 rfl) ?_
                    refine lv_iload hx hb dX11_paste_119 (lv_at hl 5 rfl) ?_
                    obtain ⟨f184, c185⟩ := invX_116 hI
                    obtain ⟨f187, c188⟩ := invX_113 hI
                    refine xcopyl E hs hQ hml hl.1 116 (by decide) 113 (by decide) c185 c188 q1461 (nlt0 (by omega)) (nlt0 (by omega)) (nlt0 (by omega)) (cl_add (by omega) (by omega) (by omega)) (cl_add (by omega) (by omega) (by omega)) (Nat.le_of_ble_eq_true rfl) (Nat.le_of_ble_eq_true rfl) dX11_paste_121 (fun H locs S190 eS190 hQ => ?_)
                    have hI := invX_up_113 hI eS190 ⟨_, rfl⟩
                    have c191 : S190 113 = .inl (g.2 2, 60, .inr (.inl (va_cpy f184 f187 (a2 : Int32).toNatClampNeg (a4 : Int32).toNatClampNeg (a5 : Int32).toNatClampNeg))) := up_at eS190 rfl
                    refine lv_iconst (v := 0) hx hb dX11_paste_124 (by decide) ?_
                    exact xri E hr hlk hQ (⟨hI, (up_o o_refl eS190 (by decide)), (ib_wk (by decide : Bd 0 (0) (0)) (by decide) (by decide)), (by have h1 := u16_0; unfold InP at h1; have h2 := u24_0; unfold InP at h2; have h3 := u35_0; unfold HrP at h3; have h4 := u42_0; unfold HrP at h4; have h5 := u59_0; unfold HoP at h5; have h6 := u68_0; unfold HoP at h6; have e1 := el52; have e2 := el56; unfold ansPa; rw [if_neg (by omega), if_neg (by omega), if_neg (by omega), if_neg (by omega)])⟩) dX11_paste_125
                  · refine xaald E hQ 112 (by decide) c74 (by rw [h182]; exact vp_in_lit 1 4 (by decide)) (by rw [h182]; rfl) dX11_paste_116 ?_
                    have b192 : Bd a3 (1) (1) := (by rw [h182]; decide)
                    refine lv_iload hx hb dX11_paste_117 (lv_at hl 4 rfl) ?_
                    refine lv_iload hx hb dX11_paste_119 (lv_at hl 5 rfl) ?_
                    obtain ⟨f193, c194⟩ := invX_116 hI
                    obtain ⟨f196, c197⟩ := invX_114 hI
                    refine xcopyl E hs hQ hml hl.1 116 (by decide) 114 (by decide) c194 c197 q1461 (nlt0 (by omega)) (nlt0 (by omega)) (nlt0 (by omega)) (cl_add (by omega) (by omega) (by omega)) (cl_add (by omega) (by omega) (by omega)) (Nat.le_of_ble_eq_true rfl) (Nat.le_of_ble_eq_true rfl) dX11_paste_121 (fun H locs S199 eS199 hQ => ?_)
                    have hI := invX_up_114 hI eS199 ⟨_, rfl⟩
                    have c200 : S199 114 = .inl (g.2 2, 60, .inr (.inl (va_cpy f193 f196 (a2 : Int32).toNatClampNeg (a4 : Int32).toNatClampNeg (a5 : Int32).toNatClampNeg))) := up_at eS199 rfl
                    refine lv_iconst (v := 0) hx hb dX11_paste_124 (by decide) ?_
                    exact xri E hr hlk hQ (⟨hI, (up_o o_refl eS199 (by decide)), (ib_wk (by decide : Bd 0 (0) (0)) (by decide) (by decide)), (by have h1 := u16_0; unfold InP at h1; have h2 := u24_0; unfold InP at h2; have h3 := u35_0; unfold HrP at h3; have h4 := u42_0; unfold HrP at h4; have h5 := u59_0; unfold HoP at h5; have h6 := u68_0; unfold HoP at h6; have e1 := el52; have e2 := el56; unfold ansPa; rw [if_neg (by omega), if_neg (by omega), if_neg (by omega), if_neg (by omega)])⟩) dX11_paste_125
                  · refine xaald E hQ 112 (by decide) c74 (by rw [h182]; exact vp_in_lit 2 4 (by decide)) (by rw [h182]; rfl) dX11_paste_116 ?_
                    have b201 : Bd a3 (2) (2) := (by rw [h182]; decide)
                    refine lv_iload hx hb dX11_paste_117 (lv_at hl 4 rfl) ?_
                    refine lv_iload hx hb dX11_paste_119 (lv_at hl 5 rfl) ?_
                    obtain ⟨f202, c203⟩ := invX_116 hI
                    obtain ⟨f205, c206⟩ := invX_115 hI
                    refine xcopyl E hs hQ hml hl.1 116 (by decide) 115 (by decide) c203 c206 q1461 (nlt0 (by omega)) (nlt0 (by omega)) (nlt0 (by omega)) (cl_add (by omega) (by omega) (by omega)) (cl_add (by omega) (by omega) (by omega)) (Nat.le_of_ble_eq_true rfl) (Nat.le_of_ble_eq_true rfl) dX11_paste_121 (fun H locs S208 eS208 hQ => ?_)
                    have hI := invX_up_115 hI eS208 ⟨_, rfl⟩
                    have c209 : S208 115 = .inl (g.2 2, 60, .inr (.inl (va_cpy f202 f205 (a2 : Int32).toNatClampNeg (a4 : Int32).toNatClampNeg (a5 : Int32).toNatClampNeg))) := up_at eS208 rfl
                    refine lv_iconst (v := 0) hx hb dX11_paste_124 (by decide) ?_
                    exact xri E hr hlk hQ (⟨hI, (up_o o_refl eS208 (by decide)), (ib_wk (by decide : Bd 0 (0) (0)) (by decide) (by decide)), (by have h1 := u16_0; unfold InP at h1; have h2 := u24_0; unfold InP at h2; have h3 := u35_0; unfold HrP at h3; have h4 := u42_0; unfold HrP at h4; have h5 := u59_0; unfold HoP at h5; have h6 := u68_0; unfold HoP at h6; have e1 := el52; have e2 := el56; unfold ansPa; rw [if_neg (by omega), if_neg (by omega), if_neg (by omega), if_neg (by omega)])⟩) dX11_paste_125
                  · refine xaald E hQ 112 (by decide) c74 (by rw [h182]; exact vp_in_lit 3 4 (by decide)) (by rw [h182]; rfl) dX11_paste_116 ?_
                    have b210 : Bd a3 (3) (3) := (by rw [h182]; decide)
                    refine lv_iload hx hb dX11_paste_117 (lv_at hl 4 rfl) ?_
                    refine lv_iload hx hb dX11_paste_119 (lv_at hl 5 rfl) ?_
                    obtain ⟨f211, c212⟩ := invX_116 hI
                    refine xcopyl E hs hQ hml hl.1 116 (by decide) 116 (by decide) c212 c212 q1461 (nlt0 (by omega)) (nlt0 (by omega)) (nlt0 (by omega)) (cl_add (by omega) (by omega) (by omega)) (cl_add (by omega) (by omega) (by omega)) (Nat.le_of_ble_eq_true rfl) (Nat.le_of_ble_eq_true rfl) dX11_paste_121 (fun H locs S214 eS214 hQ => ?_)
                    have hI := invX_up_116 hI eS214 ⟨_, rfl⟩
                    have c215 : S214 116 = .inl (g.2 2, 60, .inr (.inl (va_cpy f211 f211 (a2 : Int32).toNatClampNeg (a4 : Int32).toNatClampNeg (a5 : Int32).toNatClampNeg))) := up_at eS214 rfl
                    refine lv_iconst (v := 0) hx hb dX11_paste_124 (by decide) ?_
                    exact xri E hr hlk hQ (⟨hI, (up_o o_refl eS214 (by decide)), (ib_wk (by decide : Bd 0 (0) (0)) (by decide) (by decide)), (by have h1 := u16_0; unfold InP at h1; have h2 := u24_0; unfold InP at h2; have h3 := u35_0; unfold HrP at h3; have h4 := u42_0; unfold HrP at h4; have h5 := u59_0; unfold HoP at h5; have h6 := u68_0; unfold HoP at h6; have e1 := el52; have e2 := el56; unfold ansPa; rw [if_neg (by omega), if_neg (by omega), if_neg (by omega), if_neg (by omega)])⟩) dX11_paste_125
              · have h216 := ib_eq k69
                have b217 : Bd r68 (0) (0) := ⟨(b68).1, ((rf_eq b68 (by decide : Bd 0 (0) (0)) h216).1).2⟩
                clear g68_0
                refine lv_bipush (v := (-7)) hx hb dX11_paste_95 (by decide) ?_
                exact xri E hr hlk hQ (⟨hI, o_refl, (ib_wk (by decide : Bd (-7) (-7) (-7)) (by decide) (by decide)), (by have h1 := u16_0; unfold InP at h1; have h2 := u24_0; unfold InP at h2; have h3 := u35_0; unfold HrP at h3; have h4 := u42_0; unfold HrP at h4; have h5 := u59_0; unfold HoP at h5; have h6 := u68_0; unfold HoP at h6; have e1 := el52; have e2 := el56; unfold ansPa; rw [if_neg (by omega), if_neg (by omega), if_neg (by omega), if_pos (by omega)])⟩) dX11_paste_97
          · have h218 := ib_ne k57
            refine lv_bipush (v := (-8)) hx hb dX11_paste_63 (by decide) ?_
            exact xri E hr hlk hQ (⟨hI, o_refl, (ib_wk (by decide : Bd (-8) (-8) (-8)) (by decide) (by decide)), (by have h1 := u16_0; unfold InP at h1; have h2 := u24_0; unfold InP at h2; have h3 := u35_0; unfold HrP at h3; have h4 := u42_0; unfold HrP at h4; have e1 := el52; have e2 := el56; unfold ansPa; rw [if_neg (by omega), if_neg (by omega), if_pos (by omega)])⟩) dX11_paste_65
        · have h219 := ib_eq k43
          have b220 : Bd r42 (0) (0) := ⟨(b42).1, ((rf_eq b42 (by decide : Bd 0 (0) (0)) h219).1).2⟩
          refine lv_bipush (v := (-6)) hx hb dX11_paste_39 (by decide) ?_
          exact xri E hr hlk hQ (⟨hI, o_refl, (ib_wk (by decide : Bd (-6) (-6) (-6)) (by decide) (by decide)), (by have h1 := u16_0; unfold InP at h1; have h2 := u24_0; unfold InP at h2; have h3 := u35_0; unfold HrP at h3; have h4 := u42_0; unfold HrP at h4; unfold ansPa; rw [if_neg (by omega), if_pos (by omega)])⟩) dX11_paste_41
    · have h221 := ib_eq k25
      have b222 : Bd r24 (0) (0) := ⟨(b24).1, ((rf_eq b24 (by decide : Bd 0 (0) (0)) h221).1).2⟩
      clear g24_0
      refine lv_bipush (v := (-2)) hx hb dX11_paste_14 (by decide) ?_
      exact xri E hr hlk hQ (⟨hI, o_refl, (ib_wk (by decide : Bd (-2) (-2) (-2)) (by decide) (by decide)), (by have h1 := u16_0; unfold InP at h1; have h2 := u24_0; unfold InP at h2; unfold ansPa; rw [if_pos (by omega)])⟩) dX11_paste_16
set_option maxHeartbeats 4000000 in
set_option maxRecDepth 100000 in
theorem gX11_putNumber_0 (l : Launch) (g : GG) (ad : Nat → Nat) (hD : Dj ad 122) (S : SS) (hI : InvX g ad S) (a1 : Int32) : Met l yX11_putNumber (wG (.code yX11_putNumber cX11_putNumber 3 none)) (Rm 0) (XPre g ad 122 S [.ref (ad 0), .int a1]) (va_Qv (fun S' => InvX g ad S' ∧ (∀ j, j ∉ ([0, 1] : List Nat) → S' j = S j)) (QB g ad 122) (FA ad 122)) 0 0 (FA ad 122) := by
  refine xmet cX11_putNumber "EbbWreck" (by decide) rfl (Nat.le_of_ble_eq_true rfl) (fun p e s m below meth c E hr hlk hml hQ ls hl => ?_)
  have hx := E.1
  have hb := E.2.1
  have hs : Sp ad 122 (FA ad 122) := Sp.fa hD
  have hl : lv_has ls 3 [(0, .ref (ad 0)), (1, .int a1)] := hl
  refine lv_bipush (v := 24) hx hb dX11_putNumber_0 (by decide) ?_
  refine lv_istore_n (lv' := [(2, .int 24), (0, .ref (ad 0)), (1, .int a1)]) hx hb dX11_putNumber_2 rfl hl (by decide) rfl (fun ls hl => ?_)
  obtain ⟨v1, v3, v4, c5, b2⟩ := invX_0 hI
  have c5 : S 0 = .inr (11, [.ref (ad 1), .int v1, .int v3, .int v4, .ref (ad 2), .ref (ad 20), .ref (ad 38), .ref (ad 93), .ref (ad 94), .ref (ad 95), .ref (ad 102), .ref (ad 104), .ref (ad 107), .ref (ad 111), .ref (ad 119)]) := c5
  have loop3 : ∀ (n : Nat) (S_3 : SS) (H : Heap) (locs : List Loc) (ls : Array Slot) (x3_2 : Int32) (y3_0_1 : Int32) (y3_0_2 : Int32) (y3_0_3 : Int32), Bd x3_2 (-20) (24) → Bd y3_0_1 (0) (1200) → x3_2.toInt + 20 < ((n : Nat) : Int) → InvX g ad S_3 → (∀ j, j ∉ ([0, 1] : List Nat) → S_3 j = S j) → S_3 0 = .inr (11, [.ref (ad 1), .int y3_0_1, .int y3_0_2, .int y3_0_3, .ref (ad 2), .ref (ad 20), .ref (ad 38), .ref (ad 93), .ref (ad 94), .ref (ad 95), .ref (ad 102), .ref (ad 104), .ref (ad 107), .ref (ad 111), .ref (ad 119)]) → Hp g ad 122 S_3 (FA ad 122) s.heap H locs → lv_has ls 3 [(2, .int x3_2), (0, .ref (ad 0)), (1, .int a1)] → W p l e (Rm 0) s m [.ref (ad 0), .int a1].toArray below meth c H locs 0 0 (MQ below (va_Qv (fun S' => InvX g ad S' ∧ (∀ j, j ∉ ([0, 1] : List Nat) → S' j = S j)) (QB g ad 122) (FA ad 122)) [.ref (ad 0), .int a1].toArray s 0 0 (FA ad 122)) (F0 m 3 ls []) := by
    intro n
    induction n with
    | zero => intro S_3 H locs ls x3_2 y3_0_1 y3_0_2 y3_0_3 Bx3_2 By3_0_1 hn3_ hI hf3 cl3_0 hQ hl; exfalso; have := (Bx3_2).1; omega
    | succ n3_ ih3 =>
      intro S_3 H locs ls x3_2 y3_0_1 y3_0_2 y3_0_3 Bx3_2 By3_0_1 hn3_ hI hf3 cl3_0 hQ hl
      refine lv_iload_n hx hb dX11_putNumber_3 rfl (lv_at hl 0 rfl) ?_
      refine lv_if_lt (tgt := 46) hx hb dX11_putNumber_4 (by decide) (fun k6 => ?_) (fun k6 => ?_)
      · have h7 := ib_lt k6
        have b8 : Bd x3_2 (-20) (-1) := ⟨(Bx3_2).1, ((rf_lt Bx3_2 (by decide : Bd 0 (0) (0)) h7).1).2⟩
        exact xrv E hr hlk hQ (⟨hI, (o_trans o_refl hf3 (by decide))⟩) dX11_putNumber_46
      · have h9 := ib_nlt k6
        have b10 : Bd x3_2 (0) (24) := ⟨((rf_le (by decide : Bd 0 (0) (0)) Bx3_2 h9).2).1, (Bx3_2).2⟩
        refine lv_aload_n hx hb dX11_putNumber_7 rfl (lv_at hl 1 rfl) ?_
        refine xget E hQ 0 (by decide) cl3_0 rfl 1 (by decide) q517 rfl dX11_putNumber_8 ?_
        refine lv_sipush (v := 1200) hx hb dX11_putNumber_11 (by decide) ?_
        refine lv_icmp_ge (tgt := 40) hx hb dX11_putNumber_14 (by decide) (fun k11 => ?_) (fun k11 => ?_)
        · have h12 := ib_le k11
          have b13 : Bd y3_0_1 (1200) (1200) := ⟨((rf_le (by decide : Bd 1200 (1200) (1200)) By3_0_1 h12).2).1, (By3_0_1).2⟩
          obtain ⟨z14, e15⟩ : ∃ z : Int32, z = x3_2 + (-8) := ⟨_, rfl⟩
          have t16 := ib_add e15 b10 (by decide : Bd (-8) (-8) (-8)) (by decide) (by decide)
          have b17 : Bd z14 (-8) (16) := ib_addb t16 b10 (by decide : Bd (-8) (-8) (-8))
          have t16 : z14.toInt = x3_2.toInt + (-8) := fold_add t16 rfl (by decide)
          refine lv_iinc (v := z14) (lv' := [(2, .int z14), (0, .ref (ad 0)), (1, .int a1)]) hx hb dX11_putNumber_40 hl (k := 0) rfl (by rw [e15]; rfl) (by decide) rfl (fun ls hl => ?_)
          refine lv_goto (tgt := 3) hx hb dX11_putNumber_43 (by decide) ?_
          exact ih3 _ _ _ _ z14 y3_0_1 y3_0_2 y3_0_3 (ib_wk b17 (by decide) (by decide)) (ib_wk b13 (by decide) (by decide)) (by omega) hI hf3 cl3_0 hQ (lv_sub hl [0, 1, 2] rfl)
        · have h18 := ib_nle k11
          have b19 : Bd y3_0_1 (0) (1199) := ⟨(By3_0_1).1, ((rf_lt By3_0_1 (by decide : Bd 1200 (1200) (1200)) h18).1).2⟩
          refine lv_aload_n hx hb dX11_putNumber_17 rfl (lv_at hl 1 rfl) ?_
          refine xget E hQ 0 (by decide) cl3_0 rfl 0 (by decide) q516 rfl dX11_putNumber_18 ?_
          refine lv_aload_n hx hb dX11_putNumber_21 rfl (lv_at hl 1 rfl) ?_
          refine xget E hQ 0 (by decide) cl3_0 rfl 1 (by decide) q517 rfl dX11_putNumber_22 ?_
          refine lv_iload_n hx hb dX11_putNumber_25 rfl (lv_at hl 2 rfl) ?_
          refine lv_iload_n hx hb dX11_putNumber_26 rfl (lv_at hl 0 rfl) ?_
          refine lv_ishr hx hb dX11_putNumber_27 ?_
          refine lv_topi (fun z20 e21 => ?_)
          refine lv_i2b hx hb dX11_putNumber_28 rfl ?_
          refine lv_topi (fun z22 e23 => ?_)
          have b24 : Bd z22 (-128) (127) := (by rw [e23]; exact ib_byte _)
          obtain ⟨f25, c26, b27⟩ := invX_1 hI
          refine xbast E hs hQ 1 (by decide) c26 (ib_in b19 (by decide) (by decide)) dX11_putNumber_29 (fun H locs S28 eS28 hQ => ?_)
          have hI := invX_up_1 hI eS28 ⟨_, rfl, upd_b b27 (nar_b _)⟩
          have b30 : ∀ j, Bd ((upd f25 (y3_0_1 : Int32).toNatClampNeg (vp_nar .byte z22)) j) (-128) (127) := upd_b b27 (nar_b _)
          have c29 : S28 1 = .inl (g.2 1, 1200, .inl (upd f25 (y3_0_1 : Int32).toNatClampNeg (vp_nar .byte z22))) := up_at eS28 rfl
          refine lv_aload_n hx hb dX11_putNumber_30 rfl (lv_at hl 1 rfl) ?_
          refine lv_dup hx hb dX11_putNumber_31 rfl ?_
          have c31 : S28 0 = .inr (11, [.ref (ad 1), .int y3_0_1, .int y3_0_2, .int y3_0_3, .ref (ad 2), .ref (ad 20), .ref (ad 38), .ref (ad 93), .ref (ad 94), .ref (ad 95), .ref (ad 102), .ref (ad 104), .ref (ad 107), .ref (ad 111), .ref (ad 119)]) := (up_ne eS28 (by decide) cl3_0)
          refine xget E hQ 0 (by decide) c31 rfl 1 (by decide) q517 rfl dX11_putNumber_32 ?_
          refine lv_iconst (v := 1) hx hb dX11_putNumber_35 (by decide) ?_
          refine lv_iadd hx hb dX11_putNumber_36 ?_
          refine lv_topi (fun z32 e33 => ?_)
          have t34 := ib_add e33 b19 (by decide : Bd 1 (1) (1)) (by decide) (by decide)
          have b35 : Bd z32 (1) (1200) := ib_addb t34 b19 (by decide : Bd 1 (1) (1))
          have t34 : z32.toInt = y3_0_1.toInt + 1 := fold_add t34 rfl (by decide)
          refine xputi E hs hQ 0 (by decide) c31 rfl 1 (by decide) q517 rfl rfl (Nat.le_of_ble_eq_true rfl) dX11_putNumber_37 (fun H locs S36 eS36 hQ => ?_)
          have hI := invX_up_0 hI eS36 ⟨z32, y3_0_2, y3_0_3, rfl, (ib_wk b35 (by decide) (by decide))⟩
          have c37 : S36 0 = .inr (11, [.ref (ad 1), .int z32, .int y3_0_2, .int y3_0_3, .ref (ad 2), .ref (ad 20), .ref (ad 38), .ref (ad 93), .ref (ad 94), .ref (ad 95), .ref (ad 102), .ref (ad 104), .ref (ad 107), .ref (ad 111), .ref (ad 119)]) := up_at eS36 rfl
          obtain ⟨z38, e39⟩ : ∃ z : Int32, z = x3_2 + (-8) := ⟨_, rfl⟩
          have t40 := ib_add e39 b10 (by decide : Bd (-8) (-8) (-8)) (by decide) (by decide)
          have b41 : Bd z38 (-8) (16) := ib_addb t40 b10 (by decide : Bd (-8) (-8) (-8))
          have t40 : z38.toInt = x3_2.toInt + (-8) := fold_add t40 rfl (by decide)
          refine lv_iinc (v := z38) (lv' := [(2, .int z38), (0, .ref (ad 0)), (1, .int a1)]) hx hb dX11_putNumber_40 hl (k := 0) rfl (by rw [e39]; rfl) (by decide) rfl (fun ls hl => ?_)
          refine lv_goto (tgt := 3) hx hb dX11_putNumber_43 (by decide) ?_
          exact ih3 _ _ _ _ z38 z32 y3_0_2 y3_0_3 (ib_wk b41 (by decide) (by decide)) (ib_wk b35 (by decide) (by decide)) (by omega) hI (up_o (up_o hf3 eS28 (by decide)) eS36 (by decide)) c37 hQ (lv_sub hl [0, 1, 2] rfl)
  obtain ⟨n3, hn3⟩ := fu_n (44)
  exact loop3 n3 _ _ _ _ 24 v1 v3 v4 (ib_wk (by decide : Bd 24 (24) (24)) (by decide) (by decide)) b2 (by have : (24 : Int32).toInt = 24 := (by decide); omega) hI o_refl c5 hQ (lv_sub hl [0, 1, 2] rfl)
set_option maxHeartbeats 4000000 in
set_option maxRecDepth 100000 in
theorem gX11_feed_0 (l : Launch) (g : GG) (ad : Nat → Nat) (hD : Dj ad 122) (S : SS) (hI : InvX g ad S) (a1 : Int32) (a2 : Int32) (a3 : Int32) (a4 : Int32) (a5 : Int32) (hq1 : 0 ≤ 1201 * fld (S 2) 1 + (-1) * fld (S 2) 0) (hq2 : 0 ≤ 8 * fld (S 2) 1 + (-1) * fld (S 2) 7) (hq3 : 0 ≤ 3 * fld (S 2) 1 + (-1) * fld (S 2) 12) : Met l yX11_feed (wG (.code yX11_feed cX11_feed 6 (some .int))) (Rm 1) (XPre g ad 122 S [.ref (ad 0), .int a1, .int a2, .int a3, .int a4, .int a5]) (va_Qi (fun r S' => InvX g ad S' ∧ (∀ j, j ∉ ([0, 1] : List Nat) → S' j = S j) ∧ Bd r (-1) (1200)) (QB g ad 122) (FA ad 122)) 0 0 (FA ad 122) := by
  refine xmet cX11_feed "EbbWreck" (by decide) rfl (Nat.le_of_ble_eq_true rfl) (fun p e s m below meth c E hr hlk hml hQ ls hl => ?_)
  have hx := E.1
  have hb := E.2.1
  have hs : Sp ad 122 (FA ad 122) := Sp.fa hD
  have hl : lv_has ls 6 [(0, .ref (ad 0)), (1, .int a1), (2, .int a2), (3, .int a3), (4, .int a4), (5, .int a5)] := hl
  obtain ⟨v1, v3, v5, v6, v7, v9, c11, b2, b4, b8, b10⟩ := invX_2 hI
  have c11 : S 2 = .inr (1, [.int v1, .int v3, .int v5, .ref (ad 3), .ref (ad 5), .ref (ad 6), .int v6, .int v7, .ref (ad 7), .ref (ad 8), .ref (ad 9), .ref (ad 10), .int v9, .ref (ad 15), .ref (ad 16)]) := c11
  have q12 : fld (S 2) 1 = v3.toInt := fld_of c11 rfl
  have q13 : fld (S 2) 0 = v1.toInt := fld_of c11 rfl
  have q14 : fld (S 2) 7 = v7.toInt := fld_of c11 rfl
  have q15 : fld (S 2) 12 = v9.toInt := fld_of c11 rfl
  refine lv_aload_n hx hb dX11_feed_0 rfl (lv_at hl 0 rfl) ?_
  obtain ⟨v16, v18, v19, c20, b17⟩ := invX_0 hI
  have c20 : S 0 = .inr (11, [.ref (ad 1), .int v16, .int v18, .int v19, .ref (ad 2), .ref (ad 20), .ref (ad 38), .ref (ad 93), .ref (ad 94), .ref (ad 95), .ref (ad 102), .ref (ad 104), .ref (ad 107), .ref (ad 111), .ref (ad 119)]) := c20
  refine xget E hQ 0 (by decide) c20 rfl 1 (by decide) q517 rfl dX11_feed_1 ?_
  refine lv_bipush (v := 20) hx hb dX11_feed_4 (by decide) ?_
  refine lv_iadd hx hb dX11_feed_6 ?_
  refine lv_topi (fun z21 e22 => ?_)
  have t23 := ib_add e22 b17 (by decide : Bd 20 (20) (20)) (by decide) (by decide)
  have b24 : Bd z21 (20) (1220) := ib_addb t23 b17 (by decide : Bd 20 (20) (20))
  have t23 : z21.toInt = v16.toInt + 20 := fold_add t23 rfl (by decide)
  refine lv_sipush (v := 1200) hx hb dX11_feed_7 (by decide) ?_
  refine lv_icmp_le (tgt := 15) hx hb dX11_feed_10 (by decide) (fun k25 => ?_) (fun k25 => ?_)
  · have h26 := ib_le k25
    have b27 : Bd z21 (20) (1200) := ⟨(b24).1, ((rf_le b24 (by decide : Bd 1200 (1200) (1200)) h26).1).2⟩
    have b28 : Bd v16 (0) (1180) := ⟨by omega, by omega⟩
    refine lv_aload_n hx hb dX11_feed_15 rfl (lv_at hl 0 rfl) ?_
    refine lv_iload_n hx hb dX11_feed_16 rfl (lv_at hl 1 rfl) ?_
    refine xcVv E hs hQ hml hl.1 0 (gX11_putNumber_0 l g ad hD S hI a1) mX11_putNumber q566 (by decide) c20 rfl rfl ⟨(Nat.le_of_ble_eq_true rfl), (Nat.le_of_ble_eq_true rfl)⟩ ⟨(Nat.le_of_ble_eq_true rfl), (Nat.le_of_ble_eq_true rfl)⟩ (Nat.le_of_ble_eq_true rfl) rfl dX11_feed_17 (fun S29 H locs hp29 hQ _ => ?_)
    obtain ⟨hI, o29⟩ := hp29
    refine lv_aload_n hx hb dX11_feed_20 rfl (lv_at hl 0 rfl) ?_
    refine lv_iload_n hx hb dX11_feed_21 rfl (lv_at hl 2 rfl) ?_
    obtain ⟨v31, v33, v34, c35, b32⟩ := invX_0 hI
    have c35 : S29 0 = .inr (11, [.ref (ad 1), .int v31, .int v33, .int v34, .ref (ad 2), .ref (ad 20), .ref (ad 38), .ref (ad 93), .ref (ad 94), .ref (ad 95), .ref (ad 102), .ref (ad 104), .ref (ad 107), .ref (ad 111), .ref (ad 119)]) := c35
    refine xcVv E hs hQ hml hl.1 0 (gX11_putNumber_0 l g ad hD S29 hI a2) mX11_putNumber q566 (by decide) c35 rfl rfl ⟨(Nat.le_of_ble_eq_true rfl), (Nat.le_of_ble_eq_true rfl)⟩ ⟨(Nat.le_of_ble_eq_true rfl), (Nat.le_of_ble_eq_true rfl)⟩ (Nat.le_of_ble_eq_true rfl) rfl dX11_feed_22 (fun S30 H locs hp30 hQ _ => ?_)
    obtain ⟨hI, o30⟩ := hp30
    refine lv_aload_n hx hb dX11_feed_25 rfl (lv_at hl 0 rfl) ?_
    refine lv_iload_n hx hb dX11_feed_26 rfl (lv_at hl 3 rfl) ?_
    obtain ⟨v37, v39, v40, c41, b38⟩ := invX_0 hI
    have c41 : S30 0 = .inr (11, [.ref (ad 1), .int v37, .int v39, .int v40, .ref (ad 2), .ref (ad 20), .ref (ad 38), .ref (ad 93), .ref (ad 94), .ref (ad 95), .ref (ad 102), .ref (ad 104), .ref (ad 107), .ref (ad 111), .ref (ad 119)]) := c41
    refine xcVv E hs hQ hml hl.1 0 (gX11_putNumber_0 l g ad hD S30 hI a3) mX11_putNumber q566 (by decide) c41 rfl rfl ⟨(Nat.le_of_ble_eq_true rfl), (Nat.le_of_ble_eq_true rfl)⟩ ⟨(Nat.le_of_ble_eq_true rfl), (Nat.le_of_ble_eq_true rfl)⟩ (Nat.le_of_ble_eq_true rfl) rfl dX11_feed_27 (fun S36 H locs hp36 hQ _ => ?_)
    obtain ⟨hI, o36⟩ := hp36
    refine lv_aload_n hx hb dX11_feed_30 rfl (lv_at hl 0 rfl) ?_
    refine lv_iload hx hb dX11_feed_31 (lv_at hl 4 rfl) ?_
    obtain ⟨v43, v45, v46, c47, b44⟩ := invX_0 hI
    have c47 : S36 0 = .inr (11, [.ref (ad 1), .int v43, .int v45, .int v46, .ref (ad 2), .ref (ad 20), .ref (ad 38), .ref (ad 93), .ref (ad 94), .ref (ad 95), .ref (ad 102), .ref (ad 104), .ref (ad 107), .ref (ad 111), .ref (ad 119)]) := c47
    refine xcVv E hs hQ hml hl.1 0 (gX11_putNumber_0 l g ad hD S36 hI a4) mX11_putNumber q566 (by decide) c47 rfl rfl ⟨(Nat.le_of_ble_eq_true rfl), (Nat.le_of_ble_eq_true rfl)⟩ ⟨(Nat.le_of_ble_eq_true rfl), (Nat.le_of_ble_eq_true rfl)⟩ (Nat.le_of_ble_eq_true rfl) rfl dX11_feed_33 (fun S42 H locs hp42 hQ _ => ?_)
    obtain ⟨hI, o42⟩ := hp42
    refine lv_aload_n hx hb dX11_feed_36 rfl (lv_at hl 0 rfl) ?_
    refine lv_iload hx hb dX11_feed_37 (lv_at hl 5 rfl) ?_
    obtain ⟨v49, v51, v52, c53, b50⟩ := invX_0 hI
    have c53 : S42 0 = .inr (11, [.ref (ad 1), .int v49, .int v51, .int v52, .ref (ad 2), .ref (ad 20), .ref (ad 38), .ref (ad 93), .ref (ad 94), .ref (ad 95), .ref (ad 102), .ref (ad 104), .ref (ad 107), .ref (ad 111), .ref (ad 119)]) := c53
    refine xcVv E hs hQ hml hl.1 0 (gX11_putNumber_0 l g ad hD S42 hI a5) mX11_putNumber q566 (by decide) c53 rfl rfl ⟨(Nat.le_of_ble_eq_true rfl), (Nat.le_of_ble_eq_true rfl)⟩ ⟨(Nat.le_of_ble_eq_true rfl), (Nat.le_of_ble_eq_true rfl)⟩ (Nat.le_of_ble_eq_true rfl) rfl dX11_feed_39 (fun S48 H locs hp48 hQ _ => ?_)
    obtain ⟨hI, o48⟩ := hp48
    refine lv_aload_n hx hb dX11_feed_42 rfl (lv_at hl 0 rfl) ?_
    obtain ⟨v54, v56, v57, c58, b55⟩ := invX_0 hI
    have c58 : S48 0 = .inr (11, [.ref (ad 1), .int v54, .int v56, .int v57, .ref (ad 2), .ref (ad 20), .ref (ad 38), .ref (ad 93), .ref (ad 94), .ref (ad 95), .ref (ad 102), .ref (ad 104), .ref (ad 107), .ref (ad 111), .ref (ad 119)]) := c58
    refine xget E hQ 0 (by decide) c58 rfl 1 (by decide) q517 rfl dX11_feed_43 ?_
    exact xri E hr hlk hQ (⟨hI, (o_trans (o_trans (o_trans (o_trans (o_trans o_refl o29 (by decide)) o30 (by decide)) o36 (by decide)) o42 (by decide)) o48 (by decide)), (ib_wk b55 (by decide) (by decide))⟩) dX11_feed_46
  · have h59 := ib_nle k25
    have b60 : Bd z21 (1201) (1220) := ⟨((rf_lt (by decide : Bd 1200 (1200) (1200)) b24 h59).2).1, (b24).2⟩
    have b61 : Bd v16 (1181) (1200) := ⟨by omega, by omega⟩
    refine lv_iconst (v := (-1)) hx hb dX11_feed_13 (by decide) ?_
    exact xri E hr hlk hQ (⟨hI, o_refl, (ib_wk (by decide : Bd (-1) (-1) (-1)) (by decide) (by decide))⟩) dX11_feed_14
set_option maxHeartbeats 4000000 in
set_option maxRecDepth 100000 in
theorem gX11_count_0 (l : Launch) (g : GG) (ad : Nat → Nat) (hD : Dj ad 122) (S : SS) (hI : InvX g ad S) (a1 : Int32) (hq1 : 0 ≤ 1201 * fld (S 2) 1 + (-1) * fld (S 2) 0) (hq2 : 0 ≤ 8 * fld (S 2) 1 + (-1) * fld (S 2) 7) (hq3 : 0 ≤ 3 * fld (S 2) 1 + (-1) * fld (S 2) 12) : Met l yX11_count (wG (.code yX11_count cX11_count 2 (some .int))) (Rm 2) (XPre g ad 122 S [.ref (ad 0), .int a1]) (va_Qi (fun _ S' => S = S') (QB g ad 122) (FA ad 122)) 0 0 (FA ad 122) := by
  refine xmet cX11_count "EbbWreck" (by decide) rfl (Nat.le_of_ble_eq_true rfl) (fun p e s m below meth c E hr hlk hml hQ ls hl => ?_)
  have hx := E.1
  have hb := E.2.1
  have hs : Sp ad 122 (FA ad 122) := Sp.fa hD
  have hl : lv_has ls 2 [(0, .ref (ad 0)), (1, .int a1)] := hl
  obtain ⟨v1, v3, v5, v6, v7, v9, c11, b2, b4, b8, b10⟩ := invX_2 hI
  have c11 : S 2 = .inr (1, [.int v1, .int v3, .int v5, .ref (ad 3), .ref (ad 5), .ref (ad 6), .int v6, .int v7, .ref (ad 7), .ref (ad 8), .ref (ad 9), .ref (ad 10), .int v9, .ref (ad 15), .ref (ad 16)]) := c11
  have q12 : fld (S 2) 1 = v3.toInt := fld_of c11 rfl
  have q13 : fld (S 2) 0 = v1.toInt := fld_of c11 rfl
  have q14 : fld (S 2) 7 = v7.toInt := fld_of c11 rfl
  have q15 : fld (S 2) 12 = v9.toInt := fld_of c11 rfl
  refine lv_iload_n hx hb dX11_count_0 rfl (lv_at hl 1 rfl) ?_
  rcases pk_ix a1 (n := 13) (by decide) with h16 | h16 | ⟨jh16, hjh16, h16⟩
  · refine lv_tableOut (tgt := 187) hx hb dX11_count_1 (Or.inl (by have := tlt0 h16; omega)) (by decide) ?_
    have b17 : Bd a1 (-2147483648) (-1) := ⟨((ib_full a1)).1, by have := tlt0 h16; omega⟩
    refine lv_iconst (v := (-1)) hx hb dX11_count_187 (by decide) ?_
    exact xri E hr hlk hQ (rfl) dX11_count_188
  · refine lv_tableOut (tgt := 187) hx hb dX11_count_1 (Or.inr (by have := tge h16 (by decide); omega)) (by decide) ?_
    have b18 : Bd a1 (13) (2147483647) := ⟨by have := tge h16 (by decide); omega, ((ib_full a1)).2⟩
    refine lv_iconst (v := (-1)) hx hb dX11_count_187 (by decide) ?_
    exact xri E hr hlk hQ (rfl) dX11_count_188
  · rcases (show jh16 = 0 ∨ jh16 = 1 ∨ jh16 = 2 ∨ jh16 = 3 ∨ jh16 = 4 ∨ jh16 = 5 ∨ jh16 = 6 ∨ jh16 = 7 ∨ jh16 = 8 ∨ jh16 = 9 ∨ jh16 = 10 ∨ jh16 = 11 ∨ jh16 = 12 by omega) with rfl | rfl | rfl | rfl | rfl | rfl | rfl | rfl | rfl | rfl | rfl | rfl | rfl
    · refine lv_tableIn (off := 67) (tgt := 68) hx hb dX11_count_1 (by rw [h16]; decide) (by rw [h16]; decide) (by rw [h16]; rfl) (by decide) ?_
      have b19 : Bd a1 (0) (0) := (by rw [h16]; decide)
      refine lv_aload_n hx hb dX11_count_68 rfl (lv_at hl 0 rfl) ?_
      obtain ⟨v20, v22, v23, c24, b21⟩ := invX_0 hI
      have c24 : S 0 = .inr (11, [.ref (ad 1), .int v20, .int v22, .int v23, .ref (ad 2), .ref (ad 20), .ref (ad 38), .ref (ad 93), .ref (ad 94), .ref (ad 95), .ref (ad 102), .ref (ad 104), .ref (ad 107), .ref (ad 111), .ref (ad 119)]) := c24
      refine xget E hQ 0 (by decide) c24 rfl 4 (by decide) q520 rfl dX11_count_69 ?_
      refine xget E hQ 2 (by decide) c11 rfl 1 (by decide) q244 rfl dX11_count_72 ?_
      exact xri E hr hlk hQ (rfl) dX11_count_75
    · refine lv_tableIn (off := 75) (tgt := 76) hx hb dX11_count_1 (by rw [h16]; decide) (by rw [h16]; decide) (by rw [h16]; rfl) (by decide) ?_
      have b25 : Bd a1 (1) (1) := (by rw [h16]; decide)
      refine lv_aload_n hx hb dX11_count_76 rfl (lv_at hl 0 rfl) ?_
      obtain ⟨v26, v28, v29, c30, b27⟩ := invX_0 hI
      have c30 : S 0 = .inr (11, [.ref (ad 1), .int v26, .int v28, .int v29, .ref (ad 2), .ref (ad 20), .ref (ad 38), .ref (ad 93), .ref (ad 94), .ref (ad 95), .ref (ad 102), .ref (ad 104), .ref (ad 107), .ref (ad 111), .ref (ad 119)]) := c30
      refine xget E hQ 0 (by decide) c30 rfl 4 (by decide) q520 rfl dX11_count_77 ?_
      refine xget E hQ 2 (by decide) c11 rfl 3 (by decide) q254 rfl dX11_count_80 ?_
      obtain ⟨v31, v33, v35, v37, c39, b32, b34, b36, b38⟩ := invX_3 hI
      have c39 : S 3 = .inr (10, [.int v31, .int v33, .int v35, .int v37, .ref (ad 4)]) := c39
      refine xget E hQ 3 (by decide) c39 rfl 0 (by decide) q157 rfl dX11_count_83 ?_
      exact xri E hr hlk hQ (rfl) dX11_count_86
    · refine lv_tableIn (off := 86) (tgt := 87) hx hb dX11_count_1 (by rw [h16]; decide) (by rw [h16]; decide) (by rw [h16]; rfl) (by decide) ?_
      have b40 : Bd a1 (2) (2) := (by rw [h16]; decide)
      refine lv_aload_n hx hb dX11_count_87 rfl (lv_at hl 0 rfl) ?_
      obtain ⟨v41, v43, v44, c45, b42⟩ := invX_0 hI
      have c45 : S 0 = .inr (11, [.ref (ad 1), .int v41, .int v43, .int v44, .ref (ad 2), .ref (ad 20), .ref (ad 38), .ref (ad 93), .ref (ad 94), .ref (ad 95), .ref (ad 102), .ref (ad 104), .ref (ad 107), .ref (ad 111), .ref (ad 119)]) := c45
      refine xget E hQ 0 (by decide) c45 rfl 4 (by decide) q520 rfl dX11_count_88 ?_
      refine xget E hQ 2 (by decide) c11 rfl 3 (by decide) q254 rfl dX11_count_91 ?_
      obtain ⟨v46, v48, v50, v52, c54, b47, b49, b51, b53⟩ := invX_3 hI
      have c54 : S 3 = .inr (10, [.int v46, .int v48, .int v50, .int v52, .ref (ad 4)]) := c54
      refine xget E hQ 3 (by decide) c54 rfl 1 (by decide) q160 rfl dX11_count_94 ?_
      exact xri E hr hlk hQ (rfl) dX11_count_97
    · refine lv_tableIn (off := 97) (tgt := 98) hx hb dX11_count_1 (by rw [h16]; decide) (by rw [h16]; decide) (by rw [h16]; rfl) (by decide) ?_
      have b55 : Bd a1 (3) (3) := (by rw [h16]; decide)
      refine lv_aload_n hx hb dX11_count_98 rfl (lv_at hl 0 rfl) ?_
      obtain ⟨v56, v58, v59, c60, b57⟩ := invX_0 hI
      have c60 : S 0 = .inr (11, [.ref (ad 1), .int v56, .int v58, .int v59, .ref (ad 2), .ref (ad 20), .ref (ad 38), .ref (ad 93), .ref (ad 94), .ref (ad 95), .ref (ad 102), .ref (ad 104), .ref (ad 107), .ref (ad 111), .ref (ad 119)]) := c60
      refine xget E hQ 0 (by decide) c60 rfl 4 (by decide) q520 rfl dX11_count_99 ?_
      refine xget E hQ 2 (by decide) c11 rfl 3 (by decide) q254 rfl dX11_count_102 ?_
      obtain ⟨v61, v63, v65, v67, c69, b62, b64, b66, b68⟩ := invX_3 hI
      have c69 : S 3 = .inr (10, [.int v61, .int v63, .int v65, .int v67, .ref (ad 4)]) := c69
      refine xget E hQ 3 (by decide) c69 rfl 2 (by decide) q163 rfl dX11_count_105 ?_
      exact xri E hr hlk hQ (rfl) dX11_count_108
    · refine lv_tableIn (off := 108) (tgt := 109) hx hb dX11_count_1 (by rw [h16]; decide) (by rw [h16]; decide) (by rw [h16]; rfl) (by decide) ?_
      have b70 : Bd a1 (4) (4) := (by rw [h16]; decide)
      refine lv_aload_n hx hb dX11_count_109 rfl (lv_at hl 0 rfl) ?_
      obtain ⟨v71, v73, v74, c75, b72⟩ := invX_0 hI
      have c75 : S 0 = .inr (11, [.ref (ad 1), .int v71, .int v73, .int v74, .ref (ad 2), .ref (ad 20), .ref (ad 38), .ref (ad 93), .ref (ad 94), .ref (ad 95), .ref (ad 102), .ref (ad 104), .ref (ad 107), .ref (ad 111), .ref (ad 119)]) := c75
      refine xget E hQ 0 (by decide) c75 rfl 4 (by decide) q520 rfl dX11_count_110 ?_
      refine xget E hQ 2 (by decide) c11 rfl 2 (by decide) q249 rfl dX11_count_113 ?_
      exact xri E hr hlk hQ (rfl) dX11_count_116
    · refine lv_tableIn (off := 116) (tgt := 117) hx hb dX11_count_1 (by rw [h16]; decide) (by rw [h16]; decide) (by rw [h16]; rfl) (by decide) ?_
      have b76 : Bd a1 (5) (5) := (by rw [h16]; decide)
      refine lv_aload_n hx hb dX11_count_117 rfl (lv_at hl 0 rfl) ?_
      obtain ⟨v77, v79, v80, c81, b78⟩ := invX_0 hI
      have c81 : S 0 = .inr (11, [.ref (ad 1), .int v77, .int v79, .int v80, .ref (ad 2), .ref (ad 20), .ref (ad 38), .ref (ad 93), .ref (ad 94), .ref (ad 95), .ref (ad 102), .ref (ad 104), .ref (ad 107), .ref (ad 111), .ref (ad 119)]) := c81
      refine xget E hQ 0 (by decide) c81 rfl 4 (by decide) q520 rfl dX11_count_118 ?_
      refine xget E hQ 2 (by decide) c11 rfl 6 (by decide) q266 rfl dX11_count_121 ?_
      refine xcSi E hs hQ hml hl.1 (gJ6_bitCount_0f7a4 l g ad hD S hI v6) mJ6_bitCount_0f7a4 q856 rfl ⟨(Nat.le_of_ble_eq_true rfl), (Nat.le_of_ble_eq_true rfl)⟩ ⟨(Nat.le_of_ble_eq_true rfl), (Nat.le_of_ble_eq_true rfl)⟩ (Nat.le_of_ble_eq_true rfl) rfl dX11_count_124 (fun r82 S82 H locs hp82 hQ => ?_)
      obtain ⟨rfl, b82⟩ := hp82
      exact xri E hr hlk hQ (rfl) dX11_count_127
    · refine lv_tableIn (off := 127) (tgt := 128) hx hb dX11_count_1 (by rw [h16]; decide) (by rw [h16]; decide) (by rw [h16]; rfl) (by decide) ?_
      have b83 : Bd a1 (6) (6) := (by rw [h16]; decide)
      refine lv_aload_n hx hb dX11_count_128 rfl (lv_at hl 0 rfl) ?_
      obtain ⟨v84, v86, v87, c88, b85⟩ := invX_0 hI
      have c88 : S 0 = .inr (11, [.ref (ad 1), .int v84, .int v86, .int v87, .ref (ad 2), .ref (ad 20), .ref (ad 38), .ref (ad 93), .ref (ad 94), .ref (ad 95), .ref (ad 102), .ref (ad 104), .ref (ad 107), .ref (ad 111), .ref (ad 119)]) := c88
      refine xget E hQ 0 (by decide) c88 rfl 4 (by decide) q520 rfl dX11_count_129 ?_
      refine xget E hQ 2 (by decide) c11 rfl 7 (by decide) q272 rfl dX11_count_132 ?_
      exact xri E hr hlk hQ (rfl) dX11_count_135
    · refine lv_tableIn (off := 135) (tgt := 136) hx hb dX11_count_1 (by rw [h16]; decide) (by rw [h16]; decide) (by rw [h16]; rfl) (by decide) ?_
      have b89 : Bd a1 (7) (7) := (by rw [h16]; decide)
      refine lv_aload_n hx hb dX11_count_136 rfl (lv_at hl 0 rfl) ?_
      obtain ⟨v90, v92, v93, c94, b91⟩ := invX_0 hI
      have c94 : S 0 = .inr (11, [.ref (ad 1), .int v90, .int v92, .int v93, .ref (ad 2), .ref (ad 20), .ref (ad 38), .ref (ad 93), .ref (ad 94), .ref (ad 95), .ref (ad 102), .ref (ad 104), .ref (ad 107), .ref (ad 111), .ref (ad 119)]) := c94
      refine xget E hQ 0 (by decide) c94 rfl 4 (by decide) q520 rfl dX11_count_137 ?_
      refine xget E hQ 2 (by decide) c11 rfl 11 (by decide) q290 rfl dX11_count_140 ?_
      obtain ⟨v95, c97, b96⟩ := invX_10 hI
      have c97 : S 10 = .inr (6, [.int v95, .ref (ad 11), .ref (ad 12), .ref (ad 13), .ref (ad 14)]) := c97
      refine xget E hQ 10 (by decide) c97 rfl 0 (by decide) q188 rfl dX11_count_143 ?_
      exact xri E hr hlk hQ (rfl) dX11_count_146
    · refine lv_tableIn (off := 146) (tgt := 147) hx hb dX11_count_1 (by rw [h16]; decide) (by rw [h16]; decide) (by rw [h16]; rfl) (by decide) ?_
      have b98 : Bd a1 (8) (8) := (by rw [h16]; decide)
      refine lv_aload_n hx hb dX11_count_147 rfl (lv_at hl 0 rfl) ?_
      obtain ⟨v99, v101, v102, c103, b100⟩ := invX_0 hI
      have c103 : S 0 = .inr (11, [.ref (ad 1), .int v99, .int v101, .int v102, .ref (ad 2), .ref (ad 20), .ref (ad 38), .ref (ad 93), .ref (ad 94), .ref (ad 95), .ref (ad 102), .ref (ad 104), .ref (ad 107), .ref (ad 111), .ref (ad 119)]) := c103
      refine xget E hQ 0 (by decide) c103 rfl 4 (by decide) q520 rfl dX11_count_148 ?_
      refine xget E hQ 2 (by decide) c11 rfl 12 (by decide) q295 rfl dX11_count_151 ?_
      exact xri E hr hlk hQ (rfl) dX11_count_154
    · refine lv_tableIn (off := 154) (tgt := 155) hx hb dX11_count_1 (by rw [h16]; decide) (by rw [h16]; decide) (by rw [h16]; rfl) (by decide) ?_
      have b104 : Bd a1 (9) (9) := (by rw [h16]; decide)
      refine lv_aload_n hx hb dX11_count_155 rfl (lv_at hl 0 rfl) ?_
      obtain ⟨v105, v107, v108, c109, b106⟩ := invX_0 hI
      have c109 : S 0 = .inr (11, [.ref (ad 1), .int v105, .int v107, .int v108, .ref (ad 2), .ref (ad 20), .ref (ad 38), .ref (ad 93), .ref (ad 94), .ref (ad 95), .ref (ad 102), .ref (ad 104), .ref (ad 107), .ref (ad 111), .ref (ad 119)]) := c109
      refine xget E hQ 0 (by decide) c109 rfl 4 (by decide) q520 rfl dX11_count_156 ?_
      refine xget E hQ 2 (by decide) c11 rfl 14 (by decide) q303 rfl dX11_count_159 ?_
      obtain ⟨v110, c112, b111⟩ := invX_16 hI
      have c112 : S 16 = .inr (0, [.int v110, .ref (ad 17), .ref (ad 18), .ref (ad 19)]) := c112
      refine xget E hQ 16 (by decide) c112 rfl 0 (by decide) q218 rfl dX11_count_162 ?_
      exact xri E hr hlk hQ (rfl) dX11_count_165
    · refine lv_tableIn (off := 165) (tgt := 166) hx hb dX11_count_1 (by rw [h16]; decide) (by rw [h16]; decide) (by rw [h16]; rfl) (by decide) ?_
      have b113 : Bd a1 (10) (10) := (by rw [h16]; decide)
      refine lv_aload_n hx hb dX11_count_166 rfl (lv_at hl 0 rfl) ?_
      obtain ⟨v114, v116, v117, c118, b115⟩ := invX_0 hI
      have c118 : S 0 = .inr (11, [.ref (ad 1), .int v114, .int v116, .int v117, .ref (ad 2), .ref (ad 20), .ref (ad 38), .ref (ad 93), .ref (ad 94), .ref (ad 95), .ref (ad 102), .ref (ad 104), .ref (ad 107), .ref (ad 111), .ref (ad 119)]) := c118
      refine xget E hQ 0 (by decide) c118 rfl 4 (by decide) q520 rfl dX11_count_167 ?_
      refine xget E hQ 2 (by decide) c11 rfl 0 (by decide) q238 rfl dX11_count_170 ?_
      exact xri E hr hlk hQ (rfl) dX11_count_173
    · refine lv_tableIn (off := 173) (tgt := 174) hx hb dX11_count_1 (by rw [h16]; decide) (by rw [h16]; decide) (by rw [h16]; rfl) (by decide) ?_
      have b119 : Bd a1 (11) (11) := (by rw [h16]; decide)
      refine lv_aload_n hx hb dX11_count_174 rfl (lv_at hl 0 rfl) ?_
      obtain ⟨v120, v122, v123, c124, b121⟩ := invX_0 hI
      have c124 : S 0 = .inr (11, [.ref (ad 1), .int v120, .int v122, .int v123, .ref (ad 2), .ref (ad 20), .ref (ad 38), .ref (ad 93), .ref (ad 94), .ref (ad 95), .ref (ad 102), .ref (ad 104), .ref (ad 107), .ref (ad 111), .ref (ad 119)]) := c124
      refine xget E hQ 0 (by decide) c124 rfl 1 (by decide) q517 rfl dX11_count_175 ?_
      exact xri E hr hlk hQ (rfl) dX11_count_178
    · refine lv_tableIn (off := 178) (tgt := 179) hx hb dX11_count_1 (by rw [h16]; decide) (by rw [h16]; decide) (by rw [h16]; rfl) (by decide) ?_
      have b125 : Bd a1 (12) (12) := (by rw [h16]; decide)
      refine lv_aload_n hx hb dX11_count_179 rfl (lv_at hl 0 rfl) ?_
      obtain ⟨v126, v128, v129, c130, b127⟩ := invX_0 hI
      have c130 : S 0 = .inr (11, [.ref (ad 1), .int v126, .int v128, .int v129, .ref (ad 2), .ref (ad 20), .ref (ad 38), .ref (ad 93), .ref (ad 94), .ref (ad 95), .ref (ad 102), .ref (ad 104), .ref (ad 107), .ref (ad 111), .ref (ad 119)]) := c130
      refine xget E hQ 0 (by decide) c130 rfl 13 (by decide) q529 rfl dX11_count_180 ?_
      have c132 := invX_111 hI
      have c132 : S 111 = .inr (8, [.ref (ad 112), .ref (ad 117), .ref (ad 118)]) := c132
      refine xcVi E hs hQ hml hl.1 111 (gX8_filled_111 l g ad hD S hI ) mX8_filled q862 (by decide) c132 rfl rfl ⟨(Nat.le_of_ble_eq_true rfl), (Nat.le_of_ble_eq_true rfl)⟩ ⟨(Nat.le_of_ble_eq_true rfl), (Nat.le_of_ble_eq_true rfl)⟩ (Nat.le_of_ble_eq_true rfl) rfl dX11_count_183 (fun r131 S131 H locs hp131 hQ _ => ?_)
      subst hp131
      exact xri E hr hlk hQ (rfl) dX11_count_186
set_option maxHeartbeats 4000000 in
set_option maxRecDepth 100000 in
theorem gX11_rate_0 (l : Launch) (g : GG) (ad : Nat → Nat) (hD : Dj ad 122) (S : SS) (hI : InvX g ad S) (a1 : Int32) (a2 : Int32) (hq1 : 0 ≤ 1201 * fld (S 2) 1 + (-1) * fld (S 2) 0) (hq2 : 0 ≤ 8 * fld (S 2) 1 + (-1) * fld (S 2) 7) (hq3 : 0 ≤ 3 * fld (S 2) 1 + (-1) * fld (S 2) 12) : Met l yX11_rate (wG (.code yX11_rate cX11_rate 4 (some .int))) (Rm 1) (XPre g ad 122 S [.ref (ad 0), .int a1, .int a2]) (va_Qi (fun _ S' => InvX g ad S' ∧ (∀ j, j ∉ ([7] : List Nat) → S' j = S j)) (QB g ad 122) (FA ad 122)) 0 0 (FA ad 122) := by
  refine xmet cX11_rate "EbbWreck" (by decide) rfl (Nat.le_of_ble_eq_true rfl) (fun p e s m below meth c E hr hlk hml hQ ls hl => ?_)
  have hx := E.1
  have hb := E.2.1
  have hs : Sp ad 122 (FA ad 122) := Sp.fa hD
  have hl : lv_has ls 4 [(0, .ref (ad 0)), (1, .int a1), (2, .int a2)] := hl
  obtain ⟨v1, v3, v5, v6, v7, v9, c11, b2, b4, b8, b10⟩ := invX_2 hI
  have c11 : S 2 = .inr (1, [.int v1, .int v3, .int v5, .ref (ad 3), .ref (ad 5), .ref (ad 6), .int v6, .int v7, .ref (ad 7), .ref (ad 8), .ref (ad 9), .ref (ad 10), .int v9, .ref (ad 15), .ref (ad 16)]) := c11
  have q12 : fld (S 2) 1 = v3.toInt := fld_of c11 rfl
  have q13 : fld (S 2) 0 = v1.toInt := fld_of c11 rfl
  have q14 : fld (S 2) 7 = v7.toInt := fld_of c11 rfl
  have q15 : fld (S 2) 12 = v9.toInt := fld_of c11 rfl
  refine lv_aload_n hx hb dX11_rate_0 rfl (lv_at hl 0 rfl) ?_
  obtain ⟨v16, v18, v19, c20, b17⟩ := invX_0 hI
  have c20 : S 0 = .inr (11, [.ref (ad 1), .int v16, .int v18, .int v19, .ref (ad 2), .ref (ad 20), .ref (ad 38), .ref (ad 93), .ref (ad 94), .ref (ad 95), .ref (ad 102), .ref (ad 104), .ref (ad 107), .ref (ad 111), .ref (ad 119)]) := c20
  refine xget E hQ 0 (by decide) c20 rfl 4 (by decide) q520 rfl dX11_rate_1 ?_
  refine lv_iload_n hx hb dX11_rate_4 rfl (lv_at hl 1 rfl) ?_
  refine xcVi E hs hQ hml hl.1 2 (gX1_hasThing_2 l g ad hD S hI a1) mX1_hasThing q832 (by decide) c11 rfl rfl ⟨(Nat.le_of_ble_eq_true rfl), (Nat.le_of_ble_eq_true rfl)⟩ ⟨(Nat.le_of_ble_eq_true rfl), (Nat.le_of_ble_eq_true rfl)⟩ (Nat.le_of_ble_eq_true rfl) rfl dX11_rate_5 (fun r21 S21 H locs hp21 hQ _ => ?_)
  obtain ⟨rfl, b21, g21_0⟩ := hp21
  refine lv_if_eq (tgt := 21) hx hb dX11_rate_8 (by decide) (fun k22 => ?_) (fun k22 => ?_)
  · have h23 := ib_eq k22
    have b24 : Bd r21 (0) (0) := ⟨(b21).1, ((rf_eq b21 (by decide : Bd 0 (0) (0)) h23).1).2⟩
    clear g21_0
    refine lv_bipush (v := (-2)) hx hb dX11_rate_21 (by decide) ?_
    exact xri E hr hlk hQ (⟨hI, o_refl⟩) dX11_rate_23
  · have h25 := ib_ne k22
    have b26 : Bd r21 (1) (1) := rf_nlo b21 (by decide : Bd 0 (0) (0)) h25
    have g27 := g21_0.resolve_left (by omega)
    clear g21_0
    have b28 : Bd a1 (0) (7) := ⟨by omega, by omega⟩
    have b29 : Bd v7 (1) (8) := ⟨by omega, by omega⟩
    refine lv_iload_n hx hb dX11_rate_11 rfl (lv_at hl 2 rfl) ?_
    refine lv_sipush (v := 999) hx hb dX11_rate_12 (by decide) ?_
    refine xcSi E hs hQ hml hl.1 (gX11_isWithin l g ad hD S hI a2 999) mX11_isWithin q883 rfl ⟨(Nat.le_of_ble_eq_true rfl), (Nat.le_of_ble_eq_true rfl)⟩ ⟨(Nat.le_of_ble_eq_true rfl), (Nat.le_of_ble_eq_true rfl)⟩ (Nat.le_of_ble_eq_true rfl) rfl dX11_rate_15 (fun r30 S30 H locs hp30 hQ => ?_)
    obtain ⟨rfl, b30, g30_0⟩ := hp30
    have q31 : (999 : Int32).toInt = 999 := by decide
    refine lv_if_ne (tgt := 24) hx hb dX11_rate_18 (by decide) (fun k32 => ?_) (fun k32 => ?_)
    · have h33 := ib_ne k32
      have b34 : Bd r30 (1) (1) := rf_nlo b30 (by decide : Bd 0 (0) (0)) h33
      have g35 := g30_0.resolve_left (by omega)
      clear g30_0
      have b36 : Bd a2 (0) (999) := ⟨by omega, by omega⟩
      refine lv_aload_n hx hb dX11_rate_24 rfl (lv_at hl 0 rfl) ?_
      refine xget E hQ 0 (by decide) c20 rfl 4 (by decide) q520 rfl dX11_rate_25 ?_
      refine xget E hQ 2 (by decide) c11 rfl 14 (by decide) q303 rfl dX11_rate_28 ?_
      obtain ⟨v37, c39, b38⟩ := invX_16 hI
      have c39 : S 16 = .inr (0, [.int v37, .ref (ad 17), .ref (ad 18), .ref (ad 19)]) := c39
      refine xget E hQ 16 (by decide) c39 rfl 0 (by decide) q218 rfl dX11_rate_31 ?_
      refine lv_if_le (tgt := 40) hx hb dX11_rate_34 (by decide) (fun k40 => ?_) (fun k40 => ?_)
      · have h41 := ib_le k40
        have b42 : Bd v37 (0) (0) := ⟨(b38).1, ((rf_le b38 (by decide : Bd 0 (0) (0)) h41).1).2⟩
        refine lv_aload_n hx hb dX11_rate_40 rfl (lv_at hl 0 rfl) ?_
        refine xget E hQ 0 (by decide) c20 rfl 4 (by decide) q520 rfl dX11_rate_41 ?_
        refine xget E hQ 2 (by decide) c11 rfl 8 (by decide) q276 rfl dX11_rate_44 ?_
        refine lv_iload_n hx hb dX11_rate_47 rfl (lv_at hl 1 rfl) ?_
        obtain ⟨f43, c44⟩ := invX_7 hI
        refine xiald E hQ 7 (by decide) c44 (ib_in b28 (by decide) (by decide)) dX11_rate_48 ?_
        refine lv_topi (fun z46 e47 => ?_)
        refine lv_istore_n (lv' := [(3, .int z46), (0, .ref (ad 0)), (1, .int a1), (2, .int a2)]) hx hb dX11_rate_49 rfl hl (by decide) rfl (fun ls hl => ?_)
        refine lv_aload_n hx hb dX11_rate_50 rfl (lv_at hl 1 rfl) ?_
        refine xget E hQ 0 (by decide) c20 rfl 4 (by decide) q520 rfl dX11_rate_51 ?_
        refine xget E hQ 2 (by decide) c11 rfl 8 (by decide) q276 rfl dX11_rate_54 ?_
        refine lv_iload_n hx hb dX11_rate_57 rfl (lv_at hl 2 rfl) ?_
        refine lv_iload_n hx hb dX11_rate_58 rfl (lv_at hl 3 rfl) ?_
        refine xiast E hs hQ 7 (by decide) c44 (ib_in b28 (by decide) (by decide)) dX11_rate_59 (fun H locs S48 eS48 hQ => ?_)
        have hI := invX_up_7 hI eS48 ⟨_, rfl⟩
        have c49 : S48 7 = .inl (g.2 0, 8, .inl (upd f43 (a1 : Int32).toNatClampNeg a2)) := up_at eS48 rfl
        refine lv_iload_n hx hb dX11_rate_60 rfl (lv_at hl 0 rfl) ?_
        exact xri E hr hlk hQ (⟨hI, (up_o o_refl eS48 (by decide))⟩) dX11_rate_61
      · have h50 := ib_nle k40
        have b51 : Bd v37 (1) (40) := ⟨((rf_lt (by decide : Bd 0 (0) (0)) b38 h50).2).1, (b38).2⟩
        refine lv_bipush (v := (-5)) hx hb dX11_rate_37 (by decide) ?_
        exact xri E hr hlk hQ (⟨hI, o_refl⟩) dX11_rate_39
    · have h52 := ib_eq k32
      have b53 : Bd r30 (0) (0) := ⟨(b30).1, ((rf_eq b30 (by decide : Bd 0 (0) (0)) h52).1).2⟩
      clear g30_0
      refine lv_bipush (v := (-2)) hx hb dX11_rate_21 (by decide) ?_
      exact xri E hr hlk hQ (⟨hI, o_refl⟩) dX11_rate_23
set_option maxHeartbeats 4000000 in
set_option maxRecDepth 100000 in
theorem gX9_startFates_104 (l : Launch) (g : GG) (ad : Nat → Nat) (hD : Dj ad 122) (S : SS) (hI : InvX g ad S) : Met l yX9_startFates (wG (.code yX9_startFates cX9_startFates 1 none)) (Rm 1) (XPre g ad 122 S [.ref (ad 104)]) (va_Qv (fun S' => InvX g ad S' ∧ (∀ j, j ∉ ([105] : List Nat) → S' j = S j)) (QB g ad 122) (FA ad 122)) 0 0 (FA ad 122) := by
  refine xmet cX9_startFates "EbbWreck$Throwing" (by decide) rfl (Nat.le_of_ble_eq_true rfl) (fun p e s m below meth c E hr hlk hml hQ ls hl => ?_)
  have hx := E.1
  have hb := E.2.1
  have hs : Sp ad 122 (FA ad 122) := Sp.fa hD
  have hl : lv_has ls 1 [(0, .ref (ad 104))] := hl
  refine lv_aload_n hx hb dX9_startFates_0 rfl (lv_at hl 0 rfl) ?_
  have c1 := invX_104 hI
  have c1 : S 104 = .inr (9, [.ref (ad 2), .ref (ad 105), .ref (ad 106)]) := c1
  refine xget E hQ 104 (by decide) c1 rfl 1 (by decide) q436 rfl dX9_startFates_1 ?_
  refine lv_bipush (v := (-3)) hx hb dX9_startFates_4 (by decide) ?_
  obtain ⟨f2, c3⟩ := invX_105 hI
  refine xcSv E hs hQ hml hl.1 (uFillI l g ad 122 hD S 105 (by decide) 12 (by decide) f2 (-3) c3) mJ7_fill_53178 q1143 rfl ⟨(Nat.le_of_ble_eq_true rfl), (Nat.le_of_ble_eq_true rfl)⟩ ⟨(Nat.le_of_ble_eq_true rfl), (Nat.le_of_ble_eq_true rfl)⟩ (Nat.le_of_ble_eq_true rfl) rfl dX9_startFates_6 (fun S5 H locs eS5 hQ => ?_)
  have hI := invX_up_105 hI eS5 ⟨_, rfl⟩
  have c6 : S5 105 = .inl (g.2 0, 12, .inl (fillF (-3) 12 f2)) := up_at eS5 rfl
  exact xrv E hr hlk hQ (⟨hI, (up_o o_refl eS5 (by decide))⟩) dX9_startFates_9
set_option maxHeartbeats 4000000 in
set_option maxRecDepth 100000 in
theorem gX9_findFates_104 (l : Launch) (g : GG) (ad : Nat → Nat) (hD : Dj ad 122) (S : SS) (hI : InvX g ad S) (a1 : Int32) (ba1 : Bd a1 (0) (100)) (hq1 : 0 ≤ fld (S 2) 1 + (-1)) : Met l yX9_findFates (wG (.code yX9_findFates cX9_findFates 3 none)) (Rm 4) (XPre g ad 122 S [.ref (ad 104), .int a1]) (va_Qv (fun S' => InvX g ad S' ∧ (∀ j, j ∉ ([105, 106] : List Nat) → S' j = S j)) (QB g ad 122) (FA ad 122)) 0 0 (FA ad 122) := by
  refine xmet cX9_findFates "EbbWreck$Throwing" (by decide) rfl (Nat.le_of_ble_eq_true rfl) (fun p e s m below meth c E hr hlk hml hQ ls hl => ?_)
  have hx := E.1
  have hb := E.2.1
  have hs : Sp ad 122 (FA ad 122) := Sp.fa hD
  have hl : lv_has ls 3 [(0, .ref (ad 104)), (1, .int a1)] := hl
  obtain ⟨v1, v3, v5, v6, v7, v9, c11, b2, b4, b8, b10⟩ := invX_2 hI
  have c11 : S 2 = .inr (1, [.int v1, .int v3, .int v5, .ref (ad 3), .ref (ad 5), .ref (ad 6), .int v6, .int v7, .ref (ad 7), .ref (ad 8), .ref (ad 9), .ref (ad 10), .int v9, .ref (ad 15), .ref (ad 16)]) := c11
  have q12 : fld (S 2) 1 = v3.toInt := fld_of c11 rfl
  have b13 : Bd v3 (1) (12) := ⟨by omega, by omega⟩
  refine lv_aload_n hx hb dX9_findFates_0 rfl (lv_at hl 0 rfl) ?_
  have c15 := invX_104 hI
  have c15 : S 104 = .inr (9, [.ref (ad 2), .ref (ad 105), .ref (ad 106)]) := c15
  refine xcVv E hs hQ hml hl.1 104 (gX9_startFates_104 l g ad hD S hI ) mX9_startFates q1139 (by decide) c15 rfl rfl ⟨(Nat.le_of_ble_eq_true rfl), (Nat.le_of_ble_eq_true rfl)⟩ ⟨(Nat.le_of_ble_eq_true rfl), (Nat.le_of_ble_eq_true rfl)⟩ (Nat.le_of_ble_eq_true rfl) rfl dX9_findFates_1 (fun S14 H locs hp14 hQ _ => ?_)
  obtain ⟨hI, o14⟩ := hp14
  refine lv_sipush (v := 399) hx hb dX9_findFates_4 (by decide) ?_
  refine lv_istore_n (lv' := [(2, .int 399), (0, .ref (ad 104)), (1, .int a1)]) hx hb dX9_findFates_7 rfl hl (by decide) rfl (fun ls hl => ?_)
  have loop8 : ∀ (n : Nat) (S_8 : SS) (H : Heap) (locs : List Loc) (ls : Array Slot) (x8_2 : Int32), Bd x8_2 (-1) (399) → x8_2.toInt + 1 < ((n : Nat) : Int) → InvX g ad S_8 → (∀ j, j ∉ ([105, 106] : List Nat) → S_8 j = S14 j) → Hp g ad 122 S_8 (FA ad 122) s.heap H locs → lv_has ls 3 [(2, .int x8_2), (0, .ref (ad 104)), (1, .int a1)] → W p l e (Rm 4) s m [.ref (ad 104), .int a1].toArray below meth c H locs 0 0 (MQ below (va_Qv (fun S' => InvX g ad S' ∧ (∀ j, j ∉ ([105, 106] : List Nat) → S' j = S j)) (QB g ad 122) (FA ad 122)) [.ref (ad 104), .int a1].toArray s 0 0 (FA ad 122)) (F0 m 8 ls []) := by
    intro n
    induction n with
    | zero => intro S_8 H locs ls x8_2 Bx8_2 hn8_ hI hf8 hQ hl; exfalso; have := (Bx8_2).1; omega
    | succ n8_ ih8 =>
      intro S_8 H locs ls x8_2 Bx8_2 hn8_ hI hf8 hQ hl
      refine lv_iload_n hx hb dX9_findFates_8 rfl (lv_at hl 0 rfl) ?_
      refine lv_iload_n hx hb dX9_findFates_9 rfl (lv_at hl 2 rfl) ?_
      refine lv_icmp_lt (tgt := 24) hx hb dX9_findFates_10 (by decide) (fun k16 => ?_) (fun k16 => ?_)
      · have h17 := ib_lt k16
        have b18 : Bd x8_2 (-1) (99) := ⟨(Bx8_2).1, ((rf_lt Bx8_2 ba1 h17).1).2⟩
        exact xrv E hr hlk hQ (⟨hI, (o_trans (o_trans o_refl o14 (by decide)) hf8 (by decide))⟩) dX9_findFates_24
      · have h19 := ib_nlt k16
        have b20 : Bd x8_2 (0) (399) := ⟨((rf_le ba1 Bx8_2 h19).2).1, (Bx8_2).2⟩
        refine lv_aload_n hx hb dX9_findFates_13 rfl (lv_at hl 1 rfl) ?_
        refine lv_iload_n hx hb dX9_findFates_14 rfl (lv_at hl 0 rfl) ?_
        have c21 : S_8 2 = .inr (1, [.int v1, .int v3, .int v5, .ref (ad 3), .ref (ad 5), .ref (ad 6), .int v6, .int v7, .ref (ad 7), .ref (ad 8), .ref (ad 9), .ref (ad 10), .int v9, .ref (ad 15), .ref (ad 16)]) := ((hf8 2 (by decide)).trans ((o14 2 (by decide)).trans c11))
        have q22 : fld (S_8 2) 1 = v3.toInt := fld_of c21 rfl
        have c24 : S_8 104 = .inr (9, [.ref (ad 2), .ref (ad 105), .ref (ad 106)]) := ((hf8 104 (by decide)).trans ((o14 104 (by decide)).trans c15))
        refine xcVv E hs hQ hml hl.1 104 (gX9_stepFates_104 l g ad hD S_8 hI x8_2 (by omega)) mX9_stepFates q1144 (by decide) c24 rfl rfl ⟨(Nat.le_of_ble_eq_true rfl), (Nat.le_of_ble_eq_true rfl)⟩ ⟨(Nat.le_of_ble_eq_true rfl), (Nat.le_of_ble_eq_true rfl)⟩ (Nat.le_of_ble_eq_true rfl) rfl dX9_findFates_15 (fun S23 H locs hp23 hQ _ => ?_)
        obtain ⟨hI, o23⟩ := hp23
        obtain ⟨z25, e26⟩ : ∃ z : Int32, z = x8_2 + (-1) := ⟨_, rfl⟩
        have t27 := ib_add e26 b20 (by decide : Bd (-1) (-1) (-1)) (by decide) (by decide)
        have b28 : Bd z25 (-1) (398) := ib_addb t27 b20 (by decide : Bd (-1) (-1) (-1))
        have t27 : z25.toInt = x8_2.toInt + (-1) := fold_add t27 rfl (by decide)
        refine lv_iinc (v := z25) (lv' := [(2, .int z25), (0, .ref (ad 104)), (1, .int a1)]) hx hb dX9_findFates_18 hl (k := 0) rfl (by rw [e26]; rfl) (by decide) rfl (fun ls hl => ?_)
        refine lv_goto (tgt := 8) hx hb dX9_findFates_21 (by decide) ?_
        exact ih8 _ _ _ _ z25 (ib_wk b28 (by decide) (by decide)) (by omega) hI (o_trans hf8 o23 (by decide)) hQ (lv_sub hl [0, 1, 2] rfl)
  obtain ⟨n8, hn8⟩ := fu_n (400)
  exact loop8 n8 _ _ _ _ 399 (ib_wk (by decide : Bd 399 (399) (399)) (by decide) (by decide)) (by have : (399 : Int32).toInt = 399 := (by decide); omega) hI o_refl hQ (lv_sub hl [0, 1, 2] rfl)
set_option maxHeartbeats 4000000 in
set_option maxRecDepth 100000 in
theorem gX9_cellsOf_104 (l : Launch) (g : GG) (ad : Nat → Nat) (hD : Dj ad 122) (S : SS) (hI : InvX g ad S) (a1 : Int32) : Met l yX9_cellsOf (wG (.code yX9_cellsOf cX9_cellsOf 4 (some .int))) (Rm 0) (XPre g ad 122 S [.ref (ad 104), .int a1]) (va_Qi (fun _ S' => S = S') (QB g ad 122) (FA ad 122)) 0 0 (FA ad 122) := by
  refine xmet cX9_cellsOf "EbbWreck$Throwing" (by decide) rfl (Nat.le_of_ble_eq_true rfl) (fun p e s m below meth c E hr hlk hml hQ ls hl => ?_)
  have hx := E.1
  have hb := E.2.1
  have hs : Sp ad 122 (FA ad 122) := Sp.fa hD
  have hl : lv_has ls 4 [(0, .ref (ad 104)), (1, .int a1)] := hl
  refine lv_iconst (v := 0) hx hb dX9_cellsOf_0 (by decide) ?_
  refine lv_istore_n (lv' := [(2, .int 0), (0, .ref (ad 104)), (1, .int a1)]) hx hb dX9_cellsOf_1 rfl hl (by decide) rfl (fun ls hl => ?_)
  refine lv_iconst (v := 0) hx hb dX9_cellsOf_2 (by decide) ?_
  refine lv_istore_n (lv' := [(3, .int 0), (2, .int 0), (0, .ref (ad 104)), (1, .int a1)]) hx hb dX9_cellsOf_3 rfl hl (by decide) rfl (fun ls hl => ?_)
  have loop4 : ∀ (n : Nat) (H : Heap) (locs : List Loc) (ls : Array Slot) (x4_2 : Int32) (x4_3 : Int32), Bd x4_3 (0) (12) → (-1) * x4_3.toInt + 12 < ((n : Nat) : Int) → Hp g ad 122 S (FA ad 122) s.heap H locs → lv_has ls 4 [(3, .int x4_3), (2, .int x4_2), (0, .ref (ad 104)), (1, .int a1)] → W p l e (Rm 0) s m [.ref (ad 104), .int a1].toArray below meth c H locs 0 0 (MQ below (va_Qi (fun _ S' => S = S') (QB g ad 122) (FA ad 122)) [.ref (ad 104), .int a1].toArray s 0 0 (FA ad 122)) (F0 m 4 ls []) := by
    intro n
    induction n with
    | zero => intro H locs ls x4_2 x4_3 Bx4_3 hn4_ hQ hl; exfalso; have := (Bx4_3).2; omega
    | succ n4_ ih4 =>
      intro H locs ls x4_2 x4_3 Bx4_3 hn4_ hQ hl
      refine lv_iload_n hx hb dX9_cellsOf_4 rfl (lv_at hl 0 rfl) ?_
      refine lv_aload_n hx hb dX9_cellsOf_5 rfl (lv_at hl 2 rfl) ?_
      have c1 := invX_104 hI
      have c1 : S 104 = .inr (9, [.ref (ad 2), .ref (ad 105), .ref (ad 106)]) := c1
      refine xget E hQ 104 (by decide) c1 rfl 0 (by decide) q435 rfl dX9_cellsOf_6 ?_
      obtain ⟨v2, v4, v6, v7, v8, v10, c12, b3, b5, b9, b11⟩ := invX_2 hI
      have c12 : S 2 = .inr (1, [.int v2, .int v4, .int v6, .ref (ad 3), .ref (ad 5), .ref (ad 6), .int v7, .int v8, .ref (ad 7), .ref (ad 8), .ref (ad 9), .ref (ad 10), .int v10, .ref (ad 15), .ref (ad 16)]) := c12
      refine xget E hQ 2 (by decide) c12 rfl 1 (by decide) q240 rfl dX9_cellsOf_9 ?_
      refine lv_icmp_ge (tgt := 37) hx hb dX9_cellsOf_12 (by decide) (fun k13 => ?_) (fun k13 => ?_)
      · have h14 := ib_le k13
        refine lv_iload_n hx hb dX9_cellsOf_37 rfl (lv_at hl 1 rfl) ?_
        exact xri E hr hlk hQ (rfl) dX9_cellsOf_38
      · have h15 := ib_nle k13
        have b16 : Bd x4_3 (0) (11) := ⟨(Bx4_3).1, ((rf_lt Bx4_3 b5 h15).1).2⟩
        have b17 : Bd v4 (1) (12) := ⟨((rf_lt Bx4_3 b5 h15).2).1, (b5).2⟩
        refine lv_aload_n hx hb dX9_cellsOf_15 rfl (lv_at hl 2 rfl) ?_
        refine xget E hQ 104 (by decide) c1 rfl 1 (by decide) q436 rfl dX9_cellsOf_16 ?_
        refine lv_iload_n hx hb dX9_cellsOf_19 rfl (lv_at hl 0 rfl) ?_
        obtain ⟨f18, c19⟩ := invX_105 hI
        refine xiald E hQ 105 (by decide) c19 (ib_in b16 (by decide) (by decide)) dX9_cellsOf_20 ?_
        refine lv_topi (fun z21 e22 => ?_)
        refine lv_iload_n hx hb dX9_cellsOf_21 rfl (lv_at hl 3 rfl) ?_
        refine lv_icmp_ne (tgt := 31) hx hb dX9_cellsOf_22 (by decide) (fun k23 => ?_) (fun k23 => ?_)
        · have h24 := ib_ne k23
          obtain ⟨z25, e26⟩ : ∃ z : Int32, z = x4_3 + 1 := ⟨_, rfl⟩
          have t27 := ib_add e26 b16 (by decide : Bd 1 (1) (1)) (by decide) (by decide)
          have b28 : Bd z25 (1) (12) := ib_addb t27 b16 (by decide : Bd 1 (1) (1))
          have t27 : z25.toInt = x4_3.toInt + 1 := fold_add t27 rfl (by decide)
          refine lv_iinc (v := z25) (lv' := [(3, .int z25), (2, .int x4_2), (0, .ref (ad 104)), (1, .int a1)]) hx hb dX9_cellsOf_31 hl (k := 0) rfl (by rw [e26]; rfl) (by decide) rfl (fun ls hl => ?_)
          refine lv_goto (tgt := 4) hx hb dX9_cellsOf_34 (by decide) ?_
          exact ih4 _ _ _ x4_2 z25 (ib_wk b28 (by decide) (by decide)) (by omega) hQ (lv_sub hl [0, 1, 2, 3] rfl)
        · have h29 := ib_eq k23
          refine lv_iload_n hx hb dX9_cellsOf_25 rfl (lv_at hl 1 rfl) ?_
          refine lv_iconst (v := 1) hx hb dX9_cellsOf_26 (by decide) ?_
          refine lv_iload_n hx hb dX9_cellsOf_27 rfl (lv_at hl 0 rfl) ?_
          refine lv_ishl hx hb dX9_cellsOf_28 ?_
          refine lv_topi (fun z30 e31 => ?_)
          refine lv_ior hx hb dX9_cellsOf_29 ?_
          refine lv_topi (fun z32 e33 => ?_)
          refine lv_istore_n (lv' := [(2, .int z32), (3, .int x4_3), (0, .ref (ad 104)), (1, .int a1)]) hx hb dX9_cellsOf_30 rfl hl (by decide) rfl (fun ls hl => ?_)
          obtain ⟨z34, e35⟩ : ∃ z : Int32, z = x4_3 + 1 := ⟨_, rfl⟩
          have t36 := ib_add e35 b16 (by decide : Bd 1 (1) (1)) (by decide) (by decide)
          have b37 : Bd z34 (1) (12) := ib_addb t36 b16 (by decide : Bd 1 (1) (1))
          have t36 : z34.toInt = x4_3.toInt + 1 := fold_add t36 rfl (by decide)
          refine lv_iinc (v := z34) (lv' := [(3, .int z34), (2, .int z32), (0, .ref (ad 104)), (1, .int a1)]) hx hb dX9_cellsOf_31 hl (k := 1) rfl (by rw [e35]; rfl) (by decide) rfl (fun ls hl => ?_)
          refine lv_goto (tgt := 4) hx hb dX9_cellsOf_34 (by decide) ?_
          exact ih4 _ _ _ z32 z34 (ib_wk b37 (by decide) (by decide)) (by omega) hQ (lv_sub hl [0, 1, 2, 3] rfl)
  obtain ⟨n4, hn4⟩ := fu_n (12)
  exact loop4 n4 _ _ _ 0 0 (ib_wk (by decide : Bd 0 (0) (0)) (by decide) (by decide)) (by have : (0 : Int32).toInt = 0 := (by decide); omega) hQ (lv_sub hl [0, 1, 2, 3] rfl)
set_option maxHeartbeats 4000000 in
set_option maxRecDepth 100000 in
theorem gX9_neverUp_104 (l : Launch) (g : GG) (ad : Nat → Nat) (hD : Dj ad 122) (S : SS) (hI : InvX g ad S) (hq1 : 0 ≤ fld (S 2) 1 + (-1)) : Met l yX9_neverUp (wG (.code yX9_neverUp cX9_neverUp 1 (some .int))) (Rm 5) (XPre g ad 122 S [.ref (ad 104)]) (va_Qi (fun _ S' => InvX g ad S' ∧ (∀ j, j ∉ ([105, 106] : List Nat) → S' j = S j)) (QB g ad 122) (FA ad 122)) 0 0 (FA ad 122) := by
  refine xmet cX9_neverUp "EbbWreck$Throwing" (by decide) rfl (Nat.le_of_ble_eq_true rfl) (fun p e s m below meth c E hr hlk hml hQ ls hl => ?_)
  have hx := E.1
  have hb := E.2.1
  have hs : Sp ad 122 (FA ad 122) := Sp.fa hD
  have hl : lv_has ls 1 [(0, .ref (ad 104))] := hl
  obtain ⟨v1, v3, v5, v6, v7, v9, c11, b2, b4, b8, b10⟩ := invX_2 hI
  have c11 : S 2 = .inr (1, [.int v1, .int v3, .int v5, .ref (ad 3), .ref (ad 5), .ref (ad 6), .int v6, .int v7, .ref (ad 7), .ref (ad 8), .ref (ad 9), .ref (ad 10), .int v9, .ref (ad 15), .ref (ad 16)]) := c11
  have q12 : fld (S 2) 1 = v3.toInt := fld_of c11 rfl
  have b13 : Bd v3 (1) (12) := ⟨by omega, by omega⟩
  refine lv_aload_n hx hb dX9_neverUp_0 rfl (lv_at hl 0 rfl) ?_
  refine lv_iconst (v := 0) hx hb dX9_neverUp_1 (by decide) ?_
  have c15 := invX_104 hI
  have c15 : S 104 = .inr (9, [.ref (ad 2), .ref (ad 105), .ref (ad 106)]) := c15
  refine xcVv E hs hQ hml hl.1 104 (gX9_findFates_104 l g ad hD S hI 0 (ib_wk (by decide : Bd 0 (0) (0)) (by decide) (by decide)) (by omega)) mX9_findFates q1135 (by decide) c15 rfl rfl ⟨(Nat.le_of_ble_eq_true rfl), (Nat.le_of_ble_eq_true rfl)⟩ ⟨(Nat.le_of_ble_eq_true rfl), (Nat.le_of_ble_eq_true rfl)⟩ (Nat.le_of_ble_eq_true rfl) rfl dX9_neverUp_2 (fun S14 H locs hp14 hQ _ => ?_)
  obtain ⟨hI, o14⟩ := hp14
  refine lv_aload_n hx hb dX9_neverUp_5 rfl (lv_at hl 0 rfl) ?_
  refine lv_bipush (v := (-3)) hx hb dX9_neverUp_6 (by decide) ?_
  have c17 : S14 104 = .inr (9, [.ref (ad 2), .ref (ad 105), .ref (ad 106)]) := ((o14 104 (by decide)).trans c15)
  refine xcVi E hs hQ hml hl.1 104 (gX9_cellsOf_104 l g ad hD S14 hI (-3)) mX9_cellsOf q1150 (by decide) c17 rfl rfl ⟨(Nat.le_of_ble_eq_true rfl), (Nat.le_of_ble_eq_true rfl)⟩ ⟨(Nat.le_of_ble_eq_true rfl), (Nat.le_of_ble_eq_true rfl)⟩ (Nat.le_of_ble_eq_true rfl) rfl dX9_neverUp_8 (fun r16 S16 H locs hp16 hQ _ => ?_)
  subst hp16
  exact xri E hr hlk hQ (⟨hI, (o_trans o_refl o14 (by decide))⟩) dX9_neverUp_11
set_option maxHeartbeats 4000000 in
set_option maxRecDepth 100000 in
theorem gX9_wonFrom_104 (l : Launch) (g : GG) (ad : Nat → Nat) (hD : Dj ad 122) (S : SS) (hI : InvX g ad S) (a1 : Int32) (a2 : Int32) (ba2 : Bd a2 (0) (99)) (hq1 : 0 ≤ fld (S 2) 1 + (-1)) : Met l yX9_wonFrom (wG (.code yX9_wonFrom cX9_wonFrom 3 (some .int))) (Rm 5) (XPre g ad 122 S [.ref (ad 104), .int a1, .int a2]) (va_Qi (fun _ S' => InvX g ad S' ∧ (∀ j, j ∉ ([105, 106] : List Nat) → S' j = S j)) (QB g ad 122) (FA ad 122)) 0 0 (FA ad 122) := by
  refine xmet cX9_wonFrom "EbbWreck$Throwing" (by decide) rfl (Nat.le_of_ble_eq_true rfl) (fun p e s m below meth c E hr hlk hml hQ ls hl => ?_)
  have hx := E.1
  have hb := E.2.1
  have hs : Sp ad 122 (FA ad 122) := Sp.fa hD
  have hl : lv_has ls 3 [(0, .ref (ad 104)), (1, .int a1), (2, .int a2)] := hl
  obtain ⟨v1, v3, v5, v6, v7, v9, c11, b2, b4, b8, b10⟩ := invX_2 hI
  have c11 : S 2 = .inr (1, [.int v1, .int v3, .int v5, .ref (ad 3), .ref (ad 5), .ref (ad 6), .int v6, .int v7, .ref (ad 7), .ref (ad 8), .ref (ad 9), .ref (ad 10), .int v9, .ref (ad 15), .ref (ad 16)]) := c11
  have q12 : fld (S 2) 1 = v3.toInt := fld_of c11 rfl
  have b13 : Bd v3 (1) (12) := ⟨by omega, by omega⟩
  refine lv_aload_n hx hb dX9_wonFrom_0 rfl (lv_at hl 0 rfl) ?_
  refine lv_iload_n hx hb dX9_wonFrom_1 rfl (lv_at hl 2 rfl) ?_
  have c15 := invX_104 hI
  have c15 : S 104 = .inr (9, [.ref (ad 2), .ref (ad 105), .ref (ad 106)]) := c15
  refine xcVv E hs hQ hml hl.1 104 (gX9_findFates_104 l g ad hD S hI a2 (ib_wk ba2 (by decide) (by decide)) (by omega)) mX9_findFates q1135 (by decide) c15 rfl rfl ⟨(Nat.le_of_ble_eq_true rfl), (Nat.le_of_ble_eq_true rfl)⟩ ⟨(Nat.le_of_ble_eq_true rfl), (Nat.le_of_ble_eq_true rfl)⟩ (Nat.le_of_ble_eq_true rfl) rfl dX9_wonFrom_2 (fun S14 H locs hp14 hQ _ => ?_)
  obtain ⟨hI, o14⟩ := hp14
  refine lv_aload_n hx hb dX9_wonFrom_5 rfl (lv_at hl 0 rfl) ?_
  refine lv_iload_n hx hb dX9_wonFrom_6 rfl (lv_at hl 1 rfl) ?_
  have c17 : S14 104 = .inr (9, [.ref (ad 2), .ref (ad 105), .ref (ad 106)]) := ((o14 104 (by decide)).trans c15)
  refine xcVi E hs hQ hml hl.1 104 (gX9_cellsOf_104 l g ad hD S14 hI a1) mX9_cellsOf q1150 (by decide) c17 rfl rfl ⟨(Nat.le_of_ble_eq_true rfl), (Nat.le_of_ble_eq_true rfl)⟩ ⟨(Nat.le_of_ble_eq_true rfl), (Nat.le_of_ble_eq_true rfl)⟩ (Nat.le_of_ble_eq_true rfl) rfl dX9_wonFrom_7 (fun r16 S16 H locs hp16 hQ _ => ?_)
  subst hp16
  exact xri E hr hlk hQ (⟨hI, (o_trans o_refl o14 (by decide))⟩) dX9_wonFrom_10
set_option maxHeartbeats 4000000 in
set_option maxRecDepth 100000 in
theorem gX9_bestHour_104 (l : Launch) (g : GG) (ad : Nat → Nat) (hD : Dj ad 122) (S : SS) (hI : InvX g ad S) (a1 : Int32) (hq1 : 0 ≤ fld (S 2) 1 + (-1)) : Met l yX9_bestHour (wG (.code yX9_bestHour cX9_bestHour 6 (some .int))) (Rm 5) (XPre g ad 122 S [.ref (ad 104), .int a1]) (va_Qi (fun r S' => InvX g ad S' ∧ (∀ j, j ∉ ([105, 106] : List Nat) → S' j = S j) ∧ Bd r (-1) (99)) (QB g ad 122) (FA ad 122)) 0 0 (FA ad 122) := by
  refine xmet cX9_bestHour "EbbWreck$Throwing" (by decide) rfl (Nat.le_of_ble_eq_true rfl) (fun p e s m below meth c E hr hlk hml hQ ls hl => ?_)
  have hx := E.1
  have hb := E.2.1
  have hs : Sp ad 122 (FA ad 122) := Sp.fa hD
  have hl : lv_has ls 6 [(0, .ref (ad 104)), (1, .int a1)] := hl
  obtain ⟨v1, v3, v5, v6, v7, v9, c11, b2, b4, b8, b10⟩ := invX_2 hI
  have c11 : S 2 = .inr (1, [.int v1, .int v3, .int v5, .ref (ad 3), .ref (ad 5), .ref (ad 6), .int v6, .int v7, .ref (ad 7), .ref (ad 8), .ref (ad 9), .ref (ad 10), .int v9, .ref (ad 15), .ref (ad 16)]) := c11
  have q12 : fld (S 2) 1 = v3.toInt := fld_of c11 rfl
  have b13 : Bd v3 (1) (12) := ⟨by omega, by omega⟩
  refine lv_aload_n hx hb dX9_bestHour_0 rfl (lv_at hl 0 rfl) ?_
  refine lv_bipush (v := 100) hx hb dX9_bestHour_1 (by decide) ?_
  have c15 := invX_104 hI
  have c15 : S 104 = .inr (9, [.ref (ad 2), .ref (ad 105), .ref (ad 106)]) := c15
  refine xcVv E hs hQ hml hl.1 104 (gX9_findFates_104 l g ad hD S hI 100 (ib_wk (by decide : Bd 100 (100) (100)) (by decide) (by decide)) (by omega)) mX9_findFates q1135 (by decide) c15 rfl rfl ⟨(Nat.le_of_ble_eq_true rfl), (Nat.le_of_ble_eq_true rfl)⟩ ⟨(Nat.le_of_ble_eq_true rfl), (Nat.le_of_ble_eq_true rfl)⟩ (Nat.le_of_ble_eq_true rfl) rfl dX9_bestHour_3 (fun S14 H locs hp14 hQ _ => ?_)
  obtain ⟨hI, o14⟩ := hp14
  refine lv_iconst (v := (-1)) hx hb dX9_bestHour_6 (by decide) ?_
  refine lv_istore_n (lv' := [(2, .int (-1)), (0, .ref (ad 104)), (1, .int a1)]) hx hb dX9_bestHour_7 rfl hl (by decide) rfl (fun ls hl => ?_)
  refine lv_iconst (v := 1) hx hb dX9_bestHour_8 (by decide) ?_
  refine lv_istore_n (lv' := [(3, .int 1), (2, .int (-1)), (0, .ref (ad 104)), (1, .int a1)]) hx hb dX9_bestHour_9 rfl hl (by decide) rfl (fun ls hl => ?_)
  refine lv_bipush (v := 99) hx hb dX9_bestHour_10 (by decide) ?_
  refine lv_istore (lv' := [(4, .int 99), (3, .int 1), (2, .int (-1)), (0, .ref (ad 104)), (1, .int a1)]) hx hb dX9_bestHour_12 hl (by decide) rfl (fun ls hl => ?_)
  have loop14 : ∀ (n : Nat) (S_14 : SS) (H : Heap) (locs : List Loc) (ls : Array Slot) (x14_2 : Int32) (x14_3 : Int32) (x14_4 : Int32), Bd x14_2 (-1) (99) → Bd x14_3 (1) (99) → Bd x14_4 (-1) (99) → x14_4.toInt + 1 < ((n : Nat) : Int) → InvX g ad S_14 → (∀ j, j ∉ ([105, 106] : List Nat) → S_14 j = S14 j) → Hp g ad 122 S_14 (FA ad 122) s.heap H locs → lv_has ls 6 [(4, .int x14_4), (3, .int x14_3), (2, .int x14_2), (0, .ref (ad 104)), (1, .int a1)] → W p l e (Rm 5) s m [.ref (ad 104), .int a1].toArray below meth c H locs 0 0 (MQ below (va_Qi (fun r S' => InvX g ad S' ∧ (∀ j, j ∉ ([105, 106] : List Nat) → S' j = S j) ∧ Bd r (-1) (99)) (QB g ad 122) (FA ad 122)) [.ref (ad 104), .int a1].toArray s 0 0 (FA ad 122)) (F0 m 14 ls []) := by
    intro n
    induction n with
    | zero => intro S_14 H locs ls x14_2 x14_3 x14_4 Bx14_2 Bx14_3 Bx14_4 hn14_ hI hf14 hQ hl; exfalso; have := (Bx14_4).1; omega
    | succ n14_ ih14 =>
      intro S_14 H locs ls x14_2 x14_3 x14_4 Bx14_2 Bx14_3 Bx14_4 hn14_ hI hf14 hQ hl
      refine lv_iload hx hb dX9_bestHour_14 (lv_at hl 0 rfl) ?_
      refine lv_if_lt (tgt := 53) hx hb dX9_bestHour_16 (by decide) (fun k16 => ?_) (fun k16 => ?_)
      · have h17 := ib_lt k16
        have b18 : Bd x14_4 (-1) (-1) := ⟨(Bx14_4).1, ((rf_lt Bx14_4 (by decide : Bd 0 (0) (0)) h17).1).2⟩
        refine lv_iload_n hx hb dX9_bestHour_53 rfl (lv_at hl 2 rfl) ?_
        exact xri E hr hlk hQ (⟨hI, (o_trans (o_trans o_refl o14 (by decide)) hf14 (by decide)), Bx14_2⟩) dX9_bestHour_54
      · have h19 := ib_nlt k16
        have b20 : Bd x14_4 (0) (99) := ⟨((rf_le (by decide : Bd 0 (0) (0)) Bx14_4 h19).2).1, (Bx14_4).2⟩
        refine lv_aload_n hx hb dX9_bestHour_19 rfl (lv_at hl 3 rfl) ?_
        refine lv_iload hx hb dX9_bestHour_20 (lv_at hl 0 rfl) ?_
        have c21 : S_14 2 = .inr (1, [.int v1, .int v3, .int v5, .ref (ad 3), .ref (ad 5), .ref (ad 6), .int v6, .int v7, .ref (ad 7), .ref (ad 8), .ref (ad 9), .ref (ad 10), .int v9, .ref (ad 15), .ref (ad 16)]) := ((hf14 2 (by decide)).trans ((o14 2 (by decide)).trans c11))
        have q22 : fld (S_14 2) 1 = v3.toInt := fld_of c21 rfl
        have c24 : S_14 104 = .inr (9, [.ref (ad 2), .ref (ad 105), .ref (ad 106)]) := ((hf14 104 (by decide)).trans ((o14 104 (by decide)).trans c15))
        refine xcVv E hs hQ hml hl.1 104 (gX9_stepFates_104 l g ad hD S_14 hI x14_4 (by omega)) mX9_stepFates q1144 (by decide) c24 rfl rfl ⟨(Nat.le_of_ble_eq_true rfl), (Nat.le_of_ble_eq_true rfl)⟩ ⟨(Nat.le_of_ble_eq_true rfl), (Nat.le_of_ble_eq_true rfl)⟩ (Nat.le_of_ble_eq_true rfl) rfl dX9_bestHour_22 (fun S23 H locs hp23 hQ _ => ?_)
        obtain ⟨hI, o23⟩ := hp23
        refine lv_aload_n hx hb dX9_bestHour_25 rfl (lv_at hl 3 rfl) ?_
        refine lv_iload_n hx hb dX9_bestHour_26 rfl (lv_at hl 4 rfl) ?_
        have c26 : S23 104 = .inr (9, [.ref (ad 2), .ref (ad 105), .ref (ad 106)]) := ((o23 104 (by decide)).trans c24)
        refine xcVi E hs hQ hml hl.1 104 (gX9_cellsOf_104 l g ad hD S23 hI a1) mX9_cellsOf q1150 (by decide) c26 rfl rfl ⟨(Nat.le_of_ble_eq_true rfl), (Nat.le_of_ble_eq_true rfl)⟩ ⟨(Nat.le_of_ble_eq_true rfl), (Nat.le_of_ble_eq_true rfl)⟩ (Nat.le_of_ble_eq_true rfl) rfl dX9_bestHour_27 (fun r25 S25 H locs hp25 hQ _ => ?_)
        subst hp25
        refine xcSi E hs hQ hml hl.1 (gJ6_bitCount_0f7a4 l g ad hD S23 hI r25) mJ6_bitCount_0f7a4 q1170 rfl ⟨(Nat.le_of_ble_eq_true rfl), (Nat.le_of_ble_eq_true rfl)⟩ ⟨(Nat.le_of_ble_eq_true rfl), (Nat.le_of_ble_eq_true rfl)⟩ (Nat.le_of_ble_eq_true rfl) rfl dX9_bestHour_30 (fun r27 S27 H locs hp27 hQ => ?_)
        obtain ⟨rfl, b27⟩ := hp27
        refine lv_istore (lv' := [(5, .int r27), (4, .int x14_4), (3, .int x14_3), (2, .int x14_2), (0, .ref (ad 104)), (1, .int a1)]) hx hb dX9_bestHour_33 hl (by decide) rfl (fun ls hl => ?_)
        refine lv_iload hx hb dX9_bestHour_35 (lv_at hl 0 rfl) ?_
        refine lv_iload_n hx hb dX9_bestHour_37 rfl (lv_at hl 2 rfl) ?_
        refine lv_icmp_lt (tgt := 47) hx hb dX9_bestHour_38 (by decide) (fun k28 => ?_) (fun k28 => ?_)
        · have h29 := ib_lt k28
          obtain ⟨z30, e31⟩ : ∃ z : Int32, z = x14_4 + (-1) := ⟨_, rfl⟩
          have t32 := ib_add e31 b20 (by decide : Bd (-1) (-1) (-1)) (by decide) (by decide)
          have b33 : Bd z30 (-1) (98) := ib_addb t32 b20 (by decide : Bd (-1) (-1) (-1))
          have t32 : z30.toInt = x14_4.toInt + (-1) := fold_add t32 rfl (by decide)
          refine lv_iinc (v := z30) (lv' := [(4, .int z30), (5, .int r27), (3, .int x14_3), (2, .int x14_2), (0, .ref (ad 104)), (1, .int a1)]) hx hb dX9_bestHour_47 hl (k := 1) rfl (by rw [e31]; rfl) (by decide) rfl (fun ls hl => ?_)
          refine lv_goto (tgt := 14) hx hb dX9_bestHour_50 (by decide) ?_
          exact ih14 _ _ _ _ x14_2 x14_3 z30 Bx14_2 Bx14_3 (ib_wk b33 (by decide) (by decide)) (by omega) hI (o_trans hf14 o23 (by decide)) hQ (lv_sub hl [0, 2, 3, 4, 5] rfl)
        · have h34 := ib_nlt k28
          have b35 : Bd x14_3 (1) (63) := ⟨(Bx14_3).1, ((rf_le Bx14_3 b27 h34).1).2⟩
          have b36 : Bd r27 (1) (63) := ⟨((rf_le Bx14_3 b27 h34).2).1, (b27).2⟩
          refine lv_iload hx hb dX9_bestHour_41 (lv_at hl 0 rfl) ?_
          refine lv_istore_n (lv' := [(3, .int r27), (5, .int r27), (4, .int x14_4), (2, .int x14_2), (0, .ref (ad 104)), (1, .int a1)]) hx hb dX9_bestHour_43 rfl hl (by decide) rfl (fun ls hl => ?_)
          refine lv_iload hx hb dX9_bestHour_44 (lv_at hl 2 rfl) ?_
          refine lv_istore_n (lv' := [(2, .int x14_4), (3, .int r27), (5, .int r27), (4, .int x14_4), (0, .ref (ad 104)), (1, .int a1)]) hx hb dX9_bestHour_46 rfl hl (by decide) rfl (fun ls hl => ?_)
          obtain ⟨z37, e38⟩ : ∃ z : Int32, z = x14_4 + (-1) := ⟨_, rfl⟩
          have t39 := ib_add e38 b20 (by decide : Bd (-1) (-1) (-1)) (by decide) (by decide)
          have b40 : Bd z37 (-1) (98) := ib_addb t39 b20 (by decide : Bd (-1) (-1) (-1))
          have t39 : z37.toInt = x14_4.toInt + (-1) := fold_add t39 rfl (by decide)
          refine lv_iinc (v := z37) (lv' := [(4, .int z37), (2, .int x14_4), (3, .int r27), (5, .int r27), (0, .ref (ad 104)), (1, .int a1)]) hx hb dX9_bestHour_47 hl (k := 3) rfl (by rw [e38]; rfl) (by decide) rfl (fun ls hl => ?_)
          refine lv_goto (tgt := 14) hx hb dX9_bestHour_50 (by decide) ?_
          exact ih14 _ _ _ _ x14_4 r27 z37 (ib_wk b20 (by decide) (by decide)) (ib_wk b36 (by decide) (by decide)) (ib_wk b40 (by decide) (by decide)) (by omega) hI (o_trans hf14 o23 (by decide)) hQ (lv_sub hl [0, 2, 1, 4, 5] rfl)
  obtain ⟨n14, hn14⟩ := fu_n (100)
  exact loop14 n14 _ _ _ _ (-1) 1 99 (ib_wk (by decide : Bd (-1) (-1) (-1)) (by decide) (by decide)) (ib_wk (by decide : Bd 1 (1) (1)) (by decide) (by decide)) (ib_wk (by decide : Bd 99 (99) (99)) (by decide) (by decide)) (by have : ((-1) : Int32).toInt = (-1) := (by decide); have : (1 : Int32).toInt = 1 := (by decide); have : (99 : Int32).toInt = 99 := (by decide); omega) hI o_refl hQ (lv_sub hl [0, 1, 2, 3, 4] rfl)
set_option maxHeartbeats 4000000 in
set_option maxRecDepth 100000 in
theorem gX9_cellsInto_104 (l : Launch) (g : GG) (ad : Nat → Nat) (hD : Dj ad 122) (S : SS) (hI : InvX g ad S) (a1 : Int32) (a2 : Int32) (hq1 : 0 ≤ fld (S 2) 1 + (-1)) : Met l yX9_cellsInto (wG (.code yX9_cellsInto cX9_cellsInto 5 (some .int))) (Rm 2) (XPre g ad 122 S [.ref (ad 104), .int a1, .int a2]) (va_Qi (fun _ S' => S = S') (QB g ad 122) (FA ad 122)) 0 0 (FA ad 122) := by
  refine xmet cX9_cellsInto "EbbWreck$Throwing" (by decide) rfl (Nat.le_of_ble_eq_true rfl) (fun p e s m below meth c E hr hlk hml hQ ls hl => ?_)
  have hx := E.1
  have hb := E.2.1
  have hs : Sp ad 122 (FA ad 122) := Sp.fa hD
  have hl : lv_has ls 5 [(0, .ref (ad 104)), (1, .int a1), (2, .int a2)] := hl
  obtain ⟨v1, v3, v5, v6, v7, v9, c11, b2, b4, b8, b10⟩ := invX_2 hI
  have c11 : S 2 = .inr (1, [.int v1, .int v3, .int v5, .ref (ad 3), .ref (ad 5), .ref (ad 6), .int v6, .int v7, .ref (ad 7), .ref (ad 8), .ref (ad 9), .ref (ad 10), .int v9, .ref (ad 15), .ref (ad 16)]) := c11
  have q12 : fld (S 2) 1 = v3.toInt := fld_of c11 rfl
  have b13 : Bd v3 (1) (12) := ⟨by omega, by omega⟩
  refine lv_iconst (v := 0) hx hb dX9_cellsInto_0 (by decide) ?_
  refine lv_istore_n (lv' := [(3, .int 0), (0, .ref (ad 104)), (1, .int a1), (2, .int a2)]) hx hb dX9_cellsInto_1 rfl hl (by decide) rfl (fun ls hl => ?_)
  refine lv_iconst (v := 0) hx hb dX9_cellsInto_2 (by decide) ?_
  refine lv_istore (lv' := [(4, .int 0), (3, .int 0), (0, .ref (ad 104)), (1, .int a1), (2, .int a2)]) hx hb dX9_cellsInto_3 hl (by decide) rfl (fun ls hl => ?_)
  have loop5 : ∀ (n : Nat) (H : Heap) (locs : List Loc) (ls : Array Slot) (x5_3 : Int32) (x5_4 : Int32), Bd x5_4 (0) (12) → (-1) * x5_4.toInt + 12 < ((n : Nat) : Int) → Hp g ad 122 S (FA ad 122) s.heap H locs → lv_has ls 5 [(4, .int x5_4), (3, .int x5_3), (0, .ref (ad 104)), (1, .int a1), (2, .int a2)] → W p l e (Rm 2) s m [.ref (ad 104), .int a1, .int a2].toArray below meth c H locs 0 0 (MQ below (va_Qi (fun _ S' => S = S') (QB g ad 122) (FA ad 122)) [.ref (ad 104), .int a1, .int a2].toArray s 0 0 (FA ad 122)) (F0 m 5 ls []) := by
    intro n
    induction n with
    | zero => intro H locs ls x5_3 x5_4 Bx5_4 hn5_ hQ hl; exfalso; have := (Bx5_4).2; omega
    | succ n5_ ih5 =>
      intro H locs ls x5_3 x5_4 Bx5_4 hn5_ hQ hl
      refine lv_iload hx hb dX9_cellsInto_5 (lv_at hl 0 rfl) ?_
      refine lv_aload_n hx hb dX9_cellsInto_7 rfl (lv_at hl 2 rfl) ?_
      have c14 := invX_104 hI
      have c14 : S 104 = .inr (9, [.ref (ad 2), .ref (ad 105), .ref (ad 106)]) := c14
      refine xget E hQ 104 (by decide) c14 rfl 0 (by decide) q435 rfl dX9_cellsInto_8 ?_
      refine xget E hQ 2 (by decide) c11 rfl 1 (by decide) q240 rfl dX9_cellsInto_11 ?_
      refine lv_icmp_ge (tgt := 48) hx hb dX9_cellsInto_14 (by decide) (fun k15 => ?_) (fun k15 => ?_)
      · have h16 := ib_le k15
        have b17 : Bd x5_4 (1) (12) := ⟨((rf_le b13 Bx5_4 h16).2).1, (Bx5_4).2⟩
        refine lv_iload_n hx hb dX9_cellsInto_48 rfl (lv_at hl 1 rfl) ?_
        exact xri E hr hlk hQ (rfl) dX9_cellsInto_49
      · have h18 := ib_nle k15
        have b19 : Bd x5_4 (0) (11) := ⟨(Bx5_4).1, ((rf_lt Bx5_4 b13 h18).1).2⟩
        refine lv_iload_n hx hb dX9_cellsInto_17 rfl (lv_at hl 3 rfl) ?_
        refine lv_aload_n hx hb dX9_cellsInto_18 rfl (lv_at hl 2 rfl) ?_
        refine xget E hQ 104 (by decide) c14 rfl 0 (by decide) q435 rfl dX9_cellsInto_19 ?_
        refine lv_iload hx hb dX9_cellsInto_22 (lv_at hl 0 rfl) ?_
        refine lv_iload_n hx hb dX9_cellsInto_24 rfl (lv_at hl 4 rfl) ?_
        refine xcVi E hs hQ hml hl.1 2 (gX1_drifted_2 l g ad hD S hI x5_4 a2 b19 (by omega)) mX1_drifted q1125 (by decide) c11 rfl rfl ⟨(Nat.le_of_ble_eq_true rfl), (Nat.le_of_ble_eq_true rfl)⟩ ⟨(Nat.le_of_ble_eq_true rfl), (Nat.le_of_ble_eq_true rfl)⟩ (Nat.le_of_ble_eq_true rfl) rfl dX9_cellsInto_25 (fun r20 S20 H locs hp20 hQ _ => ?_)
        obtain ⟨rfl, b20⟩ := hp20
        refine lv_ishr hx hb dX9_cellsInto_28 ?_
        refine lv_topi (fun z21 e22 => ?_)
        refine lv_iconst (v := 1) hx hb dX9_cellsInto_29 (by decide) ?_
        refine lv_iand hx hb dX9_cellsInto_30 ?_
        refine lv_topi (fun z23 e24 => ?_)
        have b25 : Bd z23 (0) (1) := ib_and 1 e24 (by decide) (by decide)
        refine lv_iconst (v := 1) hx hb dX9_cellsInto_31 (by decide) ?_
        refine lv_icmp_ne (tgt := 42) hx hb dX9_cellsInto_32 (by decide) (fun k26 => ?_) (fun k26 => ?_)
        · have h27 := ib_ne k26
          have b28 : Bd z23 (0) (0) := rf_nhi b25 (by decide : Bd 1 (1) (1)) h27
          obtain ⟨z29, e30⟩ : ∃ z : Int32, z = x5_4 + 1 := ⟨_, rfl⟩
          have t31 := ib_add e30 b19 (by decide : Bd 1 (1) (1)) (by decide) (by decide)
          have b32 : Bd z29 (1) (12) := ib_addb t31 b19 (by decide : Bd 1 (1) (1))
          have t31 : z29.toInt = x5_4.toInt + 1 := fold_add t31 rfl (by decide)
          refine lv_iinc (v := z29) (lv' := [(4, .int z29), (3, .int x5_3), (0, .ref (ad 104)), (1, .int a1), (2, .int a2)]) hx hb dX9_cellsInto_42 hl (k := 0) rfl (by rw [e30]; rfl) (by decide) rfl (fun ls hl => ?_)
          refine lv_goto (tgt := 5) hx hb dX9_cellsInto_45 (by decide) ?_
          exact ih5 _ _ _ x5_3 z29 (ib_wk b32 (by decide) (by decide)) (by omega) hQ (lv_sub hl [0, 1, 2, 3, 4] rfl)
        · have h33 := ib_eq k26
          have b34 : Bd z23 (1) (1) := ⟨((rf_eq b25 (by decide : Bd 1 (1) (1)) h33).1).1, (b25).2⟩
          refine lv_iload_n hx hb dX9_cellsInto_35 rfl (lv_at hl 1 rfl) ?_
          refine lv_iconst (v := 1) hx hb dX9_cellsInto_36 (by decide) ?_
          refine lv_iload hx hb dX9_cellsInto_37 (lv_at hl 0 rfl) ?_
          refine lv_ishl hx hb dX9_cellsInto_39 ?_
          refine lv_topi (fun z35 e36 => ?_)
          refine lv_ior hx hb dX9_cellsInto_40 ?_
          refine lv_topi (fun z37 e38 => ?_)
          refine lv_istore_n (lv' := [(3, .int z37), (4, .int x5_4), (0, .ref (ad 104)), (1, .int a1), (2, .int a2)]) hx hb dX9_cellsInto_41 rfl hl (by decide) rfl (fun ls hl => ?_)
          obtain ⟨z39, e40⟩ : ∃ z : Int32, z = x5_4 + 1 := ⟨_, rfl⟩
          have t41 := ib_add e40 b19 (by decide : Bd 1 (1) (1)) (by decide) (by decide)
          have b42 : Bd z39 (1) (12) := ib_addb t41 b19 (by decide : Bd 1 (1) (1))
          have t41 : z39.toInt = x5_4.toInt + 1 := fold_add t41 rfl (by decide)
          refine lv_iinc (v := z39) (lv' := [(4, .int z39), (3, .int z37), (0, .ref (ad 104)), (1, .int a1), (2, .int a2)]) hx hb dX9_cellsInto_42 hl (k := 1) rfl (by rw [e40]; rfl) (by decide) rfl (fun ls hl => ?_)
          refine lv_goto (tgt := 5) hx hb dX9_cellsInto_45 (by decide) ?_
          exact ih5 _ _ _ z37 z39 (ib_wk b42 (by decide) (by decide)) (by omega) hQ (lv_sub hl [0, 1, 2, 3, 4] rfl)
  obtain ⟨n5, hn5⟩ := fu_n (12)
  exact loop5 n5 _ _ _ 0 0 (ib_wk (by decide : Bd 0 (0) (0)) (by decide) (by decide)) (by have : (0 : Int32).toInt = 0 := (by decide); omega) hQ (lv_sub hl [0, 1, 2, 3, 4] rfl)
set_option maxHeartbeats 4000000 in
set_option maxRecDepth 100000 in
theorem gX9_cellsBehind_104 (l : Launch) (g : GG) (ad : Nat → Nat) (hD : Dj ad 122) (S : SS) (hI : InvX g ad S) (a1 : Int32) (a2 : Int32) (a3 : Int32) (ba1 : Bd a1 (0) (400)) (ba2 : Bd a2 (0) (400)) (hq1 : 0 ≤ fld (S 2) 1 + (-1)) : Met l yX9_cellsBehind (wG (.code yX9_cellsBehind cX9_cellsBehind 7 (some .int))) (Rm 3) (XPre g ad 122 S [.ref (ad 104), .int a1, .int a2, .int a3]) (va_Qi (fun _ S' => S = S') (QB g ad 122) (FA ad 122)) 0 0 (FA ad 122) := by
  refine xmet cX9_cellsBehind "EbbWreck$Throwing" (by decide) rfl (Nat.le_of_ble_eq_true rfl) (fun p e s m below meth c E hr hlk hml hQ ls hl => ?_)
  have hx := E.1
  have hb := E.2.1
  have hs : Sp ad 122 (FA ad 122) := Sp.fa hD
  have hl : lv_has ls 7 [(0, .ref (ad 104)), (1, .int a1), (2, .int a2), (3, .int a3)] := hl
  obtain ⟨v1, v3, v5, v6, v7, v9, c11, b2, b4, b8, b10⟩ := invX_2 hI
  have c11 : S 2 = .inr (1, [.int v1, .int v3, .int v5, .ref (ad 3), .ref (ad 5), .ref (ad 6), .int v6, .int v7, .ref (ad 7), .ref (ad 8), .ref (ad 9), .ref (ad 10), .int v9, .ref (ad 15), .ref (ad 16)]) := c11
  have q12 : fld (S 2) 1 = v3.toInt := fld_of c11 rfl
  have b13 : Bd v3 (1) (12) := ⟨by omega, by omega⟩
  refine lv_iconst (v := 1) hx hb dX9_cellsBehind_0 (by decide) ?_
  refine lv_iload_n hx hb dX9_cellsBehind_1 rfl (lv_at hl 3 rfl) ?_
  refine lv_ishl hx hb dX9_cellsBehind_2 ?_
  refine lv_topi (fun z14 e15 => ?_)
  refine lv_istore (lv' := [(4, .int z14), (0, .ref (ad 104)), (1, .int a1), (2, .int a2), (3, .int a3)]) hx hb dX9_cellsBehind_3 hl (by decide) rfl (fun ls hl => ?_)
  refine lv_iload_n hx hb dX9_cellsBehind_5 rfl (lv_at hl 3 rfl) ?_
  refine lv_iconst (v := 1) hx hb dX9_cellsBehind_6 (by decide) ?_
  refine lv_isub hx hb dX9_cellsBehind_7 ?_
  refine lv_topi (fun z16 e17 => ?_)
  have t18 := ib_sub e17 ba2 (by decide : Bd 1 (1) (1)) (by decide) (by decide)
  have b19 : Bd z16 (-1) (399) := ib_subb t18 ba2 (by decide : Bd 1 (1) (1))
  have t18 : z16.toInt = a2.toInt - 1 := fold_sub t18 rfl (by decide)
  refine lv_istore (lv' := [(5, .int z16), (4, .int z14), (0, .ref (ad 104)), (1, .int a1), (2, .int a2), (3, .int a3)]) hx hb dX9_cellsBehind_8 hl (by decide) rfl (fun ls hl => ?_)
  have loop10 : ∀ (n : Nat) (H : Heap) (locs : List Loc) (ls : Array Slot) (x10_4 : Int32) (x10_5 : Int32), Bd x10_5 (-1) (399) → x10_5.toInt + 1 < ((n : Nat) : Int) → Hp g ad 122 S (FA ad 122) s.heap H locs → lv_has ls 7 [(5, .int x10_5), (4, .int x10_4), (0, .ref (ad 104)), (1, .int a1), (2, .int a2), (3, .int a3)] → W p l e (Rm 3) s m [.ref (ad 104), .int a1, .int a2, .int a3].toArray below meth c H locs 0 0 (MQ below (va_Qi (fun _ S' => S = S') (QB g ad 122) (FA ad 122)) [.ref (ad 104), .int a1, .int a2, .int a3].toArray s 0 0 (FA ad 122)) (F0 m 10 ls []) := by
    intro n
    induction n with
    | zero => intro H locs ls x10_4 x10_5 Bx10_5 hn10_ hQ hl; exfalso; have := (Bx10_5).1; omega
    | succ n10_ ih10 =>
      intro H locs ls x10_4 x10_5 Bx10_5 hn10_ hQ hl
      refine lv_iload hx hb dX9_cellsBehind_10 (lv_at hl 0 rfl) ?_
      refine lv_iload_n hx hb dX9_cellsBehind_12 rfl (lv_at hl 3 rfl) ?_
      refine lv_icmp_lt (tgt := 59) hx hb dX9_cellsBehind_13 (by decide) (fun k20 => ?_) (fun k20 => ?_)
      · have h21 := ib_lt k20
        refine lv_iload hx hb dX9_cellsBehind_59 (lv_at hl 1 rfl) ?_
        exact xri E hr hlk hQ (rfl) dX9_cellsBehind_61
      · have h22 := ib_nlt k20
        have b23 : Bd a1 (0) (399) := ⟨(ba1).1, ((rf_le ba1 Bx10_5 h22).1).2⟩
        have b24 : Bd x10_5 (0) (399) := ⟨((rf_le ba1 Bx10_5 h22).2).1, (Bx10_5).2⟩
        refine lv_iload hx hb dX9_cellsBehind_16 (lv_at hl 0 rfl) ?_
        refine lv_iload_n hx hb dX9_cellsBehind_18 rfl (lv_at hl 4 rfl) ?_
        refine lv_iconst (v := 1) hx hb dX9_cellsBehind_19 (by decide) ?_
        refine lv_isub hx hb dX9_cellsBehind_20 ?_
        refine lv_topi (fun z25 e26 => ?_)
        have t27 := ib_sub e26 ba2 (by decide : Bd 1 (1) (1)) (by decide) (by decide)
        have b28 : Bd z25 (-1) (399) := ib_subb t27 ba2 (by decide : Bd 1 (1) (1))
        have t27 : z25.toInt = a2.toInt - 1 := fold_sub t27 rfl (by decide)
        refine lv_icmp_ne (tgt := 29) hx hb dX9_cellsBehind_21 (by decide) (fun k29 => ?_) (fun k29 => ?_)
        · have h30 := ib_ne k29
          refine lv_iload hx hb dX9_cellsBehind_29 (lv_at hl 1 rfl) ?_
          refine lv_aload_n hx hb dX9_cellsBehind_31 rfl (lv_at hl 2 rfl) ?_
          have c31 := invX_104 hI
          have c31 : S 104 = .inr (9, [.ref (ad 2), .ref (ad 105), .ref (ad 106)]) := c31
          refine xget E hQ 104 (by decide) c31 rfl 0 (by decide) q435 rfl dX9_cellsBehind_32 ?_
          refine xget E hQ 2 (by decide) c11 rfl 6 (by decide) q265 rfl dX9_cellsBehind_35 ?_
          refine lv_iconst (v := (-1)) hx hb dX9_cellsBehind_38 (by decide) ?_
          refine lv_ixor hx hb dX9_cellsBehind_39 ?_
          refine lv_topi (fun z32 e33 => ?_)
          refine lv_iand hx hb dX9_cellsBehind_40 ?_
          refine lv_topi (fun z34 e35 => ?_)
          refine lv_istore (lv' := [(6, .int z34), (5, .int x10_5), (4, .int x10_4), (0, .ref (ad 104)), (1, .int a1), (2, .int a2), (3, .int a3)]) hx hb dX9_cellsBehind_41 hl (by decide) rfl (fun ls hl => ?_)
          refine lv_aload_n hx hb dX9_cellsBehind_43 rfl (lv_at hl 3 rfl) ?_
          refine lv_iload hx hb dX9_cellsBehind_44 (lv_at hl 0 rfl) ?_
          refine lv_iload hx hb dX9_cellsBehind_46 (lv_at hl 1 rfl) ?_
          refine xcVi E hs hQ hml hl.1 104 (gX9_cellsInto_104 l g ad hD S hI z34 x10_5 (by omega)) mX9_cellsInto q1179 (by decide) c31 rfl rfl ⟨(Nat.le_of_ble_eq_true rfl), (Nat.le_of_ble_eq_true rfl)⟩ ⟨(Nat.le_of_ble_eq_true rfl), (Nat.le_of_ble_eq_true rfl)⟩ (Nat.le_of_ble_eq_true rfl) rfl dX9_cellsBehind_48 (fun r36 S36 H locs hp36 hQ _ => ?_)
          subst hp36
          refine lv_istore (lv' := [(4, .int r36), (6, .int z34), (5, .int x10_5), (0, .ref (ad 104)), (1, .int a1), (2, .int a2), (3, .int a3)]) hx hb dX9_cellsBehind_51 hl (by decide) rfl (fun ls hl => ?_)
          obtain ⟨z37, e38⟩ : ∃ z : Int32, z = x10_5 + (-1) := ⟨_, rfl⟩
          have t39 := ib_add e38 b24 (by decide : Bd (-1) (-1) (-1)) (by decide) (by decide)
          have b40 : Bd z37 (-1) (398) := ib_addb t39 b24 (by decide : Bd (-1) (-1) (-1))
          have t39 : z37.toInt = x10_5.toInt + (-1) := fold_add t39 rfl (by decide)
          refine lv_iinc (v := z37) (lv' := [(5, .int z37), (4, .int r36), (6, .int z34), (0, .ref (ad 104)), (1, .int a1), (2, .int a2), (3, .int a3)]) hx hb dX9_cellsBehind_53 hl (k := 2) rfl (by rw [e38]; rfl) (by decide) rfl (fun ls hl => ?_)
          refine lv_goto (tgt := 10) hx hb dX9_cellsBehind_56 (by decide) ?_
          exact ih10 _ _ _ r36 z37 (ib_wk b40 (by decide) (by decide)) (by omega) hQ (lv_sub hl [0, 1, 3, 4, 5, 6] rfl)
        · have h41 := ib_eq k29
          have b42 : Bd z25 (0) (399) := ⟨((rf_eq b24 b28 h41).2).1, (b28).2⟩
          have b43 : Bd a2 (1) (400) := ⟨by omega, by omega⟩
          refine lv_iload hx hb dX9_cellsBehind_24 (lv_at hl 1 rfl) ?_
          refine lv_goto (tgt := 41) hx hb dX9_cellsBehind_26 (by decide) ?_
          refine lv_istore (lv' := [(6, .int x10_4), (5, .int x10_5), (4, .int x10_4), (0, .ref (ad 104)), (1, .int a1), (2, .int a2), (3, .int a3)]) hx hb dX9_cellsBehind_41 hl (by decide) rfl (fun ls hl => ?_)
          refine lv_aload_n hx hb dX9_cellsBehind_43 rfl (lv_at hl 3 rfl) ?_
          refine lv_iload hx hb dX9_cellsBehind_44 (lv_at hl 0 rfl) ?_
          refine lv_iload hx hb dX9_cellsBehind_46 (lv_at hl 1 rfl) ?_
          have c45 := invX_104 hI
          have c45 : S 104 = .inr (9, [.ref (ad 2), .ref (ad 105), .ref (ad 106)]) := c45
          refine xcVi E hs hQ hml hl.1 104 (gX9_cellsInto_104 l g ad hD S hI x10_4 x10_5 (by omega)) mX9_cellsInto q1179 (by decide) c45 rfl rfl ⟨(Nat.le_of_ble_eq_true rfl), (Nat.le_of_ble_eq_true rfl)⟩ ⟨(Nat.le_of_ble_eq_true rfl), (Nat.le_of_ble_eq_true rfl)⟩ (Nat.le_of_ble_eq_true rfl) rfl dX9_cellsBehind_48 (fun r44 S44 H locs hp44 hQ _ => ?_)
          subst hp44
          refine lv_istore (lv' := [(4, .int r44), (6, .int x10_4), (5, .int x10_5), (0, .ref (ad 104)), (1, .int a1), (2, .int a2), (3, .int a3)]) hx hb dX9_cellsBehind_51 hl (by decide) rfl (fun ls hl => ?_)
          obtain ⟨z46, e47⟩ : ∃ z : Int32, z = x10_5 + (-1) := ⟨_, rfl⟩
          have t48 := ib_add e47 b24 (by decide : Bd (-1) (-1) (-1)) (by decide) (by decide)
          have b49 : Bd z46 (-1) (398) := ib_addb t48 b24 (by decide : Bd (-1) (-1) (-1))
          have t48 : z46.toInt = x10_5.toInt + (-1) := fold_add t48 rfl (by decide)
          refine lv_iinc (v := z46) (lv' := [(5, .int z46), (4, .int r44), (6, .int x10_4), (0, .ref (ad 104)), (1, .int a1), (2, .int a2), (3, .int a3)]) hx hb dX9_cellsBehind_53 hl (k := 2) rfl (by rw [e47]; rfl) (by decide) rfl (fun ls hl => ?_)
          refine lv_goto (tgt := 10) hx hb dX9_cellsBehind_56 (by decide) ?_
          exact ih10 _ _ _ r44 z46 (ib_wk b49 (by decide) (by decide)) (by omega) hQ (lv_sub hl [0, 1, 3, 4, 5, 6] rfl)
  obtain ⟨n10, hn10⟩ := fu_n (z16.toInt + 1)
  exact loop10 n10 _ _ _ z14 z16 b19 (by omega) hQ (lv_sub hl [0, 1, 2, 3, 4, 5] rfl)
set_option maxHeartbeats 4000000 in
set_option maxRecDepth 100000 in
theorem gX9_latestThrow_104 (l : Launch) (g : GG) (ad : Nat → Nat) (hD : Dj ad 122) (S : SS) (hI : InvX g ad S) (a1 : Int32) (a2 : Int32) (a3 : Int32) (ba2 : Bd a2 (0) (400)) (hq1 : 0 ≤ fld (S 2) 1 + (-1)) : Met l yX9_latestThrow (wG (.code yX9_latestThrow cX9_latestThrow 7 (some .int))) (Rm 3) (XPre g ad 122 S [.ref (ad 104), .int a1, .int a2, .int a3]) (va_Qi (fun r S' => S = S' ∧ Bd r (-1) (399)) (QB g ad 122) (FA ad 122)) 0 0 (FA ad 122) := by
  refine xmet cX9_latestThrow "EbbWreck$Throwing" (by decide) rfl (Nat.le_of_ble_eq_true rfl) (fun p e s m below meth c E hr hlk hml hQ ls hl => ?_)
  have hx := E.1
  have hb := E.2.1
  have hs : Sp ad 122 (FA ad 122) := Sp.fa hD
  have hl : lv_has ls 7 [(0, .ref (ad 104)), (1, .int a1), (2, .int a2), (3, .int a3)] := hl
  obtain ⟨v1, v3, v5, v6, v7, v9, c11, b2, b4, b8, b10⟩ := invX_2 hI
  have c11 : S 2 = .inr (1, [.int v1, .int v3, .int v5, .ref (ad 3), .ref (ad 5), .ref (ad 6), .int v6, .int v7, .ref (ad 7), .ref (ad 8), .ref (ad 9), .ref (ad 10), .int v9, .ref (ad 15), .ref (ad 16)]) := c11
  have q12 : fld (S 2) 1 = v3.toInt := fld_of c11 rfl
  have b13 : Bd v3 (1) (12) := ⟨by omega, by omega⟩
  refine lv_iconst (v := 1) hx hb dX9_latestThrow_0 (by decide) ?_
  refine lv_iload_n hx hb dX9_latestThrow_1 rfl (lv_at hl 3 rfl) ?_
  refine lv_ishl hx hb dX9_latestThrow_2 ?_
  refine lv_topi (fun z14 e15 => ?_)
  refine lv_aload_n hx hb dX9_latestThrow_3 rfl (lv_at hl 0 rfl) ?_
  have c16 := invX_104 hI
  have c16 : S 104 = .inr (9, [.ref (ad 2), .ref (ad 105), .ref (ad 106)]) := c16
  refine xget E hQ 104 (by decide) c16 rfl 0 (by decide) q435 rfl dX9_latestThrow_4 ?_
  refine xget E hQ 2 (by decide) c11 rfl 6 (by decide) q265 rfl dX9_latestThrow_7 ?_
  refine lv_iand hx hb dX9_latestThrow_10 ?_
  refine lv_topi (fun z17 e18 => ?_)
  refine lv_istore (lv' := [(4, .int z17), (0, .ref (ad 104)), (1, .int a1), (2, .int a2), (3, .int a3)]) hx hb dX9_latestThrow_11 hl (by decide) rfl (fun ls hl => ?_)
  refine lv_iload_n hx hb dX9_latestThrow_13 rfl (lv_at hl 3 rfl) ?_
  refine lv_iconst (v := 1) hx hb dX9_latestThrow_14 (by decide) ?_
  refine lv_isub hx hb dX9_latestThrow_15 ?_
  refine lv_topi (fun z19 e20 => ?_)
  have t21 := ib_sub e20 ba2 (by decide : Bd 1 (1) (1)) (by decide) (by decide)
  have b22 : Bd z19 (-1) (399) := ib_subb t21 ba2 (by decide : Bd 1 (1) (1))
  have t21 : z19.toInt = a2.toInt - 1 := fold_sub t21 rfl (by decide)
  refine lv_istore (lv' := [(5, .int z19), (4, .int z17), (0, .ref (ad 104)), (1, .int a1), (2, .int a2), (3, .int a3)]) hx hb dX9_latestThrow_16 hl (by decide) rfl (fun ls hl => ?_)
  have loop18 : ∀ (n : Nat) (H : Heap) (locs : List Loc) (ls : Array Slot) (x18_4 : Int32) (x18_5 : Int32), Bd x18_5 (-1) (399) → x18_5.toInt + 1 < ((n : Nat) : Int) → Hp g ad 122 S (FA ad 122) s.heap H locs → lv_has ls 7 [(5, .int x18_5), (4, .int x18_4), (0, .ref (ad 104)), (1, .int a1), (2, .int a2), (3, .int a3)] → W p l e (Rm 3) s m [.ref (ad 104), .int a1, .int a2, .int a3].toArray below meth c H locs 0 0 (MQ below (va_Qi (fun r S' => S = S' ∧ Bd r (-1) (399)) (QB g ad 122) (FA ad 122)) [.ref (ad 104), .int a1, .int a2, .int a3].toArray s 0 0 (FA ad 122)) (F0 m 18 ls []) := by
    intro n
    induction n with
    | zero => intro H locs ls x18_4 x18_5 Bx18_5 hn18_ hQ hl; exfalso; have := (Bx18_5).1; omega
    | succ n18_ ih18 =>
      intro H locs ls x18_4 x18_5 Bx18_5 hn18_ hQ hl
      refine lv_iload hx hb dX9_latestThrow_18 (lv_at hl 0 rfl) ?_
      refine lv_if_lt (tgt := 71) hx hb dX9_latestThrow_20 (by decide) (fun k23 => ?_) (fun k23 => ?_)
      · have h24 := ib_lt k23
        have b25 : Bd x18_5 (-1) (-1) := ⟨(Bx18_5).1, ((rf_lt Bx18_5 (by decide : Bd 0 (0) (0)) h24).1).2⟩
        refine lv_iconst (v := (-1)) hx hb dX9_latestThrow_71 (by decide) ?_
        exact xri E hr hlk hQ (⟨rfl, (ib_wk (by decide : Bd (-1) (-1) (-1)) (by decide) (by decide))⟩) dX9_latestThrow_72
      · have h26 := ib_nlt k23
        have b27 : Bd x18_5 (0) (399) := ⟨((rf_le (by decide : Bd 0 (0) (0)) Bx18_5 h26).2).1, (Bx18_5).2⟩
        refine lv_iload hx hb dX9_latestThrow_23 (lv_at hl 1 rfl) ?_
        refine lv_if_eq (tgt := 71) hx hb dX9_latestThrow_25 (by decide) (fun k28 => ?_) (fun k28 => ?_)
        · have h29 := ib_eq k28
          have b30 : Bd x18_4 (0) (0) := ⟨((rf_eq (ib_full x18_4) (by decide : Bd 0 (0) (0)) h29).1).1, ((rf_eq (ib_full x18_4) (by decide : Bd 0 (0) (0)) h29).1).2⟩
          refine lv_iconst (v := (-1)) hx hb dX9_latestThrow_71 (by decide) ?_
          exact xri E hr hlk hQ (⟨rfl, (ib_wk (by decide : Bd (-1) (-1) (-1)) (by decide) (by decide))⟩) dX9_latestThrow_72
        · have h31 := ib_ne k28
          refine lv_aload_n hx hb dX9_latestThrow_28 rfl (lv_at hl 2 rfl) ?_
          refine lv_iload hx hb dX9_latestThrow_29 (lv_at hl 1 rfl) ?_
          refine lv_iload hx hb dX9_latestThrow_31 (lv_at hl 0 rfl) ?_
          refine xcVi E hs hQ hml hl.1 104 (gX9_cellsInto_104 l g ad hD S hI x18_4 x18_5 (by omega)) mX9_cellsInto q1179 (by decide) c16 rfl rfl ⟨(Nat.le_of_ble_eq_true rfl), (Nat.le_of_ble_eq_true rfl)⟩ ⟨(Nat.le_of_ble_eq_true rfl), (Nat.le_of_ble_eq_true rfl)⟩ (Nat.le_of_ble_eq_true rfl) rfl dX9_latestThrow_33 (fun r32 S32 H locs hp32 hQ _ => ?_)
          subst hp32
          refine lv_istore (lv' := [(6, .int r32), (5, .int x18_5), (4, .int x18_4), (0, .ref (ad 104)), (1, .int a1), (2, .int a2), (3, .int a3)]) hx hb dX9_latestThrow_36 hl (by decide) rfl (fun ls hl => ?_)
          refine lv_iload hx hb dX9_latestThrow_38 (lv_at hl 0 rfl) ?_
          refine lv_iload_n hx hb dX9_latestThrow_40 rfl (lv_at hl 4 rfl) ?_
          refine lv_ishr hx hb dX9_latestThrow_41 ?_
          refine lv_topi (fun z33 e34 => ?_)
          refine lv_iconst (v := 1) hx hb dX9_latestThrow_42 (by decide) ?_
          refine lv_iand hx hb dX9_latestThrow_43 ?_
          refine lv_topi (fun z35 e36 => ?_)
          have b37 : Bd z35 (0) (1) := ib_and 1 e36 (by decide) (by decide)
          refine lv_iconst (v := 1) hx hb dX9_latestThrow_44 (by decide) ?_
          refine lv_icmp_ne (tgt := 51) hx hb dX9_latestThrow_45 (by decide) (fun k38 => ?_) (fun k38 => ?_)
          · have h39 := ib_ne k38
            have b40 : Bd z35 (0) (0) := rf_nhi b37 (by decide : Bd 1 (1) (1)) h39
            refine lv_iload hx hb dX9_latestThrow_51 (lv_at hl 0 rfl) ?_
            refine lv_aload_n hx hb dX9_latestThrow_53 rfl (lv_at hl 3 rfl) ?_
            refine xget E hQ 104 (by decide) c16 rfl 0 (by decide) q435 rfl dX9_latestThrow_54 ?_
            refine xget E hQ 2 (by decide) c11 rfl 6 (by decide) q265 rfl dX9_latestThrow_57 ?_
            refine lv_iconst (v := (-1)) hx hb dX9_latestThrow_60 (by decide) ?_
            refine lv_ixor hx hb dX9_latestThrow_61 ?_
            refine lv_topi (fun z41 e42 => ?_)
            refine lv_iand hx hb dX9_latestThrow_62 ?_
            refine lv_topi (fun z43 e44 => ?_)
            refine lv_istore (lv' := [(4, .int z43), (6, .int r32), (5, .int x18_5), (0, .ref (ad 104)), (1, .int a1), (2, .int a2), (3, .int a3)]) hx hb dX9_latestThrow_63 hl (by decide) rfl (fun ls hl => ?_)
            obtain ⟨z45, e46⟩ : ∃ z : Int32, z = x18_5 + (-1) := ⟨_, rfl⟩
            have t47 := ib_add e46 b27 (by decide : Bd (-1) (-1) (-1)) (by decide) (by decide)
            have b48 : Bd z45 (-1) (398) := ib_addb t47 b27 (by decide : Bd (-1) (-1) (-1))
            have t47 : z45.toInt = x18_5.toInt + (-1) := fold_add t47 rfl (by decide)
            refine lv_iinc (v := z45) (lv' := [(5, .int z45), (4, .int z43), (6, .int r32), (0, .ref (ad 104)), (1, .int a1), (2, .int a2), (3, .int a3)]) hx hb dX9_latestThrow_65 hl (k := 2) rfl (by rw [e46]; rfl) (by decide) rfl (fun ls hl => ?_)
            refine lv_goto (tgt := 18) hx hb dX9_latestThrow_68 (by decide) ?_
            exact ih18 _ _ _ z43 z45 (ib_wk b48 (by decide) (by decide)) (by omega) hQ (lv_sub hl [0, 1, 3, 4, 5, 6] rfl)
          · have h49 := ib_eq k38
            have b50 : Bd z35 (1) (1) := ⟨((rf_eq b37 (by decide : Bd 1 (1) (1)) h49).1).1, (b37).2⟩
            refine lv_iload hx hb dX9_latestThrow_48 (lv_at hl 1 rfl) ?_
            exact xri E hr hlk hQ (⟨rfl, (ib_wk b27 (by decide) (by decide))⟩) dX9_latestThrow_50
  obtain ⟨n18, hn18⟩ := fu_n (z19.toInt + 1)
  exact loop18 n18 _ _ _ z17 z19 b22 (by omega) hQ (lv_sub hl [0, 1, 2, 3, 4, 5] rfl)
set_option maxHeartbeats 4000000 in
set_option maxRecDepth 100000 in
theorem gX11_drifts_0 (l : Launch) (g : GG) (ad : Nat → Nat) (hD : Dj ad 122) (S : SS) (hI : InvX g ad S) (a1 : Int32) (a2 : Int32) (hq1 : 0 ≤ 1201 * fld (S 2) 1 + (-1) * fld (S 2) 0) (hq2 : 0 ≤ 8 * fld (S 2) 1 + (-1) * fld (S 2) 7) (hq3 : 0 ≤ 3 * fld (S 2) 1 + (-1) * fld (S 2) 12) : Met l yX11_drifts (wG (.code yX11_drifts cX11_drifts 3 (some .int))) (Rm 2) (XPre g ad 122 S [.ref (ad 0), .int a1, .int a2]) (va_Qi (fun r S' => S = S' ∧ Bd r (-2) (11)) (QB g ad 122) (FA ad 122)) 0 0 (FA ad 122) := by
  refine xmet cX11_drifts "EbbWreck" (by decide) rfl (Nat.le_of_ble_eq_true rfl) (fun p e s m below meth c E hr hlk hml hQ ls hl => ?_)
  have hx := E.1
  have hb := E.2.1
  have hs : Sp ad 122 (FA ad 122) := Sp.fa hD
  have hl : lv_has ls 3 [(0, .ref (ad 0)), (1, .int a1), (2, .int a2)] := hl
  obtain ⟨v1, v3, v5, v6, v7, v9, c11, b2, b4, b8, b10⟩ := invX_2 hI
  have c11 : S 2 = .inr (1, [.int v1, .int v3, .int v5, .ref (ad 3), .ref (ad 5), .ref (ad 6), .int v6, .int v7, .ref (ad 7), .ref (ad 8), .ref (ad 9), .ref (ad 10), .int v9, .ref (ad 15), .ref (ad 16)]) := c11
  have q12 : fld (S 2) 1 = v3.toInt := fld_of c11 rfl
  have q13 : fld (S 2) 0 = v1.toInt := fld_of c11 rfl
  have q14 : fld (S 2) 7 = v7.toInt := fld_of c11 rfl
  have q15 : fld (S 2) 12 = v9.toInt := fld_of c11 rfl
  refine lv_aload_n hx hb dX11_drifts_0 rfl (lv_at hl 0 rfl) ?_
  obtain ⟨v16, v18, v19, c20, b17⟩ := invX_0 hI
  have c20 : S 0 = .inr (11, [.ref (ad 1), .int v16, .int v18, .int v19, .ref (ad 2), .ref (ad 20), .ref (ad 38), .ref (ad 93), .ref (ad 94), .ref (ad 95), .ref (ad 102), .ref (ad 104), .ref (ad 107), .ref (ad 111), .ref (ad 119)]) := c20
  refine xget E hQ 0 (by decide) c20 rfl 4 (by decide) q520 rfl dX11_drifts_1 ?_
  refine lv_iload_n hx hb dX11_drifts_4 rfl (lv_at hl 1 rfl) ?_
  refine xcVi E hs hQ hml hl.1 2 (gX1_hasCell_2 l g ad hD S hI a1) mX1_hasCell q823 (by decide) c11 rfl rfl ⟨(Nat.le_of_ble_eq_true rfl), (Nat.le_of_ble_eq_true rfl)⟩ ⟨(Nat.le_of_ble_eq_true rfl), (Nat.le_of_ble_eq_true rfl)⟩ (Nat.le_of_ble_eq_true rfl) rfl dX11_drifts_5 (fun r21 S21 H locs hp21 hQ _ => ?_)
  obtain ⟨rfl, b21, g21_0⟩ := hp21
  refine lv_if_eq (tgt := 19) hx hb dX11_drifts_8 (by decide) (fun k22 => ?_) (fun k22 => ?_)
  · have h23 := ib_eq k22
    have b24 : Bd r21 (0) (0) := ⟨(b21).1, ((rf_eq b21 (by decide : Bd 0 (0) (0)) h23).1).2⟩
    clear g21_0
    refine lv_bipush (v := (-2)) hx hb dX11_drifts_19 (by decide) ?_
    exact xri E hr hlk hQ (⟨rfl, (ib_wk (by decide : Bd (-2) (-2) (-2)) (by decide) (by decide))⟩) dX11_drifts_21
  · have h25 := ib_ne k22
    have b26 : Bd r21 (1) (1) := rf_nlo b21 (by decide : Bd 0 (0) (0)) h25
    have g27 := g21_0.resolve_left (by omega)
    clear g21_0
    have b28 : Bd a1 (0) (11) := ⟨by omega, by omega⟩
    have b29 : Bd v3 (1) (12) := ⟨by omega, by omega⟩
    refine lv_aload_n hx hb dX11_drifts_11 rfl (lv_at hl 0 rfl) ?_
    refine lv_iload_n hx hb dX11_drifts_12 rfl (lv_at hl 2 rfl) ?_
    refine xcVi E hs hQ hml hl.1 0 (gX11_isTideHour_0 l g ad hD S hI a2) mX11_isTideHour q874 (by decide) c20 rfl rfl ⟨(Nat.le_of_ble_eq_true rfl), (Nat.le_of_ble_eq_true rfl)⟩ ⟨(Nat.le_of_ble_eq_true rfl), (Nat.le_of_ble_eq_true rfl)⟩ (Nat.le_of_ble_eq_true rfl) rfl dX11_drifts_13 (fun r30 S30 H locs hp30 hQ _ => ?_)
    obtain ⟨rfl, b30, g30_0⟩ := hp30
    refine lv_if_ne (tgt := 22) hx hb dX11_drifts_16 (by decide) (fun k31 => ?_) (fun k31 => ?_)
    · have h32 := ib_ne k31
      have b33 : Bd r30 (1) (1) := rf_nlo b30 (by decide : Bd 0 (0) (0)) h32
      have g34 := g30_0.resolve_left (by omega)
      clear g30_0
      have b35 : Bd v1 (1) (1201) := ⟨by omega, by omega⟩
      refine lv_aload_n hx hb dX11_drifts_22 rfl (lv_at hl 0 rfl) ?_
      refine xget E hQ 0 (by decide) c20 rfl 4 (by decide) q520 rfl dX11_drifts_23 ?_
      refine lv_iload_n hx hb dX11_drifts_26 rfl (lv_at hl 1 rfl) ?_
      refine lv_iload_n hx hb dX11_drifts_27 rfl (lv_at hl 2 rfl) ?_
      refine xcVi E hs hQ hml hl.1 2 (gX1_drifted_2 l g ad hD S hI a1 a2 b28 (by omega)) mX1_drifted q922 (by decide) c11 rfl rfl ⟨(Nat.le_of_ble_eq_true rfl), (Nat.le_of_ble_eq_true rfl)⟩ ⟨(Nat.le_of_ble_eq_true rfl), (Nat.le_of_ble_eq_true rfl)⟩ (Nat.le_of_ble_eq_true rfl) rfl dX11_drifts_28 (fun r36 S36 H locs hp36 hQ _ => ?_)
      obtain ⟨rfl, b36⟩ := hp36
      exact xri E hr hlk hQ (⟨rfl, (ib_wk b36 (by decide) (by decide))⟩) dX11_drifts_31
    · have h37 := ib_eq k31
      have b38 : Bd r30 (0) (0) := ⟨(b30).1, ((rf_eq b30 (by decide : Bd 0 (0) (0)) h37).1).2⟩
      clear g30_0
      refine lv_bipush (v := (-2)) hx hb dX11_drifts_19 (by decide) ?_
      exact xri E hr hlk hQ (⟨rfl, (ib_wk (by decide : Bd (-2) (-2) (-2)) (by decide) (by decide))⟩) dX11_drifts_21
set_option maxHeartbeats 4000000 in
set_option maxRecDepth 100000 in
theorem gX11_eddy_0 (l : Launch) (g : GG) (ad : Nat → Nat) (hD : Dj ad 122) (S : SS) (hI : InvX g ad S) (a1 : Int32) (hq1 : 0 ≤ 1201 * fld (S 2) 1 + (-1) * fld (S 2) 0) (hq2 : 0 ≤ 8 * fld (S 2) 1 + (-1) * fld (S 2) 7) (hq3 : 0 ≤ 3 * fld (S 2) 1 + (-1) * fld (S 2) 12) : Met l yX11_eddy (wG (.code yX11_eddy cX11_eddy 2 (some .int))) (Rm 3) (XPre g ad 122 S [.ref (ad 0), .int a1]) (va_Qi (fun r S' => S = S' ∧ Bd r (-2) (12)) (QB g ad 122) (FA ad 122)) 0 0 (FA ad 122) := by
  refine xmet cX11_eddy "EbbWreck" (by decide) rfl (Nat.le_of_ble_eq_true rfl) (fun p e s m below meth c E hr hlk hml hQ ls hl => ?_)
  have hx := E.1
  have hb := E.2.1
  have hs : Sp ad 122 (FA ad 122) := Sp.fa hD
  have hl : lv_has ls 2 [(0, .ref (ad 0)), (1, .int a1)] := hl
  obtain ⟨v1, v3, v5, v6, v7, v9, c11, b2, b4, b8, b10⟩ := invX_2 hI
  have c11 : S 2 = .inr (1, [.int v1, .int v3, .int v5, .ref (ad 3), .ref (ad 5), .ref (ad 6), .int v6, .int v7, .ref (ad 7), .ref (ad 8), .ref (ad 9), .ref (ad 10), .int v9, .ref (ad 15), .ref (ad 16)]) := c11
  have q12 : fld (S 2) 1 = v3.toInt := fld_of c11 rfl
  have q13 : fld (S 2) 0 = v1.toInt := fld_of c11 rfl
  have q14 : fld (S 2) 7 = v7.toInt := fld_of c11 rfl
  have q15 : fld (S 2) 12 = v9.toInt := fld_of c11 rfl
  refine lv_aload_n hx hb dX11_eddy_0 rfl (lv_at hl 0 rfl) ?_
  obtain ⟨v16, v18, v19, c20, b17⟩ := invX_0 hI
  have c20 : S 0 = .inr (11, [.ref (ad 1), .int v16, .int v18, .int v19, .ref (ad 2), .ref (ad 20), .ref (ad 38), .ref (ad 93), .ref (ad 94), .ref (ad 95), .ref (ad 102), .ref (ad 104), .ref (ad 107), .ref (ad 111), .ref (ad 119)]) := c20
  refine xget E hQ 0 (by decide) c20 rfl 4 (by decide) q520 rfl dX11_eddy_1 ?_
  refine lv_iload_n hx hb dX11_eddy_4 rfl (lv_at hl 1 rfl) ?_
  refine xcVi E hs hQ hml hl.1 2 (gX1_hasCell_2 l g ad hD S hI a1) mX1_hasCell q823 (by decide) c11 rfl rfl ⟨(Nat.le_of_ble_eq_true rfl), (Nat.le_of_ble_eq_true rfl)⟩ ⟨(Nat.le_of_ble_eq_true rfl), (Nat.le_of_ble_eq_true rfl)⟩ (Nat.le_of_ble_eq_true rfl) rfl dX11_eddy_5 (fun r21 S21 H locs hp21 hQ _ => ?_)
  obtain ⟨rfl, b21, g21_0⟩ := hp21
  refine lv_if_eq (tgt := 22) hx hb dX11_eddy_8 (by decide) (fun k22 => ?_) (fun k22 => ?_)
  · have h23 := ib_eq k22
    have b24 : Bd r21 (0) (0) := ⟨(b21).1, ((rf_eq b21 (by decide : Bd 0 (0) (0)) h23).1).2⟩
    clear g21_0
    refine lv_bipush (v := (-2)) hx hb dX11_eddy_22 (by decide) ?_
    exact xri E hr hlk hQ (⟨rfl, (ib_wk (by decide : Bd (-2) (-2) (-2)) (by decide) (by decide))⟩) dX11_eddy_24
  · have h25 := ib_ne k22
    have b26 : Bd r21 (1) (1) := rf_nlo b21 (by decide : Bd 0 (0) (0)) h25
    have g27 := g21_0.resolve_left (by omega)
    clear g21_0
    have b28 : Bd a1 (0) (11) := ⟨by omega, by omega⟩
    have b29 : Bd v3 (1) (12) := ⟨by omega, by omega⟩
    refine lv_aload_n hx hb dX11_eddy_11 rfl (lv_at hl 0 rfl) ?_
    refine xget E hQ 0 (by decide) c20 rfl 11 (by decide) q527 rfl dX11_eddy_12 ?_
    refine lv_iload_n hx hb dX11_eddy_15 rfl (lv_at hl 1 rfl) ?_
    have c31 := invX_104 hI
    have c31 : S 104 = .inr (9, [.ref (ad 2), .ref (ad 105), .ref (ad 106)]) := c31
    refine xcVi E hs hQ hml hl.1 104 (gX9_tidesToReturn_104 l g ad hD S hI a1 b28 (by omega)) mX9_tidesToReturn q1121 (by decide) c31 rfl rfl ⟨(Nat.le_of_ble_eq_true rfl), (Nat.le_of_ble_eq_true rfl)⟩ ⟨(Nat.le_of_ble_eq_true rfl), (Nat.le_of_ble_eq_true rfl)⟩ (Nat.le_of_ble_eq_true rfl) rfl dX11_eddy_16 (fun r30 S30 H locs hp30 hQ _ => ?_)
    obtain ⟨rfl, b30⟩ := hp30
    refine lv_goto (tgt := 24) hx hb dX11_eddy_19 (by decide) ?_
    exact xri E hr hlk hQ (⟨rfl, (ib_wk b30 (by decide) (by decide))⟩) dX11_eddy_24
set_option maxHeartbeats 4000000 in
set_option maxRecDepth 100000 in
theorem gX11_stuck_0 (l : Launch) (g : GG) (ad : Nat → Nat) (hD : Dj ad 122) (S : SS) (hI : InvX g ad S) (hq1 : 0 ≤ 1201 * fld (S 2) 1 + (-1) * fld (S 2) 0) (hq2 : 0 ≤ 8 * fld (S 2) 1 + (-1) * fld (S 2) 7) (hq3 : 0 ≤ 3 * fld (S 2) 1 + (-1) * fld (S 2) 12) : Met l yX11_stuck (wG (.code yX11_stuck cX11_stuck 1 (some .int))) (Rm 6) (XPre g ad 122 S [.ref (ad 0)]) (va_Qi (fun _ S' => InvX g ad S' ∧ (∀ j, j ∉ ([105, 106] : List Nat) → S' j = S j)) (QB g ad 122) (FA ad 122)) 0 0 (FA ad 122) := by
  refine xmet cX11_stuck "EbbWreck" (by decide) rfl (Nat.le_of_ble_eq_true rfl) (fun p e s m below meth c E hr hlk hml hQ ls hl => ?_)
  have hx := E.1
  have hb := E.2.1
  have hs : Sp ad 122 (FA ad 122) := Sp.fa hD
  have hl : lv_has ls 1 [(0, .ref (ad 0))] := hl
  obtain ⟨v1, v3, v5, v6, v7, v9, c11, b2, b4, b8, b10⟩ := invX_2 hI
  have c11 : S 2 = .inr (1, [.int v1, .int v3, .int v5, .ref (ad 3), .ref (ad 5), .ref (ad 6), .int v6, .int v7, .ref (ad 7), .ref (ad 8), .ref (ad 9), .ref (ad 10), .int v9, .ref (ad 15), .ref (ad 16)]) := c11
  have q12 : fld (S 2) 1 = v3.toInt := fld_of c11 rfl
  have q13 : fld (S 2) 0 = v1.toInt := fld_of c11 rfl
  have q14 : fld (S 2) 7 = v7.toInt := fld_of c11 rfl
  have q15 : fld (S 2) 12 = v9.toInt := fld_of c11 rfl
  refine lv_aload_n hx hb dX11_stuck_0 rfl (lv_at hl 0 rfl) ?_
  obtain ⟨v16, v18, v19, c20, b17⟩ := invX_0 hI
  have c20 : S 0 = .inr (11, [.ref (ad 1), .int v16, .int v18, .int v19, .ref (ad 2), .ref (ad 20), .ref (ad 38), .ref (ad 93), .ref (ad 94), .ref (ad 95), .ref (ad 102), .ref (ad 104), .ref (ad 107), .ref (ad 111), .ref (ad 119)]) := c20
  refine xget E hQ 0 (by decide) c20 rfl 4 (by decide) q520 rfl dX11_stuck_1 ?_
  refine xcVi E hs hQ hml hl.1 2 (gX1_isTold_2 l g ad hD S hI ) mX1_isTold q878 (by decide) c11 rfl rfl ⟨(Nat.le_of_ble_eq_true rfl), (Nat.le_of_ble_eq_true rfl)⟩ ⟨(Nat.le_of_ble_eq_true rfl), (Nat.le_of_ble_eq_true rfl)⟩ (Nat.le_of_ble_eq_true rfl) rfl dX11_stuck_4 (fun r21 S21 H locs hp21 hQ _ => ?_)
  obtain ⟨rfl, b21, g21_0⟩ := hp21
  refine lv_if_eq (tgt := 20) hx hb dX11_stuck_7 (by decide) (fun k22 => ?_) (fun k22 => ?_)
  · have h23 := ib_eq k22
    have b24 : Bd r21 (0) (0) := ⟨(b21).1, ((rf_eq b21 (by decide : Bd 0 (0) (0)) h23).1).2⟩
    clear g21_0
    refine lv_bipush (v := (-2)) hx hb dX11_stuck_20 (by decide) ?_
    exact xri E hr hlk hQ (⟨hI, o_refl⟩) dX11_stuck_22
  · have h25 := ib_ne k22
    have b26 : Bd r21 (1) (1) := rf_nlo b21 (by decide : Bd 0 (0) (0)) h25
    have g27 := g21_0.resolve_left (by omega)
    clear g21_0
    have b28 : Bd v1 (1) (1201) := ⟨by omega, by omega⟩
    refine lv_aload_n hx hb dX11_stuck_10 rfl (lv_at hl 0 rfl) ?_
    refine xget E hQ 0 (by decide) c20 rfl 11 (by decide) q527 rfl dX11_stuck_11 ?_
    have c30 := invX_104 hI
    have c30 : S 104 = .inr (9, [.ref (ad 2), .ref (ad 105), .ref (ad 106)]) := c30
    refine xcVi E hs hQ hml hl.1 104 (gX9_neverUp_104 l g ad hD S hI (by omega)) mX9_neverUp q1131 (by decide) c30 rfl rfl ⟨(Nat.le_of_ble_eq_true rfl), (Nat.le_of_ble_eq_true rfl)⟩ ⟨(Nat.le_of_ble_eq_true rfl), (Nat.le_of_ble_eq_true rfl)⟩ (Nat.le_of_ble_eq_true rfl) rfl dX11_stuck_14 (fun r29 S29 H locs hp29 hQ _ => ?_)
    obtain ⟨hI, o29⟩ := hp29
    refine lv_goto (tgt := 22) hx hb dX11_stuck_17 (by decide) ?_
    exact xri E hr hlk hQ (⟨hI, (o_trans o_refl o29 (by decide))⟩) dX11_stuck_22
set_option maxHeartbeats 4000000 in
set_option maxRecDepth 100000 in
theorem gX11_drop_0 (l : Launch) (g : GG) (ad : Nat → Nat) (hD : Dj ad 122) (S : SS) (hI : InvX g ad S) (a1 : Int32) (a2 : Int32) (hq1 : 0 ≤ 1201 * fld (S 2) 1 + (-1) * fld (S 2) 0) (hq2 : 0 ≤ 8 * fld (S 2) 1 + (-1) * fld (S 2) 7) (hq3 : 0 ≤ 3 * fld (S 2) 1 + (-1) * fld (S 2) 12) : Met l yX11_drop (wG (.code yX11_drop cX11_drop 3 (some .int))) (Rm 6) (XPre g ad 122 S [.ref (ad 0), .int a1, .int a2]) (va_Qi (fun _ S' => InvX g ad S' ∧ (∀ j, j ∉ ([105, 106] : List Nat) → S' j = S j)) (QB g ad 122) (FA ad 122)) 0 0 (FA ad 122) := by
  refine xmet cX11_drop "EbbWreck" (by decide) rfl (Nat.le_of_ble_eq_true rfl) (fun p e s m below meth c E hr hlk hml hQ ls hl => ?_)
  have hx := E.1
  have hb := E.2.1
  have hs : Sp ad 122 (FA ad 122) := Sp.fa hD
  have hl : lv_has ls 3 [(0, .ref (ad 0)), (1, .int a1), (2, .int a2)] := hl
  obtain ⟨v1, v3, v5, v6, v7, v9, c11, b2, b4, b8, b10⟩ := invX_2 hI
  have c11 : S 2 = .inr (1, [.int v1, .int v3, .int v5, .ref (ad 3), .ref (ad 5), .ref (ad 6), .int v6, .int v7, .ref (ad 7), .ref (ad 8), .ref (ad 9), .ref (ad 10), .int v9, .ref (ad 15), .ref (ad 16)]) := c11
  have q12 : fld (S 2) 1 = v3.toInt := fld_of c11 rfl
  have q13 : fld (S 2) 0 = v1.toInt := fld_of c11 rfl
  have q14 : fld (S 2) 7 = v7.toInt := fld_of c11 rfl
  have q15 : fld (S 2) 12 = v9.toInt := fld_of c11 rfl
  refine lv_aload_n hx hb dX11_drop_0 rfl (lv_at hl 0 rfl) ?_
  refine lv_iload_n hx hb dX11_drop_1 rfl (lv_at hl 1 rfl) ?_
  obtain ⟨v17, v19, v20, c21, b18⟩ := invX_0 hI
  have c21 : S 0 = .inr (11, [.ref (ad 1), .int v17, .int v19, .int v20, .ref (ad 2), .ref (ad 20), .ref (ad 38), .ref (ad 93), .ref (ad 94), .ref (ad 95), .ref (ad 102), .ref (ad 104), .ref (ad 107), .ref (ad 111), .ref (ad 119)]) := c21
  refine xcVi E hs hQ hml hl.1 0 (gX11_isAskedParty_0 l g ad hD S hI a1) mX11_isAskedParty q963 (by decide) c21 rfl rfl ⟨(Nat.le_of_ble_eq_true rfl), (Nat.le_of_ble_eq_true rfl)⟩ ⟨(Nat.le_of_ble_eq_true rfl), (Nat.le_of_ble_eq_true rfl)⟩ (Nat.le_of_ble_eq_true rfl) rfl dX11_drop_2 (fun r16 S16 H locs hp16 hQ _ => ?_)
  obtain ⟨rfl, b16, g16_0⟩ := hp16
  refine lv_if_eq (tgt := 17) hx hb dX11_drop_5 (by decide) (fun k22 => ?_) (fun k22 => ?_)
  · have h23 := ib_eq k22
    have b24 : Bd r16 (0) (0) := ⟨(b16).1, ((rf_eq b16 (by decide : Bd 0 (0) (0)) h23).1).2⟩
    clear g16_0
    refine lv_bipush (v := (-2)) hx hb dX11_drop_17 (by decide) ?_
    exact xri E hr hlk hQ (⟨hI, o_refl⟩) dX11_drop_19
  · have h25 := ib_ne k22
    have b26 : Bd r16 (1) (1) := rf_nlo b16 (by decide : Bd 0 (0) (0)) h25
    have g27 := g16_0.resolve_left (by omega)
    clear g16_0
    have b28 : Bd v1 (1) (1201) := ⟨by omega, by omega⟩
    refine lv_iload_n hx hb dX11_drop_8 rfl (lv_at hl 2 rfl) ?_
    refine lv_bipush (v := 99) hx hb dX11_drop_9 (by decide) ?_
    refine xcSi E hs hQ hml hl.1 (gX11_isWithin l g ad hD S hI a2 99) mX11_isWithin q883 rfl ⟨(Nat.le_of_ble_eq_true rfl), (Nat.le_of_ble_eq_true rfl)⟩ ⟨(Nat.le_of_ble_eq_true rfl), (Nat.le_of_ble_eq_true rfl)⟩ (Nat.le_of_ble_eq_true rfl) rfl dX11_drop_11 (fun r29 S29 H locs hp29 hQ => ?_)
    obtain ⟨rfl, b29, g29_0⟩ := hp29
    have q30 : (99 : Int32).toInt = 99 := by decide
    refine lv_if_ne (tgt := 20) hx hb dX11_drop_14 (by decide) (fun k31 => ?_) (fun k31 => ?_)
    · have h32 := ib_ne k31
      have b33 : Bd r29 (1) (1) := rf_nlo b29 (by decide : Bd 0 (0) (0)) h32
      have g34 := g29_0.resolve_left (by omega)
      clear g29_0
      have b35 : Bd a2 (0) (99) := ⟨by omega, by omega⟩
      refine lv_aload_n hx hb dX11_drop_20 rfl (lv_at hl 0 rfl) ?_
      refine xget E hQ 0 (by decide) c21 rfl 11 (by decide) q527 rfl dX11_drop_21 ?_
      refine lv_iload_n hx hb dX11_drop_24 rfl (lv_at hl 1 rfl) ?_
      refine lv_iload_n hx hb dX11_drop_25 rfl (lv_at hl 2 rfl) ?_
      have c37 := invX_104 hI
      have c37 : S 104 = .inr (9, [.ref (ad 2), .ref (ad 105), .ref (ad 106)]) := c37
      refine xcVi E hs hQ hml hl.1 104 (gX9_wonFrom_104 l g ad hD S hI a1 a2 b35 (by omega)) mX9_wonFrom q1158 (by decide) c37 rfl rfl ⟨(Nat.le_of_ble_eq_true rfl), (Nat.le_of_ble_eq_true rfl)⟩ ⟨(Nat.le_of_ble_eq_true rfl), (Nat.le_of_ble_eq_true rfl)⟩ (Nat.le_of_ble_eq_true rfl) rfl dX11_drop_26 (fun r36 S36 H locs hp36 hQ _ => ?_)
      obtain ⟨hI, o36⟩ := hp36
      exact xri E hr hlk hQ (⟨hI, (o_trans o_refl o36 (by decide))⟩) dX11_drop_29
    · have h38 := ib_eq k31
      have b39 : Bd r29 (0) (0) := ⟨(b29).1, ((rf_eq b29 (by decide : Bd 0 (0) (0)) h38).1).2⟩
      clear g29_0
      refine lv_bipush (v := (-2)) hx hb dX11_drop_17 (by decide) ?_
      exact xri E hr hlk hQ (⟨hI, o_refl⟩) dX11_drop_19
set_option maxHeartbeats 4000000 in
set_option maxRecDepth 100000 in
theorem gX11_drops_0 (l : Launch) (g : GG) (ad : Nat → Nat) (hD : Dj ad 122) (S : SS) (hI : InvX g ad S) (a1 : Int32) (hq1 : 0 ≤ 1201 * fld (S 2) 1 + (-1) * fld (S 2) 0) (hq2 : 0 ≤ 8 * fld (S 2) 1 + (-1) * fld (S 2) 7) (hq3 : 0 ≤ 3 * fld (S 2) 1 + (-1) * fld (S 2) 12) : Met l yX11_drops (wG (.code yX11_drops cX11_drops 2 (some .int))) (Rm 6) (XPre g ad 122 S [.ref (ad 0), .int a1]) (va_Qi (fun r S' => InvX g ad S' ∧ (∀ j, j ∉ ([105, 106] : List Nat) → S' j = S j) ∧ Bd r (-2) (99)) (QB g ad 122) (FA ad 122)) 0 0 (FA ad 122) := by
  refine xmet cX11_drops "EbbWreck" (by decide) rfl (Nat.le_of_ble_eq_true rfl) (fun p e s m below meth c E hr hlk hml hQ ls hl => ?_)
  have hx := E.1
  have hb := E.2.1
  have hs : Sp ad 122 (FA ad 122) := Sp.fa hD
  have hl : lv_has ls 2 [(0, .ref (ad 0)), (1, .int a1)] := hl
  obtain ⟨v1, v3, v5, v6, v7, v9, c11, b2, b4, b8, b10⟩ := invX_2 hI
  have c11 : S 2 = .inr (1, [.int v1, .int v3, .int v5, .ref (ad 3), .ref (ad 5), .ref (ad 6), .int v6, .int v7, .ref (ad 7), .ref (ad 8), .ref (ad 9), .ref (ad 10), .int v9, .ref (ad 15), .ref (ad 16)]) := c11
  have q12 : fld (S 2) 1 = v3.toInt := fld_of c11 rfl
  have q13 : fld (S 2) 0 = v1.toInt := fld_of c11 rfl
  have q14 : fld (S 2) 7 = v7.toInt := fld_of c11 rfl
  have q15 : fld (S 2) 12 = v9.toInt := fld_of c11 rfl
  refine lv_aload_n hx hb dX11_drops_0 rfl (lv_at hl 0 rfl) ?_
  refine lv_iload_n hx hb dX11_drops_1 rfl (lv_at hl 1 rfl) ?_
  obtain ⟨v17, v19, v20, c21, b18⟩ := invX_0 hI
  have c21 : S 0 = .inr (11, [.ref (ad 1), .int v17, .int v19, .int v20, .ref (ad 2), .ref (ad 20), .ref (ad 38), .ref (ad 93), .ref (ad 94), .ref (ad 95), .ref (ad 102), .ref (ad 104), .ref (ad 107), .ref (ad 111), .ref (ad 119)]) := c21
  refine xcVi E hs hQ hml hl.1 0 (gX11_isAskedParty_0 l g ad hD S hI a1) mX11_isAskedParty q963 (by decide) c21 rfl rfl ⟨(Nat.le_of_ble_eq_true rfl), (Nat.le_of_ble_eq_true rfl)⟩ ⟨(Nat.le_of_ble_eq_true rfl), (Nat.le_of_ble_eq_true rfl)⟩ (Nat.le_of_ble_eq_true rfl) rfl dX11_drops_2 (fun r16 S16 H locs hp16 hQ _ => ?_)
  obtain ⟨rfl, b16, g16_0⟩ := hp16
  refine lv_if_eq (tgt := 19) hx hb dX11_drops_5 (by decide) (fun k22 => ?_) (fun k22 => ?_)
  · have h23 := ib_eq k22
    have b24 : Bd r16 (0) (0) := ⟨(b16).1, ((rf_eq b16 (by decide : Bd 0 (0) (0)) h23).1).2⟩
    clear g16_0
    refine lv_bipush (v := (-2)) hx hb dX11_drops_19 (by decide) ?_
    exact xri E hr hlk hQ (⟨hI, o_refl, (ib_wk (by decide : Bd (-2) (-2) (-2)) (by decide) (by decide))⟩) dX11_drops_21
  · have h25 := ib_ne k22
    have b26 : Bd r16 (1) (1) := rf_nlo b16 (by decide : Bd 0 (0) (0)) h25
    have g27 := g16_0.resolve_left (by omega)
    clear g16_0
    have b28 : Bd v1 (1) (1201) := ⟨by omega, by omega⟩
    refine lv_aload_n hx hb dX11_drops_8 rfl (lv_at hl 0 rfl) ?_
    refine xget E hQ 0 (by decide) c21 rfl 11 (by decide) q527 rfl dX11_drops_9 ?_
    refine lv_iload_n hx hb dX11_drops_12 rfl (lv_at hl 1 rfl) ?_
    have c30 := invX_104 hI
    have c30 : S 104 = .inr (9, [.ref (ad 2), .ref (ad 105), .ref (ad 106)]) := c30
    refine xcVi E hs hQ hml hl.1 104 (gX9_bestHour_104 l g ad hD S hI a1 (by omega)) mX9_bestHour q1166 (by decide) c30 rfl rfl ⟨(Nat.le_of_ble_eq_true rfl), (Nat.le_of_ble_eq_true rfl)⟩ ⟨(Nat.le_of_ble_eq_true rfl), (Nat.le_of_ble_eq_true rfl)⟩ (Nat.le_of_ble_eq_true rfl) rfl dX11_drops_13 (fun r29 S29 H locs hp29 hQ _ => ?_)
    obtain ⟨hI, o29, b29⟩ := hp29
    refine lv_goto (tgt := 21) hx hb dX11_drops_16 (by decide) ?_
    exact xri E hr hlk hQ (⟨hI, (o_trans o_refl o29 (by decide)), (ib_wk b29 (by decide) (by decide))⟩) dX11_drops_21
set_option maxHeartbeats 4000000 in
set_option maxRecDepth 100000 in
theorem gX11_origins_0 (l : Launch) (g : GG) (ad : Nat → Nat) (hD : Dj ad 122) (S : SS) (hI : InvX g ad S) (a1 : Int32) (a2 : Int32) (a3 : Int32) (hq1 : 0 ≤ 1201 * fld (S 2) 1 + (-1) * fld (S 2) 0) (hq2 : 0 ≤ 8 * fld (S 2) 1 + (-1) * fld (S 2) 7) (hq3 : 0 ≤ 3 * fld (S 2) 1 + (-1) * fld (S 2) 12) : Met l yX11_origins (wG (.code yX11_origins cX11_origins 4 (some .int))) (Rm 4) (XPre g ad 122 S [.ref (ad 0), .int a1, .int a2, .int a3]) (va_Qi (fun _ S' => S = S') (QB g ad 122) (FA ad 122)) 0 0 (FA ad 122) := by
  refine xmet cX11_origins "EbbWreck" (by decide) rfl (Nat.le_of_ble_eq_true rfl) (fun p e s m below meth c E hr hlk hml hQ ls hl => ?_)
  have hx := E.1
  have hb := E.2.1
  have hs : Sp ad 122 (FA ad 122) := Sp.fa hD
  have hl : lv_has ls 4 [(0, .ref (ad 0)), (1, .int a1), (2, .int a2), (3, .int a3)] := hl
  obtain ⟨v1, v3, v5, v6, v7, v9, c11, b2, b4, b8, b10⟩ := invX_2 hI
  have c11 : S 2 = .inr (1, [.int v1, .int v3, .int v5, .ref (ad 3), .ref (ad 5), .ref (ad 6), .int v6, .int v7, .ref (ad 7), .ref (ad 8), .ref (ad 9), .ref (ad 10), .int v9, .ref (ad 15), .ref (ad 16)]) := c11
  have q12 : fld (S 2) 1 = v3.toInt := fld_of c11 rfl
  have q13 : fld (S 2) 0 = v1.toInt := fld_of c11 rfl
  have q14 : fld (S 2) 7 = v7.toInt := fld_of c11 rfl
  have q15 : fld (S 2) 12 = v9.toInt := fld_of c11 rfl
  refine lv_aload_n hx hb dX11_origins_0 rfl (lv_at hl 0 rfl) ?_
  obtain ⟨v16, v18, v19, c20, b17⟩ := invX_0 hI
  have c20 : S 0 = .inr (11, [.ref (ad 1), .int v16, .int v18, .int v19, .ref (ad 2), .ref (ad 20), .ref (ad 38), .ref (ad 93), .ref (ad 94), .ref (ad 95), .ref (ad 102), .ref (ad 104), .ref (ad 107), .ref (ad 111), .ref (ad 119)]) := c20
  refine xget E hQ 0 (by decide) c20 rfl 4 (by decide) q520 rfl dX11_origins_1 ?_
  refine lv_iload_n hx hb dX11_origins_4 rfl (lv_at hl 3 rfl) ?_
  refine xcVi E hs hQ hml hl.1 2 (gX1_hasCell_2 l g ad hD S hI a3) mX1_hasCell q823 (by decide) c11 rfl rfl ⟨(Nat.le_of_ble_eq_true rfl), (Nat.le_of_ble_eq_true rfl)⟩ ⟨(Nat.le_of_ble_eq_true rfl), (Nat.le_of_ble_eq_true rfl)⟩ (Nat.le_of_ble_eq_true rfl) rfl dX11_origins_5 (fun r21 S21 H locs hp21 hQ _ => ?_)
  obtain ⟨rfl, b21, g21_0⟩ := hp21
  refine lv_if_eq (tgt := 29) hx hb dX11_origins_8 (by decide) (fun k22 => ?_) (fun k22 => ?_)
  · have h23 := ib_eq k22
    have b24 : Bd r21 (0) (0) := ⟨(b21).1, ((rf_eq b21 (by decide : Bd 0 (0) (0)) h23).1).2⟩
    clear g21_0
    refine lv_bipush (v := (-2)) hx hb dX11_origins_29 (by decide) ?_
    exact xri E hr hlk hQ (rfl) dX11_origins_31
  · have h25 := ib_ne k22
    have b26 : Bd r21 (1) (1) := rf_nlo b21 (by decide : Bd 0 (0) (0)) h25
    have g27 := g21_0.resolve_left (by omega)
    clear g21_0
    have b28 : Bd a3 (0) (11) := ⟨by omega, by omega⟩
    have b29 : Bd v3 (1) (12) := ⟨by omega, by omega⟩
    refine lv_iload_n hx hb dX11_origins_11 rfl (lv_at hl 2 rfl) ?_
    refine lv_sipush (v := 400) hx hb dX11_origins_12 (by decide) ?_
    refine xcSi E hs hQ hml hl.1 (gX11_isWithin l g ad hD S hI a2 400) mX11_isWithin q883 rfl ⟨(Nat.le_of_ble_eq_true rfl), (Nat.le_of_ble_eq_true rfl)⟩ ⟨(Nat.le_of_ble_eq_true rfl), (Nat.le_of_ble_eq_true rfl)⟩ (Nat.le_of_ble_eq_true rfl) rfl dX11_origins_15 (fun r30 S30 H locs hp30 hQ => ?_)
    obtain ⟨rfl, b30, g30_0⟩ := hp30
    have q31 : (400 : Int32).toInt = 400 := by decide
    refine lv_if_eq (tgt := 29) hx hb dX11_origins_18 (by decide) (fun k32 => ?_) (fun k32 => ?_)
    · have h33 := ib_eq k32
      have b34 : Bd r30 (0) (0) := ⟨(b30).1, ((rf_eq b30 (by decide : Bd 0 (0) (0)) h33).1).2⟩
      clear g30_0
      refine lv_bipush (v := (-2)) hx hb dX11_origins_29 (by decide) ?_
      exact xri E hr hlk hQ (rfl) dX11_origins_31
    · have h35 := ib_ne k32
      have b36 : Bd r30 (1) (1) := rf_nlo b30 (by decide : Bd 0 (0) (0)) h35
      have g37 := g30_0.resolve_left (by omega)
      clear g30_0
      have b38 : Bd a2 (0) (400) := ⟨by omega, by omega⟩
      refine lv_iload_n hx hb dX11_origins_21 rfl (lv_at hl 1 rfl) ?_
      refine lv_iload_n hx hb dX11_origins_22 rfl (lv_at hl 2 rfl) ?_
      refine xcSi E hs hQ hml hl.1 (gX11_isWithin l g ad hD S hI a1 a2) mX11_isWithin q883 rfl ⟨(Nat.le_of_ble_eq_true rfl), (Nat.le_of_ble_eq_true rfl)⟩ ⟨(Nat.le_of_ble_eq_true rfl), (Nat.le_of_ble_eq_true rfl)⟩ (Nat.le_of_ble_eq_true rfl) rfl dX11_origins_23 (fun r39 S39 H locs hp39 hQ => ?_)
      obtain ⟨rfl, b39, g39_0⟩ := hp39
      refine lv_if_ne (tgt := 32) hx hb dX11_origins_26 (by decide) (fun k40 => ?_) (fun k40 => ?_)
      · have h41 := ib_ne k40
        have b42 : Bd r39 (1) (1) := rf_nlo b39 (by decide : Bd 0 (0) (0)) h41
        have g43 := g39_0.resolve_left (by omega)
        clear g39_0
        have b44 : Bd a1 (0) (400) := ⟨by omega, by omega⟩
        refine lv_aload_n hx hb dX11_origins_32 rfl (lv_at hl 0 rfl) ?_
        refine xget E hQ 0 (by decide) c20 rfl 11 (by decide) q527 rfl dX11_origins_33 ?_
        refine lv_iload_n hx hb dX11_origins_36 rfl (lv_at hl 1 rfl) ?_
        refine lv_iload_n hx hb dX11_origins_37 rfl (lv_at hl 2 rfl) ?_
        refine lv_iload_n hx hb dX11_origins_38 rfl (lv_at hl 3 rfl) ?_
        have c46 := invX_104 hI
        have c46 : S 104 = .inr (9, [.ref (ad 2), .ref (ad 105), .ref (ad 106)]) := c46
        refine xcVi E hs hQ hml hl.1 104 (gX9_cellsBehind_104 l g ad hD S hI a1 a2 a3 b44 b38 (by omega)) mX9_cellsBehind q1175 (by decide) c46 rfl rfl ⟨(Nat.le_of_ble_eq_true rfl), (Nat.le_of_ble_eq_true rfl)⟩ ⟨(Nat.le_of_ble_eq_true rfl), (Nat.le_of_ble_eq_true rfl)⟩ (Nat.le_of_ble_eq_true rfl) rfl dX11_origins_39 (fun r45 S45 H locs hp45 hQ _ => ?_)
        subst hp45
        exact xri E hr hlk hQ (rfl) dX11_origins_42
      · have h47 := ib_eq k40
        have b48 : Bd r39 (0) (0) := ⟨(b39).1, ((rf_eq b39 (by decide : Bd 0 (0) (0)) h47).1).2⟩
        clear g39_0
        refine lv_bipush (v := (-2)) hx hb dX11_origins_29 (by decide) ?_
        exact xri E hr hlk hQ (rfl) dX11_origins_31
set_option maxHeartbeats 4000000 in
set_option maxRecDepth 100000 in
theorem gX11_when_0 (l : Launch) (g : GG) (ad : Nat → Nat) (hD : Dj ad 122) (S : SS) (hI : InvX g ad S) (a1 : Int32) (a2 : Int32) (a3 : Int32) (hq1 : 0 ≤ 1201 * fld (S 2) 1 + (-1) * fld (S 2) 0) (hq2 : 0 ≤ 8 * fld (S 2) 1 + (-1) * fld (S 2) 7) (hq3 : 0 ≤ 3 * fld (S 2) 1 + (-1) * fld (S 2) 12) : Met l yX11_when (wG (.code yX11_when cX11_when 4 (some .int))) (Rm 4) (XPre g ad 122 S [.ref (ad 0), .int a1, .int a2, .int a3]) (va_Qi (fun r S' => S = S' ∧ Bd r (-2) (399)) (QB g ad 122) (FA ad 122)) 0 0 (FA ad 122) := by
  refine xmet cX11_when "EbbWreck" (by decide) rfl (Nat.le_of_ble_eq_true rfl) (fun p e s m below meth c E hr hlk hml hQ ls hl => ?_)
  have hx := E.1
  have hb := E.2.1
  have hs : Sp ad 122 (FA ad 122) := Sp.fa hD
  have hl : lv_has ls 4 [(0, .ref (ad 0)), (1, .int a1), (2, .int a2), (3, .int a3)] := hl
  obtain ⟨v1, v3, v5, v6, v7, v9, c11, b2, b4, b8, b10⟩ := invX_2 hI
  have c11 : S 2 = .inr (1, [.int v1, .int v3, .int v5, .ref (ad 3), .ref (ad 5), .ref (ad 6), .int v6, .int v7, .ref (ad 7), .ref (ad 8), .ref (ad 9), .ref (ad 10), .int v9, .ref (ad 15), .ref (ad 16)]) := c11
  have q12 : fld (S 2) 1 = v3.toInt := fld_of c11 rfl
  have q13 : fld (S 2) 0 = v1.toInt := fld_of c11 rfl
  have q14 : fld (S 2) 7 = v7.toInt := fld_of c11 rfl
  have q15 : fld (S 2) 12 = v9.toInt := fld_of c11 rfl
  refine lv_aload_n hx hb dX11_when_0 rfl (lv_at hl 0 rfl) ?_
  obtain ⟨v16, v18, v19, c20, b17⟩ := invX_0 hI
  have c20 : S 0 = .inr (11, [.ref (ad 1), .int v16, .int v18, .int v19, .ref (ad 2), .ref (ad 20), .ref (ad 38), .ref (ad 93), .ref (ad 94), .ref (ad 95), .ref (ad 102), .ref (ad 104), .ref (ad 107), .ref (ad 111), .ref (ad 119)]) := c20
  refine xget E hQ 0 (by decide) c20 rfl 4 (by decide) q520 rfl dX11_when_1 ?_
  refine lv_iload_n hx hb dX11_when_4 rfl (lv_at hl 1 rfl) ?_
  refine xcVi E hs hQ hml hl.1 2 (gX1_hasCell_2 l g ad hD S hI a1) mX1_hasCell q823 (by decide) c11 rfl rfl ⟨(Nat.le_of_ble_eq_true rfl), (Nat.le_of_ble_eq_true rfl)⟩ ⟨(Nat.le_of_ble_eq_true rfl), (Nat.le_of_ble_eq_true rfl)⟩ (Nat.le_of_ble_eq_true rfl) rfl dX11_when_5 (fun r21 S21 H locs hp21 hQ _ => ?_)
  obtain ⟨rfl, b21, g21_0⟩ := hp21
  refine lv_if_eq (tgt := 32) hx hb dX11_when_8 (by decide) (fun k22 => ?_) (fun k22 => ?_)
  · have h23 := ib_eq k22
    have b24 : Bd r21 (0) (0) := ⟨(b21).1, ((rf_eq b21 (by decide : Bd 0 (0) (0)) h23).1).2⟩
    clear g21_0
    refine lv_bipush (v := (-2)) hx hb dX11_when_32 (by decide) ?_
    exact xri E hr hlk hQ (⟨rfl, (ib_wk (by decide : Bd (-2) (-2) (-2)) (by decide) (by decide))⟩) dX11_when_34
  · have h25 := ib_ne k22
    have b26 : Bd r21 (1) (1) := rf_nlo b21 (by decide : Bd 0 (0) (0)) h25
    have g27 := g21_0.resolve_left (by omega)
    clear g21_0
    have b28 : Bd a1 (0) (11) := ⟨by omega, by omega⟩
    have b29 : Bd v3 (1) (12) := ⟨by omega, by omega⟩
    refine lv_aload_n hx hb dX11_when_11 rfl (lv_at hl 0 rfl) ?_
    refine xget E hQ 0 (by decide) c20 rfl 4 (by decide) q520 rfl dX11_when_12 ?_
    refine lv_iload_n hx hb dX11_when_15 rfl (lv_at hl 3 rfl) ?_
    refine xcVi E hs hQ hml hl.1 2 (gX1_hasCell_2 l g ad hD S hI a3) mX1_hasCell q823 (by decide) c11 rfl rfl ⟨(Nat.le_of_ble_eq_true rfl), (Nat.le_of_ble_eq_true rfl)⟩ ⟨(Nat.le_of_ble_eq_true rfl), (Nat.le_of_ble_eq_true rfl)⟩ (Nat.le_of_ble_eq_true rfl) rfl dX11_when_16 (fun r30 S30 H locs hp30 hQ _ => ?_)
    obtain ⟨rfl, b30, g30_0⟩ := hp30
    refine lv_if_eq (tgt := 32) hx hb dX11_when_19 (by decide) (fun k31 => ?_) (fun k31 => ?_)
    · have h32 := ib_eq k31
      have b33 : Bd r30 (0) (0) := ⟨(b30).1, ((rf_eq b30 (by decide : Bd 0 (0) (0)) h32).1).2⟩
      clear g30_0
      refine lv_bipush (v := (-2)) hx hb dX11_when_32 (by decide) ?_
      exact xri E hr hlk hQ (⟨rfl, (ib_wk (by decide : Bd (-2) (-2) (-2)) (by decide) (by decide))⟩) dX11_when_34
    · have h34 := ib_ne k31
      have b35 : Bd r30 (1) (1) := rf_nlo b30 (by decide : Bd 0 (0) (0)) h34
      have g36 := g30_0.resolve_left (by omega)
      clear g30_0
      have b37 : Bd a3 (0) (11) := ⟨by omega, by omega⟩
      refine lv_iload_n hx hb dX11_when_22 rfl (lv_at hl 2 rfl) ?_
      refine lv_sipush (v := 400) hx hb dX11_when_23 (by decide) ?_
      refine xcSi E hs hQ hml hl.1 (gX11_isWithin l g ad hD S hI a2 400) mX11_isWithin q883 rfl ⟨(Nat.le_of_ble_eq_true rfl), (Nat.le_of_ble_eq_true rfl)⟩ ⟨(Nat.le_of_ble_eq_true rfl), (Nat.le_of_ble_eq_true rfl)⟩ (Nat.le_of_ble_eq_true rfl) rfl dX11_when_26 (fun r38 S38 H locs hp38 hQ => ?_)
      obtain ⟨rfl, b38, g38_0⟩ := hp38
      have q39 : (400 : Int32).toInt = 400 := by decide
      refine lv_if_ne (tgt := 35) hx hb dX11_when_29 (by decide) (fun k40 => ?_) (fun k40 => ?_)
      · have h41 := ib_ne k40
        have b42 : Bd r38 (1) (1) := rf_nlo b38 (by decide : Bd 0 (0) (0)) h41
        have g43 := g38_0.resolve_left (by omega)
        clear g38_0
        have b44 : Bd a2 (0) (400) := ⟨by omega, by omega⟩
        refine lv_aload_n hx hb dX11_when_35 rfl (lv_at hl 0 rfl) ?_
        refine xget E hQ 0 (by decide) c20 rfl 11 (by decide) q527 rfl dX11_when_36 ?_
        refine lv_iload_n hx hb dX11_when_39 rfl (lv_at hl 1 rfl) ?_
        refine lv_iload_n hx hb dX11_when_40 rfl (lv_at hl 2 rfl) ?_
        refine lv_iload_n hx hb dX11_when_41 rfl (lv_at hl 3 rfl) ?_
        have c46 := invX_104 hI
        have c46 : S 104 = .inr (9, [.ref (ad 2), .ref (ad 105), .ref (ad 106)]) := c46
        refine xcVi E hs hQ hml hl.1 104 (gX9_latestThrow_104 l g ad hD S hI a1 a2 a3 b44 (by omega)) mX9_latestThrow q1187 (by decide) c46 rfl rfl ⟨(Nat.le_of_ble_eq_true rfl), (Nat.le_of_ble_eq_true rfl)⟩ ⟨(Nat.le_of_ble_eq_true rfl), (Nat.le_of_ble_eq_true rfl)⟩ (Nat.le_of_ble_eq_true rfl) rfl dX11_when_42 (fun r45 S45 H locs hp45 hQ _ => ?_)
        obtain ⟨rfl, b45⟩ := hp45
        exact xri E hr hlk hQ (⟨rfl, (ib_wk b45 (by decide) (by decide))⟩) dX11_when_45
      · have h47 := ib_eq k40
        have b48 : Bd r38 (0) (0) := ⟨(b38).1, ((rf_eq b38 (by decide : Bd 0 (0) (0)) h47).1).2⟩
        clear g38_0
        refine lv_bipush (v := (-2)) hx hb dX11_when_32 (by decide) ?_
        exact xri E hr hlk hQ (⟨rfl, (ib_wk (by decide : Bd (-2) (-2) (-2)) (by decide) (by decide))⟩) dX11_when_34
set_option maxHeartbeats 4000000 in
set_option maxRecDepth 100000 in
theorem gX4_plan_102 (l : Launch) (g : GG) (ad : Nat → Nat) (hD : Dj ad 122) (S : SS) (hI : InvX g ad S) (a1 : Int32) (a2 : Int32) (a3 : Int32) (ba2 : Bd a2 (0) (1)) (ba3 : Bd a3 (0) (99)) (hq1 : 0 ≤ fld (S 2) 1 + (-1)) : Met l yX4_plan (wG (.code yX4_plan cX4_plan 7 none)) (Rm 4) (XPre g ad 122 S [.ref (ad 102), .int a1, .int a2, .int a3]) (va_Qv (fun S' => InvX g ad S' ∧ (∀ j, j ∉ ([102, 103] : List Nat) → S' j = S j)) (QB g ad 122) (FA ad 122)) 0 0 (FA ad 122) := by
  refine xmet cX4_plan "EbbWreck$Pushing" (by decide) rfl (Nat.le_of_ble_eq_true rfl) (fun p e s m below meth c E hr hlk hml hQ ls hl => ?_)
  have hx := E.1
  have hb := E.2.1
  have hs : Sp ad 122 (FA ad 122) := Sp.fa hD
  have hl : lv_has ls 7 [(0, .ref (ad 102)), (1, .int a1), (2, .int a2), (3, .int a3)] := hl
  obtain ⟨v1, v3, v5, v6, v7, v9, c11, b2, b4, b8, b10⟩ := invX_2 hI
  have c11 : S 2 = .inr (1, [.int v1, .int v3, .int v5, .ref (ad 3), .ref (ad 5), .ref (ad 6), .int v6, .int v7, .ref (ad 7), .ref (ad 8), .ref (ad 9), .ref (ad 10), .int v9, .ref (ad 15), .ref (ad 16)]) := c11
  have q12 : fld (S 2) 1 = v3.toInt := fld_of c11 rfl
  have b13 : Bd v3 (1) (12) := ⟨by omega, by omega⟩
  refine lv_aload_n hx hb dX4_plan_0 rfl (lv_at hl 0 rfl) ?_
  refine lv_iload_n hx hb dX4_plan_1 rfl (lv_at hl 1 rfl) ?_
  obtain ⟨v14, v15, c17, b16⟩ := invX_102 hI
  have c17 : S 102 = .inr (4, [.ref (ad 2), .ref (ad 103), .int v14, .int v15]) := c17
  refine xputi E hs hQ 102 (by decide) c17 rfl 2 (by decide) q418 rfl rfl (Nat.le_of_ble_eq_true rfl) dX4_plan_2 (fun H locs S18 eS18 hQ => ?_)
  have hI := invX_up_102 hI eS18 ⟨a1, v15, rfl, b16⟩
  have c19 : S18 102 = .inr (4, [.ref (ad 2), .ref (ad 103), .int a1, .int v15]) := up_at eS18 rfl
  refine lv_aload_n hx hb dX4_plan_5 rfl (lv_at hl 0 rfl) ?_
  refine lv_iload_n hx hb dX4_plan_6 rfl (lv_at hl 2 rfl) ?_
  refine xput (ty := .boolean) E hs hQ 102 (by decide) c19 rfl 3 (by decide) q419 rfl (by decide +kernel) (z_nar ba2) (z_fit ba2) (Nat.le_of_ble_eq_true rfl) dX4_plan_7 (fun H locs S20 eS20 hQ => ?_)
  have hI := invX_up_102 hI eS20 ⟨a1, a2, rfl, ba2⟩
  have c21 : S20 102 = .inr (4, [.ref (ad 2), .ref (ad 103), .int a1, .int a2]) := up_at eS20 rfl
  refine lv_aload_n hx hb dX4_plan_10 rfl (lv_at hl 0 rfl) ?_
  refine xget E hQ 102 (by decide) c21 rfl 1 (by decide) q417 rfl dX4_plan_11 ?_
  refine lv_iload_n hx hb dX4_plan_14 rfl (lv_at hl 2 rfl) ?_
  refine lv_if_eq (tgt := 22) hx hb dX4_plan_15 (by decide) (fun k22 => ?_) (fun k22 => ?_)
  · have h23 := ib_eq k22
    have b24 : Bd a2 (0) (0) := ⟨(ba2).1, ((rf_eq ba2 (by decide : Bd 0 (0) (0)) h23).1).2⟩
    refine lv_ldc (v := 1000000) hx hb E.2.2.1 (E.2.2.2.1 _ q1056) dX4_plan_22 ?_
    obtain ⟨f25, c26⟩ := invX_103 hI
    refine xcSv E hs hQ hml hl.1 (uFillI l g ad 122 hD S20 103 (by decide) 1212 (by decide) f25 1000000 c26) mJ7_fill_53178 q1057 rfl ⟨(Nat.le_of_ble_eq_true rfl), (Nat.le_of_ble_eq_true rfl)⟩ ⟨(Nat.le_of_ble_eq_true rfl), (Nat.le_of_ble_eq_true rfl)⟩ (Nat.le_of_ble_eq_true rfl) rfl dX4_plan_24 (fun S28 H locs eS28 hQ => ?_)
    have hI := invX_up_103 hI eS28 ⟨_, rfl⟩
    have c29 : S28 103 = .inl (g.2 0, 1212, .inl (fillF 1000000 1212 f25)) := up_at eS28 rfl
    refine lv_bipush (v := 99) hx hb dX4_plan_27 (by decide) ?_
    refine lv_istore (lv' := [(4, .int 99), (0, .ref (ad 102)), (1, .int a1), (2, .int a2), (3, .int a3)]) hx hb dX4_plan_29 hl (by decide) rfl (fun ls hl => ?_)
    have loop31 : ∀ (n : Nat) (S_31 : SS) (H : Heap) (locs : List Loc) (ls : Array Slot) (x31_4 : Int32), Bd x31_4 (-1) (99) → x31_4.toInt + 1 < ((n : Nat) : Int) → InvX g ad S_31 → (∀ j, j ∉ ([103] : List Nat) → S_31 j = S28 j) → Hp g ad 122 S_31 (FA ad 122) s.heap H locs → lv_has ls 7 [(4, .int x31_4), (0, .ref (ad 102)), (1, .int a1), (2, .int a2), (3, .int a3)] → W p l e (Rm 4) s m [.ref (ad 102), .int a1, .int a2, .int a3].toArray below meth c H locs 0 0 (MQ below (va_Qv (fun S' => InvX g ad S' ∧ (∀ j, j ∉ ([102, 103] : List Nat) → S' j = S j)) (QB g ad 122) (FA ad 122)) [.ref (ad 102), .int a1, .int a2, .int a3].toArray s 0 0 (FA ad 122)) (F0 m 31 ls []) := by
      intro n
      induction n with
      | zero => intro S_31 H locs ls x31_4 Bx31_4 hn31_ hI hf31 hQ hl; exfalso; have := (Bx31_4).1; omega
      | succ n31_ ih31 =>
        intro S_31 H locs ls x31_4 Bx31_4 hn31_ hI hf31 hQ hl
        refine lv_iload hx hb dX4_plan_31 (lv_at hl 0 rfl) ?_
        refine lv_iload_n hx hb dX4_plan_33 rfl (lv_at hl 4 rfl) ?_
        refine lv_icmp_lt (tgt := 113) hx hb dX4_plan_34 (by decide) (fun k30 => ?_) (fun k30 => ?_)
        · have h31 := ib_lt k30
          have b32 : Bd x31_4 (-1) (98) := ⟨(Bx31_4).1, ((rf_lt Bx31_4 ba3 h31).1).2⟩
          exact xrv E hr hlk hQ (⟨hI, (o_trans (up_o (up_o (up_o o_refl eS18 (by decide)) eS20 (by decide)) eS28 (by decide)) hf31 (by decide))⟩) dX4_plan_113
        · have h33 := ib_nlt k30
          have b34 : Bd x31_4 (0) (99) := ⟨((rf_le ba3 Bx31_4 h33).2).1, (Bx31_4).2⟩
          refine lv_iconst (v := 0) hx hb dX4_plan_37 (by decide) ?_
          refine lv_istore (lv' := [(5, .int 0), (4, .int x31_4), (0, .ref (ad 102)), (1, .int a1), (2, .int a2), (3, .int a3)]) hx hb dX4_plan_38 hl (by decide) rfl (fun ls hl => ?_)
          have loop40 : ∀ (n : Nat) (S_40 : SS) (H : Heap) (locs : List Loc) (ls : Array Slot) (x40_5 : Int32), Bd x40_5 (0) (12) → (-1) * x40_5.toInt + 12 < ((n : Nat) : Int) → InvX g ad S_40 → (∀ j, j ∉ ([103] : List Nat) → S_40 j = S_31 j) → Hp g ad 122 S_40 (FA ad 122) s.heap H locs → lv_has ls 7 [(5, .int x40_5), (4, .int x31_4), (0, .ref (ad 102)), (1, .int a1), (2, .int a2), (3, .int a3)] → W p l e (Rm 4) s m [.ref (ad 102), .int a1, .int a2, .int a3].toArray below meth c H locs 0 0 (MQ below (va_Qv (fun S' => InvX g ad S' ∧ (∀ j, j ∉ ([102, 103] : List Nat) → S' j = S j)) (QB g ad 122) (FA ad 122)) [.ref (ad 102), .int a1, .int a2, .int a3].toArray s 0 0 (FA ad 122)) (F0 m 40 ls []) := by
            intro n
            induction n with
            | zero => intro S_40 H locs ls x40_5 Bx40_5 hn40_ hI hf40 hQ hl; exfalso; have := (Bx40_5).2; omega
            | succ n40_ ih40 =>
              intro S_40 H locs ls x40_5 Bx40_5 hn40_ hI hf40 hQ hl
              refine lv_iload hx hb dX4_plan_40 (lv_at hl 0 rfl) ?_
              refine lv_aload_n hx hb dX4_plan_42 rfl (lv_at hl 2 rfl) ?_
              have c35 : S_40 102 = .inr (4, [.ref (ad 2), .ref (ad 103), .int a1, .int a2]) := ((hf40 102 (by decide)).trans ((hf31 102 (by decide)).trans (up_ne eS28 (by decide) c21)))
              refine xget E hQ 102 (by decide) c35 rfl 0 (by decide) q416 rfl dX4_plan_43 ?_
              have c36 : S_40 2 = .inr (1, [.int v1, .int v3, .int v5, .ref (ad 3), .ref (ad 5), .ref (ad 6), .int v6, .int v7, .ref (ad 7), .ref (ad 8), .ref (ad 9), .ref (ad 10), .int v9, .ref (ad 15), .ref (ad 16)]) := ((hf40 2 (by decide)).trans ((hf31 2 (by decide)).trans (up_ne eS28 (by decide) (up_ne eS20 (by decide) (up_ne eS18 (by decide) c11)))))
              refine xget E hQ 2 (by decide) c36 rfl 1 (by decide) q241 rfl dX4_plan_46 ?_
              refine lv_icmp_ge (tgt := 107) hx hb dX4_plan_49 (by decide) (fun k37 => ?_) (fun k37 => ?_)
              · have h38 := ib_le k37
                have b39 : Bd x40_5 (1) (12) := ⟨((rf_le b13 Bx40_5 h38).2).1, (Bx40_5).2⟩
                obtain ⟨z40, e41⟩ : ∃ z : Int32, z = x31_4 + (-1) := ⟨_, rfl⟩
                have t42 := ib_add e41 b34 (by decide : Bd (-1) (-1) (-1)) (by decide) (by decide)
                have b43 : Bd z40 (-1) (98) := ib_addb t42 b34 (by decide : Bd (-1) (-1) (-1))
                have t42 : z40.toInt = x31_4.toInt + (-1) := fold_add t42 rfl (by decide)
                refine lv_iinc (v := z40) (lv' := [(4, .int z40), (5, .int x40_5), (0, .ref (ad 102)), (1, .int a1), (2, .int a2), (3, .int a3)]) hx hb dX4_plan_107 hl (k := 1) rfl (by rw [e41]; rfl) (by decide) rfl (fun ls hl => ?_)
                refine lv_goto (tgt := 31) hx hb dX4_plan_110 (by decide) ?_
                exact ih31 _ _ _ _ z40 (ib_wk b43 (by decide) (by decide)) (by omega) hI (o_trans hf31 hf40 (by decide)) hQ (lv_sub hl [0, 2, 3, 4, 5] rfl)
              · have h44 := ib_nle k37
                have b45 : Bd x40_5 (0) (11) := ⟨(Bx40_5).1, ((rf_lt Bx40_5 b13 h44).1).2⟩
                refine lv_aload_n hx hb dX4_plan_52 rfl (lv_at hl 2 rfl) ?_
                refine lv_iload hx hb dX4_plan_53 (lv_at hl 0 rfl) ?_
                refine lv_iconst (v := 1) hx hb dX4_plan_55 (by decide) ?_
                refine lv_iload hx hb dX4_plan_56 (lv_at hl 1 rfl) ?_
                have q46 : fld (S_40 2) 1 = v3.toInt := fld_of c36 rfl
                refine xcVi E hs hQ hml hl.1 102 (gX4_costBy_102 l g ad hD S_40 hI x40_5 1 x31_4 b45 b34 (by omega)) mX4_costBy q1058 (by decide) c35 rfl rfl ⟨(Nat.le_of_ble_eq_true rfl), (Nat.le_of_ble_eq_true rfl)⟩ ⟨(Nat.le_of_ble_eq_true rfl), (Nat.le_of_ble_eq_true rfl)⟩ (Nat.le_of_ble_eq_true rfl) rfl dX4_plan_58 (fun r47 S47 H locs hp47 hQ _ => ?_)
                subst hp47
                refine lv_aload_n hx hb dX4_plan_61 rfl (lv_at hl 2 rfl) ?_
                refine lv_iload hx hb dX4_plan_62 (lv_at hl 0 rfl) ?_
                refine lv_iconst (v := (-1)) hx hb dX4_plan_64 (by decide) ?_
                refine lv_iload hx hb dX4_plan_65 (lv_at hl 1 rfl) ?_
                refine xcVi E hs hQ hml hl.1 102 (gX4_costBy_102 l g ad hD S_40 hI x40_5 (-1) x31_4 b45 b34 (by omega)) mX4_costBy q1058 (by decide) c35 rfl rfl ⟨(Nat.le_of_ble_eq_true rfl), (Nat.le_of_ble_eq_true rfl)⟩ ⟨(Nat.le_of_ble_eq_true rfl), (Nat.le_of_ble_eq_true rfl)⟩ (Nat.le_of_ble_eq_true rfl) rfl dX4_plan_67 (fun r48 S48 H locs hp48 hQ _ => ?_)
                subst hp48
                refine va_mmin hx hb (hml.trans hl.1.symm) E.2.2.1 (E.2.2.2.1 _ q1068) (E.2.2.2.1 _ q583) (E.2.2.2.1 _ q128) (E.2.2.2.1 _ q584) (Nat.le_of_ble_eq_true rfl) (Nat.le_of_ble_eq_true rfl) (Nat.le_of_ble_eq_true rfl) (Nat.le_of_ble_eq_true rfl) dX4_plan_70 ?_
                refine lv_topi (fun z49 e50 => ?_)
                have b51 : Bd z49 (-2147483648) (2147483647) := ib_min e50 (ib_full r47) (ib_full r48) (by decide) (by decide) (by decide) (by decide)
                have t52 := ib_minx (p := r47.toInt) (q := r48.toInt) e50 rfl rfl
                refine lv_istore (lv' := [(6, .int z49), (5, .int x40_5), (4, .int x31_4), (0, .ref (ad 102)), (1, .int a1), (2, .int a2), (3, .int a3)]) hx hb dX4_plan_73 hl (by decide) rfl (fun ls hl => ?_)
                refine lv_aload_n hx hb dX4_plan_75 rfl (lv_at hl 3 rfl) ?_
                refine xget E hQ 102 (by decide) c35 rfl 1 (by decide) q417 rfl dX4_plan_76 ?_
                refine lv_iload hx hb dX4_plan_79 (lv_at hl 1 rfl) ?_
                refine lv_iload hx hb dX4_plan_81 (lv_at hl 2 rfl) ?_
                refine xcSi E hs hQ hml hl.1 (gX4_placeIn l g ad hD S_40 hI x40_5 x31_4 b45 (ib_wk b34 (by decide) (by decide))) mX4_placeIn q1064 rfl ⟨(Nat.le_of_ble_eq_true rfl), (Nat.le_of_ble_eq_true rfl)⟩ ⟨(Nat.le_of_ble_eq_true rfl), (Nat.le_of_ble_eq_true rfl)⟩ (Nat.le_of_ble_eq_true rfl) rfl dX4_plan_83 (fun r53 S53 H locs hp53 hQ => ?_)
                obtain ⟨rfl, b53⟩ := hp53
                refine lv_aload_n hx hb dX4_plan_86 rfl (lv_at hl 3 rfl) ?_
                refine lv_iload hx hb dX4_plan_87 (lv_at hl 1 rfl) ?_
                refine lv_iconst (v := 0) hx hb dX4_plan_89 (by decide) ?_
                refine lv_iload hx hb dX4_plan_90 (lv_at hl 2 rfl) ?_
                refine xcVi E hs hQ hml hl.1 102 (gX4_costBy_102 l g ad hD S_40 hI x40_5 0 x31_4 b45 b34 (by omega)) mX4_costBy q1058 (by decide) c35 rfl rfl ⟨(Nat.le_of_ble_eq_true rfl), (Nat.le_of_ble_eq_true rfl)⟩ ⟨(Nat.le_of_ble_eq_true rfl), (Nat.le_of_ble_eq_true rfl)⟩ (Nat.le_of_ble_eq_true rfl) rfl dX4_plan_92 (fun r54 S54 H locs hp54 hQ _ => ?_)
                subst hp54
                refine lv_iload hx hb dX4_plan_95 (lv_at hl 0 rfl) ?_
                refine va_mmin hx hb (hml.trans hl.1.symm) E.2.2.1 (E.2.2.2.1 _ q1068) (E.2.2.2.1 _ q583) (E.2.2.2.1 _ q128) (E.2.2.2.1 _ q584) (Nat.le_of_ble_eq_true rfl) (Nat.le_of_ble_eq_true rfl) (Nat.le_of_ble_eq_true rfl) (Nat.le_of_ble_eq_true rfl) dX4_plan_97 ?_
                refine lv_topi (fun z55 e56 => ?_)
                have b57 : Bd z55 (-2147483648) (2147483647) := ib_min e56 (ib_full r54) b51 (by decide) (by decide) (by decide) (by decide)
                have t58 := ib_minx (p := r54.toInt) (q := z49.toInt) e56 rfl rfl
                obtain ⟨f59, c60⟩ := invX_103 hI
                refine xiast E hs hQ 103 (by decide) c60 (ib_in b53 (by decide) (by decide)) dX4_plan_100 (fun H locs S62 eS62 hQ => ?_)
                have hI := invX_up_103 hI eS62 ⟨_, rfl⟩
                have c63 : S62 103 = .inl (g.2 0, 1212, .inl (upd f59 (r53 : Int32).toNatClampNeg z55)) := up_at eS62 rfl
                obtain ⟨z64, e65⟩ : ∃ z : Int32, z = x40_5 + 1 := ⟨_, rfl⟩
                have t66 := ib_add e65 b45 (by decide : Bd 1 (1) (1)) (by decide) (by decide)
                have b67 : Bd z64 (1) (12) := ib_addb t66 b45 (by decide : Bd 1 (1) (1))
                have t66 : z64.toInt = x40_5.toInt + 1 := fold_add t66 rfl (by decide)
                refine lv_iinc (v := z64) (lv' := [(5, .int z64), (6, .int z49), (4, .int x31_4), (0, .ref (ad 102)), (1, .int a1), (2, .int a2), (3, .int a3)]) hx hb dX4_plan_101 hl (k := 1) rfl (by rw [e65]; rfl) (by decide) rfl (fun ls hl => ?_)
                refine lv_goto (tgt := 40) hx hb dX4_plan_104 (by decide) ?_
                exact ih40 _ _ _ _ z64 (ib_wk b67 (by decide) (by decide)) (by omega) hI (up_o hf40 eS62 (by decide)) hQ (lv_sub hl [0, 2, 3, 4, 5, 6] rfl)
          obtain ⟨n40, hn40⟩ := fu_n (12)
          exact loop40 n40 _ _ _ _ 0 (ib_wk (by decide : Bd 0 (0) (0)) (by decide) (by decide)) (by have : (0 : Int32).toInt = 0 := (by decide); omega) hI o_refl hQ (lv_sub hl [0, 1, 2, 3, 4, 5] rfl)
    obtain ⟨n31, hn31⟩ := fu_n (100)
    exact loop31 n31 _ _ _ _ 99 (ib_wk (by decide : Bd 99 (99) (99)) (by decide) (by decide)) (by have : (99 : Int32).toInt = 99 := (by decide); omega) hI o_refl hQ (lv_sub hl [0, 1, 2, 3, 4] rfl)
  · have h68 := ib_ne k22
    have b69 : Bd a2 (1) (1) := rf_nlo ba2 (by decide : Bd 0 (0) (0)) h68
    refine lv_iconst (v := 0) hx hb dX4_plan_18 (by decide) ?_
    refine lv_goto (tgt := 24) hx hb dX4_plan_19 (by decide) ?_
    obtain ⟨f70, c71⟩ := invX_103 hI
    refine xcSv E hs hQ hml hl.1 (uFillI l g ad 122 hD S20 103 (by decide) 1212 (by decide) f70 0 c71) mJ7_fill_53178 q1057 rfl ⟨(Nat.le_of_ble_eq_true rfl), (Nat.le_of_ble_eq_true rfl)⟩ ⟨(Nat.le_of_ble_eq_true rfl), (Nat.le_of_ble_eq_true rfl)⟩ (Nat.le_of_ble_eq_true rfl) rfl dX4_plan_24 (fun S73 H locs eS73 hQ => ?_)
    have hI := invX_up_103 hI eS73 ⟨_, rfl⟩
    have c74 : S73 103 = .inl (g.2 0, 1212, .inl (fillF 0 1212 f70)) := up_at eS73 rfl
    refine lv_bipush (v := 99) hx hb dX4_plan_27 (by decide) ?_
    refine lv_istore (lv' := [(4, .int 99), (0, .ref (ad 102)), (1, .int a1), (2, .int a2), (3, .int a3)]) hx hb dX4_plan_29 hl (by decide) rfl (fun ls hl => ?_)
    have loop31 : ∀ (n : Nat) (S_31 : SS) (H : Heap) (locs : List Loc) (ls : Array Slot) (x31_4 : Int32), Bd x31_4 (-1) (99) → x31_4.toInt + 1 < ((n : Nat) : Int) → InvX g ad S_31 → (∀ j, j ∉ ([103] : List Nat) → S_31 j = S73 j) → Hp g ad 122 S_31 (FA ad 122) s.heap H locs → lv_has ls 7 [(4, .int x31_4), (0, .ref (ad 102)), (1, .int a1), (2, .int a2), (3, .int a3)] → W p l e (Rm 4) s m [.ref (ad 102), .int a1, .int a2, .int a3].toArray below meth c H locs 0 0 (MQ below (va_Qv (fun S' => InvX g ad S' ∧ (∀ j, j ∉ ([102, 103] : List Nat) → S' j = S j)) (QB g ad 122) (FA ad 122)) [.ref (ad 102), .int a1, .int a2, .int a3].toArray s 0 0 (FA ad 122)) (F0 m 31 ls []) := by
      intro n
      induction n with
      | zero => intro S_31 H locs ls x31_4 Bx31_4 hn31_ hI hf31 hQ hl; exfalso; have := (Bx31_4).1; omega
      | succ n31_ ih31 =>
        intro S_31 H locs ls x31_4 Bx31_4 hn31_ hI hf31 hQ hl
        refine lv_iload hx hb dX4_plan_31 (lv_at hl 0 rfl) ?_
        refine lv_iload_n hx hb dX4_plan_33 rfl (lv_at hl 4 rfl) ?_
        refine lv_icmp_lt (tgt := 113) hx hb dX4_plan_34 (by decide) (fun k75 => ?_) (fun k75 => ?_)
        · have h76 := ib_lt k75
          have b77 : Bd x31_4 (-1) (98) := ⟨(Bx31_4).1, ((rf_lt Bx31_4 ba3 h76).1).2⟩
          exact xrv E hr hlk hQ (⟨hI, (o_trans (up_o (up_o (up_o o_refl eS18 (by decide)) eS20 (by decide)) eS73 (by decide)) hf31 (by decide))⟩) dX4_plan_113
        · have h78 := ib_nlt k75
          have b79 : Bd x31_4 (0) (99) := ⟨((rf_le ba3 Bx31_4 h78).2).1, (Bx31_4).2⟩
          refine lv_iconst (v := 0) hx hb dX4_plan_37 (by decide) ?_
          refine lv_istore (lv' := [(5, .int 0), (4, .int x31_4), (0, .ref (ad 102)), (1, .int a1), (2, .int a2), (3, .int a3)]) hx hb dX4_plan_38 hl (by decide) rfl (fun ls hl => ?_)
          have loop40 : ∀ (n : Nat) (S_40 : SS) (H : Heap) (locs : List Loc) (ls : Array Slot) (x40_5 : Int32), Bd x40_5 (0) (12) → (-1) * x40_5.toInt + 12 < ((n : Nat) : Int) → InvX g ad S_40 → (∀ j, j ∉ ([103] : List Nat) → S_40 j = S_31 j) → Hp g ad 122 S_40 (FA ad 122) s.heap H locs → lv_has ls 7 [(5, .int x40_5), (4, .int x31_4), (0, .ref (ad 102)), (1, .int a1), (2, .int a2), (3, .int a3)] → W p l e (Rm 4) s m [.ref (ad 102), .int a1, .int a2, .int a3].toArray below meth c H locs 0 0 (MQ below (va_Qv (fun S' => InvX g ad S' ∧ (∀ j, j ∉ ([102, 103] : List Nat) → S' j = S j)) (QB g ad 122) (FA ad 122)) [.ref (ad 102), .int a1, .int a2, .int a3].toArray s 0 0 (FA ad 122)) (F0 m 40 ls []) := by
            intro n
            induction n with
            | zero => intro S_40 H locs ls x40_5 Bx40_5 hn40_ hI hf40 hQ hl; exfalso; have := (Bx40_5).2; omega
            | succ n40_ ih40 =>
              intro S_40 H locs ls x40_5 Bx40_5 hn40_ hI hf40 hQ hl
              refine lv_iload hx hb dX4_plan_40 (lv_at hl 0 rfl) ?_
              refine lv_aload_n hx hb dX4_plan_42 rfl (lv_at hl 2 rfl) ?_
              have c80 : S_40 102 = .inr (4, [.ref (ad 2), .ref (ad 103), .int a1, .int a2]) := ((hf40 102 (by decide)).trans ((hf31 102 (by decide)).trans (up_ne eS73 (by decide) c21)))
              refine xget E hQ 102 (by decide) c80 rfl 0 (by decide) q416 rfl dX4_plan_43 ?_
              have c81 : S_40 2 = .inr (1, [.int v1, .int v3, .int v5, .ref (ad 3), .ref (ad 5), .ref (ad 6), .int v6, .int v7, .ref (ad 7), .ref (ad 8), .ref (ad 9), .ref (ad 10), .int v9, .ref (ad 15), .ref (ad 16)]) := ((hf40 2 (by decide)).trans ((hf31 2 (by decide)).trans (up_ne eS73 (by decide) (up_ne eS20 (by decide) (up_ne eS18 (by decide) c11)))))
              refine xget E hQ 2 (by decide) c81 rfl 1 (by decide) q241 rfl dX4_plan_46 ?_
              refine lv_icmp_ge (tgt := 107) hx hb dX4_plan_49 (by decide) (fun k82 => ?_) (fun k82 => ?_)
              · have h83 := ib_le k82
                have b84 : Bd x40_5 (1) (12) := ⟨((rf_le b13 Bx40_5 h83).2).1, (Bx40_5).2⟩
                obtain ⟨z85, e86⟩ : ∃ z : Int32, z = x31_4 + (-1) := ⟨_, rfl⟩
                have t87 := ib_add e86 b79 (by decide : Bd (-1) (-1) (-1)) (by decide) (by decide)
                have b88 : Bd z85 (-1) (98) := ib_addb t87 b79 (by decide : Bd (-1) (-1) (-1))
                have t87 : z85.toInt = x31_4.toInt + (-1) := fold_add t87 rfl (by decide)
                refine lv_iinc (v := z85) (lv' := [(4, .int z85), (5, .int x40_5), (0, .ref (ad 102)), (1, .int a1), (2, .int a2), (3, .int a3)]) hx hb dX4_plan_107 hl (k := 1) rfl (by rw [e86]; rfl) (by decide) rfl (fun ls hl => ?_)
                refine lv_goto (tgt := 31) hx hb dX4_plan_110 (by decide) ?_
                exact ih31 _ _ _ _ z85 (ib_wk b88 (by decide) (by decide)) (by omega) hI (o_trans hf31 hf40 (by decide)) hQ (lv_sub hl [0, 2, 3, 4, 5] rfl)
              · have h89 := ib_nle k82
                have b90 : Bd x40_5 (0) (11) := ⟨(Bx40_5).1, ((rf_lt Bx40_5 b13 h89).1).2⟩
                refine lv_aload_n hx hb dX4_plan_52 rfl (lv_at hl 2 rfl) ?_
                refine lv_iload hx hb dX4_plan_53 (lv_at hl 0 rfl) ?_
                refine lv_iconst (v := 1) hx hb dX4_plan_55 (by decide) ?_
                refine lv_iload hx hb dX4_plan_56 (lv_at hl 1 rfl) ?_
                have q91 : fld (S_40 2) 1 = v3.toInt := fld_of c81 rfl
                refine xcVi E hs hQ hml hl.1 102 (gX4_costBy_102 l g ad hD S_40 hI x40_5 1 x31_4 b90 b79 (by omega)) mX4_costBy q1058 (by decide) c80 rfl rfl ⟨(Nat.le_of_ble_eq_true rfl), (Nat.le_of_ble_eq_true rfl)⟩ ⟨(Nat.le_of_ble_eq_true rfl), (Nat.le_of_ble_eq_true rfl)⟩ (Nat.le_of_ble_eq_true rfl) rfl dX4_plan_58 (fun r92 S92 H locs hp92 hQ _ => ?_)
                subst hp92
                refine lv_aload_n hx hb dX4_plan_61 rfl (lv_at hl 2 rfl) ?_
                refine lv_iload hx hb dX4_plan_62 (lv_at hl 0 rfl) ?_
                refine lv_iconst (v := (-1)) hx hb dX4_plan_64 (by decide) ?_
                refine lv_iload hx hb dX4_plan_65 (lv_at hl 1 rfl) ?_
                refine xcVi E hs hQ hml hl.1 102 (gX4_costBy_102 l g ad hD S_40 hI x40_5 (-1) x31_4 b90 b79 (by omega)) mX4_costBy q1058 (by decide) c80 rfl rfl ⟨(Nat.le_of_ble_eq_true rfl), (Nat.le_of_ble_eq_true rfl)⟩ ⟨(Nat.le_of_ble_eq_true rfl), (Nat.le_of_ble_eq_true rfl)⟩ (Nat.le_of_ble_eq_true rfl) rfl dX4_plan_67 (fun r93 S93 H locs hp93 hQ _ => ?_)
                subst hp93
                refine va_mmin hx hb (hml.trans hl.1.symm) E.2.2.1 (E.2.2.2.1 _ q1068) (E.2.2.2.1 _ q583) (E.2.2.2.1 _ q128) (E.2.2.2.1 _ q584) (Nat.le_of_ble_eq_true rfl) (Nat.le_of_ble_eq_true rfl) (Nat.le_of_ble_eq_true rfl) (Nat.le_of_ble_eq_true rfl) dX4_plan_70 ?_
                refine lv_topi (fun z94 e95 => ?_)
                have b96 : Bd z94 (-2147483648) (2147483647) := ib_min e95 (ib_full r92) (ib_full r93) (by decide) (by decide) (by decide) (by decide)
                have t97 := ib_minx (p := r92.toInt) (q := r93.toInt) e95 rfl rfl
                refine lv_istore (lv' := [(6, .int z94), (5, .int x40_5), (4, .int x31_4), (0, .ref (ad 102)), (1, .int a1), (2, .int a2), (3, .int a3)]) hx hb dX4_plan_73 hl (by decide) rfl (fun ls hl => ?_)
                refine lv_aload_n hx hb dX4_plan_75 rfl (lv_at hl 3 rfl) ?_
                refine xget E hQ 102 (by decide) c80 rfl 1 (by decide) q417 rfl dX4_plan_76 ?_
                refine lv_iload hx hb dX4_plan_79 (lv_at hl 1 rfl) ?_
                refine lv_iload hx hb dX4_plan_81 (lv_at hl 2 rfl) ?_
                refine xcSi E hs hQ hml hl.1 (gX4_placeIn l g ad hD S_40 hI x40_5 x31_4 b90 (ib_wk b79 (by decide) (by decide))) mX4_placeIn q1064 rfl ⟨(Nat.le_of_ble_eq_true rfl), (Nat.le_of_ble_eq_true rfl)⟩ ⟨(Nat.le_of_ble_eq_true rfl), (Nat.le_of_ble_eq_true rfl)⟩ (Nat.le_of_ble_eq_true rfl) rfl dX4_plan_83 (fun r98 S98 H locs hp98 hQ => ?_)
                obtain ⟨rfl, b98⟩ := hp98
                refine lv_aload_n hx hb dX4_plan_86 rfl (lv_at hl 3 rfl) ?_
                refine lv_iload hx hb dX4_plan_87 (lv_at hl 1 rfl) ?_
                refine lv_iconst (v := 0) hx hb dX4_plan_89 (by decide) ?_
                refine lv_iload hx hb dX4_plan_90 (lv_at hl 2 rfl) ?_
                refine xcVi E hs hQ hml hl.1 102 (gX4_costBy_102 l g ad hD S_40 hI x40_5 0 x31_4 b90 b79 (by omega)) mX4_costBy q1058 (by decide) c80 rfl rfl ⟨(Nat.le_of_ble_eq_true rfl), (Nat.le_of_ble_eq_true rfl)⟩ ⟨(Nat.le_of_ble_eq_true rfl), (Nat.le_of_ble_eq_true rfl)⟩ (Nat.le_of_ble_eq_true rfl) rfl dX4_plan_92 (fun r99 S99 H locs hp99 hQ _ => ?_)
                subst hp99
                refine lv_iload hx hb dX4_plan_95 (lv_at hl 0 rfl) ?_
                refine va_mmin hx hb (hml.trans hl.1.symm) E.2.2.1 (E.2.2.2.1 _ q1068) (E.2.2.2.1 _ q583) (E.2.2.2.1 _ q128) (E.2.2.2.1 _ q584) (Nat.le_of_ble_eq_true rfl) (Nat.le_of_ble_eq_true rfl) (Nat.le_of_ble_eq_true rfl) (Nat.le_of_ble_eq_true rfl) dX4_plan_97 ?_
                refine lv_topi (fun z100 e101 => ?_)
                have b102 : Bd z100 (-2147483648) (2147483647) := ib_min e101 (ib_full r99) b96 (by decide) (by decide) (by decide) (by decide)
                have t103 := ib_minx (p := r99.toInt) (q := z94.toInt) e101 rfl rfl
                obtain ⟨f104, c105⟩ := invX_103 hI
                refine xiast E hs hQ 103 (by decide) c105 (ib_in b98 (by decide) (by decide)) dX4_plan_100 (fun H locs S107 eS107 hQ => ?_)
                have hI := invX_up_103 hI eS107 ⟨_, rfl⟩
                have c108 : S107 103 = .inl (g.2 0, 1212, .inl (upd f104 (r98 : Int32).toNatClampNeg z100)) := up_at eS107 rfl
                obtain ⟨z109, e110⟩ : ∃ z : Int32, z = x40_5 + 1 := ⟨_, rfl⟩
                have t111 := ib_add e110 b90 (by decide : Bd 1 (1) (1)) (by decide) (by decide)
                have b112 : Bd z109 (1) (12) := ib_addb t111 b90 (by decide : Bd 1 (1) (1))
                have t111 : z109.toInt = x40_5.toInt + 1 := fold_add t111 rfl (by decide)
                refine lv_iinc (v := z109) (lv' := [(5, .int z109), (6, .int z94), (4, .int x31_4), (0, .ref (ad 102)), (1, .int a1), (2, .int a2), (3, .int a3)]) hx hb dX4_plan_101 hl (k := 1) rfl (by rw [e110]; rfl) (by decide) rfl (fun ls hl => ?_)
                refine lv_goto (tgt := 40) hx hb dX4_plan_104 (by decide) ?_
                exact ih40 _ _ _ _ z109 (ib_wk b112 (by decide) (by decide)) (by omega) hI (up_o hf40 eS107 (by decide)) hQ (lv_sub hl [0, 2, 3, 4, 5, 6] rfl)
          obtain ⟨n40, hn40⟩ := fu_n (12)
          exact loop40 n40 _ _ _ _ 0 (ib_wk (by decide : Bd 0 (0) (0)) (by decide) (by decide)) (by have : (0 : Int32).toInt = 0 := (by decide); omega) hI o_refl hQ (lv_sub hl [0, 1, 2, 3, 4, 5] rfl)
    obtain ⟨n31, hn31⟩ := fu_n (100)
    exact loop31 n31 _ _ _ _ 99 (ib_wk (by decide : Bd 99 (99) (99)) (by decide) (by decide)) (by have : (99 : Int32).toInt = 99 := (by decide); omega) hI o_refl hQ (lv_sub hl [0, 1, 2, 3, 4] rfl)
set_option maxHeartbeats 4000000 in
set_option maxRecDepth 100000 in
theorem gX4_fewest_102 (l : Launch) (g : GG) (ad : Nat → Nat) (hD : Dj ad 122) (S : SS) (hI : InvX g ad S) (a1 : Int32) (a2 : Int32) (a3 : Int32) (ba1 : Bd a1 (0) (7)) (ba3 : Bd a3 (0) (1)) (hq1 : 0 ≤ fld (S 2) 1 + (-1)) : Met l yX4_fewest (wG (.code yX4_fewest cX4_fewest 5 (some .int))) (Rm 5) (XPre g ad 122 S [.ref (ad 102), .int a1, .int a2, .int a3]) (va_Qi (fun _ S' => InvX g ad S' ∧ (∀ j, j ∉ ([102, 103] : List Nat) → S' j = S j)) (QB g ad 122) (FA ad 122)) 0 0 (FA ad 122) := by
  refine xmet cX4_fewest "EbbWreck$Pushing" (by decide) rfl (Nat.le_of_ble_eq_true rfl) (fun p e s m below meth c E hr hlk hml hQ ls hl => ?_)
  have hx := E.1
  have hb := E.2.1
  have hs : Sp ad 122 (FA ad 122) := Sp.fa hD
  have hl : lv_has ls 5 [(0, .ref (ad 102)), (1, .int a1), (2, .int a2), (3, .int a3)] := hl
  obtain ⟨v1, v3, v5, v6, v7, v9, c11, b2, b4, b8, b10⟩ := invX_2 hI
  have c11 : S 2 = .inr (1, [.int v1, .int v3, .int v5, .ref (ad 3), .ref (ad 5), .ref (ad 6), .int v6, .int v7, .ref (ad 7), .ref (ad 8), .ref (ad 9), .ref (ad 10), .int v9, .ref (ad 15), .ref (ad 16)]) := c11
  have q12 : fld (S 2) 1 = v3.toInt := fld_of c11 rfl
  have b13 : Bd v3 (1) (12) := ⟨by omega, by omega⟩
  refine lv_aload_n hx hb dX4_fewest_0 rfl (lv_at hl 0 rfl) ?_
  refine lv_iload_n hx hb dX4_fewest_1 rfl (lv_at hl 2 rfl) ?_
  refine lv_iload_n hx hb dX4_fewest_2 rfl (lv_at hl 3 rfl) ?_
  refine lv_aload_n hx hb dX4_fewest_3 rfl (lv_at hl 0 rfl) ?_
  obtain ⟨v14, v15, c17, b16⟩ := invX_102 hI
  have c17 : S 102 = .inr (4, [.ref (ad 2), .ref (ad 103), .int v14, .int v15]) := c17
  refine xget E hQ 102 (by decide) c17 rfl 0 (by decide) q416 rfl dX4_fewest_4 ?_
  refine xget E hQ 2 (by decide) c11 rfl 10 (by decide) q285 rfl dX4_fewest_7 ?_
  refine lv_iload_n hx hb dX4_fewest_10 rfl (lv_at hl 1 rfl) ?_
  obtain ⟨f18, c19, b20⟩ := invX_9 hI
  refine xiald E hQ 9 (by decide) c19 (ib_in ba1 (by decide) (by decide)) dX4_fewest_11 ?_
  refine lv_topi (fun z21 e22 => ?_)
  have b23 : Bd z21 (0) (99) := (by rw [e22]; exact b20 _)
  refine xcVv E hs hQ hml hl.1 102 (gX4_plan_102 l g ad hD S hI a2 a3 z21 ba3 b23 (by omega)) mX4_plan q1052 (by decide) c17 rfl rfl ⟨(Nat.le_of_ble_eq_true rfl), (Nat.le_of_ble_eq_true rfl)⟩ ⟨(Nat.le_of_ble_eq_true rfl), (Nat.le_of_ble_eq_true rfl)⟩ (Nat.le_of_ble_eq_true rfl) rfl dX4_fewest_12 (fun S24 H locs hp24 hQ _ => ?_)
  obtain ⟨hI, o24⟩ := hp24
  refine lv_aload_n hx hb dX4_fewest_15 rfl (lv_at hl 0 rfl) ?_
  refine lv_iload_n hx hb dX4_fewest_16 rfl (lv_at hl 1 rfl) ?_
  obtain ⟨v26, v27, c29, b28⟩ := invX_102 hI
  have c29 : S24 102 = .inr (4, [.ref (ad 2), .ref (ad 103), .int v26, .int v27]) := c29
  refine xcVi E hs hQ hml hl.1 102 (gX4_costOf_102 l g ad hD S24 hI a1 ba1) mX4_costOf q1069 (by decide) c29 rfl rfl ⟨(Nat.le_of_ble_eq_true rfl), (Nat.le_of_ble_eq_true rfl)⟩ ⟨(Nat.le_of_ble_eq_true rfl), (Nat.le_of_ble_eq_true rfl)⟩ (Nat.le_of_ble_eq_true rfl) rfl dX4_fewest_17 (fun r25 S25 H locs hp25 hQ _ => ?_)
  subst hp25
  refine lv_istore (lv' := [(4, .int r25), (0, .ref (ad 102)), (1, .int a1), (2, .int a2), (3, .int a3)]) hx hb dX4_fewest_20 hl (by decide) rfl (fun ls hl => ?_)
  refine lv_iload hx hb dX4_fewest_22 (lv_at hl 0 rfl) ?_
  refine lv_ldc (v := 1000000) hx hb E.2.2.1 (E.2.2.2.1 _ q1056) dX4_fewest_24 ?_
  refine lv_icmp_lt (tgt := 33) hx hb dX4_fewest_26 (by decide) (fun k30 => ?_) (fun k30 => ?_)
  · have h31 := ib_lt k30
    have b32 : Bd r25 (-2147483648) (999999) := ⟨((ib_full r25)).1, ((rf_lt (ib_full r25) (by decide : Bd 1000000 (1000000) (1000000)) h31).1).2⟩
    refine lv_iload hx hb dX4_fewest_33 (lv_at hl 0 rfl) ?_
    exact xri E hr hlk hQ (⟨hI, (o_trans o_refl o24 (by decide))⟩) dX4_fewest_35
  · have h33 := ib_nlt k30
    have b34 : Bd r25 (1000000) (2147483647) := ⟨((rf_le (by decide : Bd 1000000 (1000000) (1000000)) (ib_full r25) h33).2).1, ((ib_full r25)).2⟩
    refine lv_iconst (v := (-1)) hx hb dX4_fewest_29 (by decide) ?_
    refine lv_goto (tgt := 35) hx hb dX4_fewest_30 (by decide) ?_
    exact xri E hr hlk hQ (⟨hI, (o_trans o_refl o24 (by decide))⟩) dX4_fewest_35
set_option maxHeartbeats 4000000 in
set_option maxRecDepth 100000 in
theorem gX4_fewestOfAll_102 (l : Launch) (g : GG) (ad : Nat → Nat) (hD : Dj ad 122) (S : SS) (hI : InvX g ad S) (a1 : Int32) (hq1 : 0 ≤ fld (S 2) 1 + (-1)) : Met l yX4_fewestOfAll (wG (.code yX4_fewestOfAll cX4_fewestOfAll 5 (some .int))) (Rm 5) (XPre g ad 122 S [.ref (ad 102), .int a1]) (va_Qi (fun _ S' => InvX g ad S' ∧ (∀ j, j ∉ ([102, 103] : List Nat) → S' j = S j)) (QB g ad 122) (FA ad 122)) 0 0 (FA ad 122) := by
  refine xmet cX4_fewestOfAll "EbbWreck$Pushing" (by decide) rfl (Nat.le_of_ble_eq_true rfl) (fun p e s m below meth c E hr hlk hml hQ ls hl => ?_)
  have hx := E.1
  have hb := E.2.1
  have hs : Sp ad 122 (FA ad 122) := Sp.fa hD
  have hl : lv_has ls 5 [(0, .ref (ad 102)), (1, .int a1)] := hl
  obtain ⟨v1, v3, v5, v6, v7, v9, c11, b2, b4, b8, b10⟩ := invX_2 hI
  have c11 : S 2 = .inr (1, [.int v1, .int v3, .int v5, .ref (ad 3), .ref (ad 5), .ref (ad 6), .int v6, .int v7, .ref (ad 7), .ref (ad 8), .ref (ad 9), .ref (ad 10), .int v9, .ref (ad 15), .ref (ad 16)]) := c11
  have q12 : fld (S 2) 1 = v3.toInt := fld_of c11 rfl
  have b13 : Bd v3 (1) (12) := ⟨by omega, by omega⟩
  refine lv_aload_n hx hb dX4_fewestOfAll_0 rfl (lv_at hl 0 rfl) ?_
  refine lv_iload_n hx hb dX4_fewestOfAll_1 rfl (lv_at hl 1 rfl) ?_
  refine lv_iconst (v := 0) hx hb dX4_fewestOfAll_2 (by decide) ?_
  refine lv_iconst (v := 0) hx hb dX4_fewestOfAll_3 (by decide) ?_
  obtain ⟨v15, v16, c18, b17⟩ := invX_102 hI
  have c18 : S 102 = .inr (4, [.ref (ad 2), .ref (ad 103), .int v15, .int v16]) := c18
  refine xcVv E hs hQ hml hl.1 102 (gX4_plan_102 l g ad hD S hI a1 0 0 (ib_wk (by decide : Bd 0 (0) (0)) (by decide) (by decide)) (ib_wk (by decide : Bd 0 (0) (0)) (by decide) (by decide)) (by omega)) mX4_plan q1052 (by decide) c18 rfl rfl ⟨(Nat.le_of_ble_eq_true rfl), (Nat.le_of_ble_eq_true rfl)⟩ ⟨(Nat.le_of_ble_eq_true rfl), (Nat.le_of_ble_eq_true rfl)⟩ (Nat.le_of_ble_eq_true rfl) rfl dX4_fewestOfAll_4 (fun S14 H locs hp14 hQ _ => ?_)
  obtain ⟨hI, o14⟩ := hp14
  refine lv_iconst (v := 0) hx hb dX4_fewestOfAll_7 (by decide) ?_
  refine lv_istore_n (lv' := [(2, .int 0), (0, .ref (ad 102)), (1, .int a1)]) hx hb dX4_fewestOfAll_8 rfl hl (by decide) rfl (fun ls hl => ?_)
  refine lv_iconst (v := 0) hx hb dX4_fewestOfAll_9 (by decide) ?_
  refine lv_istore_n (lv' := [(3, .int 0), (2, .int 0), (0, .ref (ad 102)), (1, .int a1)]) hx hb dX4_fewestOfAll_10 rfl hl (by decide) rfl (fun ls hl => ?_)
  have loop11 : ∀ (n : Nat) (H : Heap) (locs : List Loc) (ls : Array Slot) (x11_2 : Int32) (x11_3 : Int32), Bd x11_3 (0) (8) → (-1) * x11_3.toInt + 8 < ((n : Nat) : Int) → Hp g ad 122 S14 (FA ad 122) s.heap H locs → lv_has ls 5 [(3, .int x11_3), (2, .int x11_2), (0, .ref (ad 102)), (1, .int a1)] → W p l e (Rm 5) s m [.ref (ad 102), .int a1].toArray below meth c H locs 0 0 (MQ below (va_Qi (fun _ S' => InvX g ad S' ∧ (∀ j, j ∉ ([102, 103] : List Nat) → S' j = S j)) (QB g ad 122) (FA ad 122)) [.ref (ad 102), .int a1].toArray s 0 0 (FA ad 122)) (F0 m 11 ls []) := by
    intro n
    induction n with
    | zero => intro H locs ls x11_2 x11_3 Bx11_3 hn11_ hQ hl; exfalso; have := (Bx11_3).2; omega
    | succ n11_ ih11 =>
      intro H locs ls x11_2 x11_3 Bx11_3 hn11_ hQ hl
      refine lv_iload_n hx hb dX4_fewestOfAll_11 rfl (lv_at hl 0 rfl) ?_
      refine lv_aload_n hx hb dX4_fewestOfAll_12 rfl (lv_at hl 2 rfl) ?_
      obtain ⟨v19, v20, c22, b21⟩ := invX_102 hI
      have c22 : S14 102 = .inr (4, [.ref (ad 2), .ref (ad 103), .int v19, .int v20]) := c22
      refine xget E hQ 102 (by decide) c22 rfl 0 (by decide) q416 rfl dX4_fewestOfAll_13 ?_
      have c23 : S14 2 = .inr (1, [.int v1, .int v3, .int v5, .ref (ad 3), .ref (ad 5), .ref (ad 6), .int v6, .int v7, .ref (ad 7), .ref (ad 8), .ref (ad 9), .ref (ad 10), .int v9, .ref (ad 15), .ref (ad 16)]) := ((o14 2 (by decide)).trans c11)
      refine xget E hQ 2 (by decide) c23 rfl 7 (by decide) q271 rfl dX4_fewestOfAll_16 ?_
      refine lv_icmp_ge (tgt := 49) hx hb dX4_fewestOfAll_19 (by decide) (fun k24 => ?_) (fun k24 => ?_)
      · have h25 := ib_le k24
        refine lv_iload_n hx hb dX4_fewestOfAll_49 rfl (lv_at hl 1 rfl) ?_
        exact xri E hr hlk hQ (⟨hI, (o_trans o_refl o14 (by decide))⟩) dX4_fewestOfAll_50
      · have h26 := ib_nle k24
        have b27 : Bd x11_3 (0) (7) := ⟨(Bx11_3).1, ((rf_lt Bx11_3 b8 h26).1).2⟩
        have b28 : Bd v7 (1) (8) := ⟨((rf_lt Bx11_3 b8 h26).2).1, (b8).2⟩
        refine lv_aload_n hx hb dX4_fewestOfAll_22 rfl (lv_at hl 2 rfl) ?_
        refine lv_iload_n hx hb dX4_fewestOfAll_23 rfl (lv_at hl 0 rfl) ?_
        refine xcVi E hs hQ hml hl.1 102 (gX4_costOf_102 l g ad hD S14 hI x11_3 b27) mX4_costOf q1069 (by decide) c22 rfl rfl ⟨(Nat.le_of_ble_eq_true rfl), (Nat.le_of_ble_eq_true rfl)⟩ ⟨(Nat.le_of_ble_eq_true rfl), (Nat.le_of_ble_eq_true rfl)⟩ (Nat.le_of_ble_eq_true rfl) rfl dX4_fewestOfAll_24 (fun r29 S29 H locs hp29 hQ _ => ?_)
        subst hp29
        refine lv_istore (lv' := [(4, .int r29), (3, .int x11_3), (2, .int x11_2), (0, .ref (ad 102)), (1, .int a1)]) hx hb dX4_fewestOfAll_27 hl (by decide) rfl (fun ls hl => ?_)
        refine lv_iload hx hb dX4_fewestOfAll_29 (lv_at hl 0 rfl) ?_
        refine lv_ldc (v := 1000000) hx hb E.2.2.1 (E.2.2.2.1 _ q1056) dX4_fewestOfAll_31 ?_
        refine lv_icmp_lt (tgt := 38) hx hb dX4_fewestOfAll_33 (by decide) (fun k30 => ?_) (fun k30 => ?_)
        · have h31 := ib_lt k30
          have b32 : Bd r29 (-2147483648) (999999) := ⟨((ib_full r29)).1, ((rf_lt (ib_full r29) (by decide : Bd 1000000 (1000000) (1000000)) h31).1).2⟩
          refine lv_iload_n hx hb dX4_fewestOfAll_38 rfl (lv_at hl 2 rfl) ?_
          refine lv_iload hx hb dX4_fewestOfAll_39 (lv_at hl 0 rfl) ?_
          refine lv_iadd hx hb dX4_fewestOfAll_41 ?_
          refine lv_topi (fun z33 e34 => ?_)
          refine lv_istore_n (lv' := [(2, .int z33), (4, .int r29), (3, .int x11_3), (0, .ref (ad 102)), (1, .int a1)]) hx hb dX4_fewestOfAll_42 rfl hl (by decide) rfl (fun ls hl => ?_)
          obtain ⟨z35, e36⟩ : ∃ z : Int32, z = x11_3 + 1 := ⟨_, rfl⟩
          have t37 := ib_add e36 b27 (by decide : Bd 1 (1) (1)) (by decide) (by decide)
          have b38 : Bd z35 (1) (8) := ib_addb t37 b27 (by decide : Bd 1 (1) (1))
          have t37 : z35.toInt = x11_3.toInt + 1 := fold_add t37 rfl (by decide)
          refine lv_iinc (v := z35) (lv' := [(3, .int z35), (2, .int z33), (4, .int r29), (0, .ref (ad 102)), (1, .int a1)]) hx hb dX4_fewestOfAll_43 hl (k := 2) rfl (by rw [e36]; rfl) (by decide) rfl (fun ls hl => ?_)
          refine lv_goto (tgt := 11) hx hb dX4_fewestOfAll_46 (by decide) ?_
          exact ih11 _ _ _ z33 z35 (ib_wk b38 (by decide) (by decide)) (by omega) hQ (lv_sub hl [0, 1, 3, 4] rfl)
        · have h39 := ib_nlt k30
          have b40 : Bd r29 (1000000) (2147483647) := ⟨((rf_le (by decide : Bd 1000000 (1000000) (1000000)) (ib_full r29) h39).2).1, ((ib_full r29)).2⟩
          refine lv_iconst (v := (-1)) hx hb dX4_fewestOfAll_36 (by decide) ?_
          exact xri E hr hlk hQ (⟨hI, (o_trans o_refl o14 (by decide))⟩) dX4_fewestOfAll_37
  obtain ⟨n11, hn11⟩ := fu_n (8)
  exact loop11 n11 _ _ _ 0 0 (ib_wk (by decide : Bd 0 (0) (0)) (by decide) (by decide)) (by have : (0 : Int32).toInt = 0 := (by decide); omega) hQ (lv_sub hl [0, 1, 2, 3] rfl)
set_option maxHeartbeats 4000000 in
set_option maxRecDepth 100000 in
theorem gX4_markOf_102 (l : Launch) (g : GG) (ad : Nat → Nat) (hD : Dj ad 122) (S : SS) (hI : InvX g ad S) (a1 : Int32) (a2 : Int32) (a3 : Int32) (ba1 : Bd a1 (0) (7)) (hq1 : 0 ≤ fld (S 2) 1 + (-1)) : Met l yX4_markOf (wG (.code yX4_markOf cX4_markOf 9 (some .int))) (Rm 5) (XPre g ad 122 S [.ref (ad 102), .int a1, .int a2, .int a3]) (va_Qi (fun r S' => InvX g ad S' ∧ (∀ j, j ∉ ([102, 103] : List Nat) → S' j = S j) ∧ Bd r (-1) (199)) (QB g ad 122) (FA ad 122)) 0 0 (FA ad 122) := by
  refine xmet cX4_markOf "EbbWreck$Pushing" (by decide) rfl (Nat.le_of_ble_eq_true rfl) (fun p e s m below meth c E hr hlk hml hQ ls hl => ?_)
  have hx := E.1
  have hb := E.2.1
  have hs : Sp ad 122 (FA ad 122) := Sp.fa hD
  have hl : lv_has ls 9 [(0, .ref (ad 102)), (1, .int a1), (2, .int a2), (3, .int a3)] := hl
  obtain ⟨v1, v3, v5, v6, v7, v9, c11, b2, b4, b8, b10⟩ := invX_2 hI
  have c11 : S 2 = .inr (1, [.int v1, .int v3, .int v5, .ref (ad 3), .ref (ad 5), .ref (ad 6), .int v6, .int v7, .ref (ad 7), .ref (ad 8), .ref (ad 9), .ref (ad 10), .int v9, .ref (ad 15), .ref (ad 16)]) := c11
  have q12 : fld (S 2) 1 = v3.toInt := fld_of c11 rfl
  have b13 : Bd v3 (1) (12) := ⟨by omega, by omega⟩
  refine lv_aload_n hx hb dX4_markOf_0 rfl (lv_at hl 0 rfl) ?_
  refine lv_iload_n hx hb dX4_markOf_1 rfl (lv_at hl 2 rfl) ?_
  refine lv_iconst (v := 0) hx hb dX4_markOf_2 (by decide) ?_
  refine lv_aload_n hx hb dX4_markOf_3 rfl (lv_at hl 0 rfl) ?_
  obtain ⟨v14, v15, c17, b16⟩ := invX_102 hI
  have c17 : S 102 = .inr (4, [.ref (ad 2), .ref (ad 103), .int v14, .int v15]) := c17
  refine xget E hQ 102 (by decide) c17 rfl 0 (by decide) q416 rfl dX4_markOf_4 ?_
  refine xget E hQ 2 (by decide) c11 rfl 10 (by decide) q285 rfl dX4_markOf_7 ?_
  refine lv_iload_n hx hb dX4_markOf_10 rfl (lv_at hl 1 rfl) ?_
  obtain ⟨f18, c19, b20⟩ := invX_9 hI
  refine xiald E hQ 9 (by decide) c19 (ib_in ba1 (by decide) (by decide)) dX4_markOf_11 ?_
  refine lv_topi (fun z21 e22 => ?_)
  have b23 : Bd z21 (0) (99) := (by rw [e22]; exact b20 _)
  refine xcVv E hs hQ hml hl.1 102 (gX4_plan_102 l g ad hD S hI a2 0 z21 (ib_wk (by decide : Bd 0 (0) (0)) (by decide) (by decide)) b23 (by omega)) mX4_plan q1052 (by decide) c17 rfl rfl ⟨(Nat.le_of_ble_eq_true rfl), (Nat.le_of_ble_eq_true rfl)⟩ ⟨(Nat.le_of_ble_eq_true rfl), (Nat.le_of_ble_eq_true rfl)⟩ (Nat.le_of_ble_eq_true rfl) rfl dX4_markOf_12 (fun S24 H locs hp24 hQ _ => ?_)
  obtain ⟨hI, o24⟩ := hp24
  refine lv_aload_n hx hb dX4_markOf_15 rfl (lv_at hl 0 rfl) ?_
  refine lv_iload_n hx hb dX4_markOf_16 rfl (lv_at hl 1 rfl) ?_
  obtain ⟨v26, v27, c29, b28⟩ := invX_102 hI
  have c29 : S24 102 = .inr (4, [.ref (ad 2), .ref (ad 103), .int v26, .int v27]) := c29
  refine xcVi E hs hQ hml hl.1 102 (gX4_costOf_102 l g ad hD S24 hI a1 ba1) mX4_costOf q1069 (by decide) c29 rfl rfl ⟨(Nat.le_of_ble_eq_true rfl), (Nat.le_of_ble_eq_true rfl)⟩ ⟨(Nat.le_of_ble_eq_true rfl), (Nat.le_of_ble_eq_true rfl)⟩ (Nat.le_of_ble_eq_true rfl) rfl dX4_markOf_17 (fun r25 S25 H locs hp25 hQ _ => ?_)
  subst hp25
  refine lv_istore (lv' := [(4, .int r25), (0, .ref (ad 102)), (1, .int a1), (2, .int a2), (3, .int a3)]) hx hb dX4_markOf_20 hl (by decide) rfl (fun ls hl => ?_)
  refine lv_iload hx hb dX4_markOf_22 (lv_at hl 0 rfl) ?_
  refine lv_ldc (v := 1000000) hx hb E.2.2.1 (E.2.2.2.1 _ q1056) dX4_markOf_24 ?_
  refine lv_icmp_ge (tgt := 39) hx hb dX4_markOf_26 (by decide) (fun k30 => ?_) (fun k30 => ?_)
  · have h31 := ib_le k30
    have b32 : Bd r25 (1000000) (2147483647) := ⟨((rf_le (by decide : Bd 1000000 (1000000) (1000000)) (ib_full r25) h31).2).1, ((ib_full r25)).2⟩
    refine lv_iconst (v := (-1)) hx hb dX4_markOf_39 (by decide) ?_
    exact xri E hr hlk hQ (⟨hI, (o_trans o_refl o24 (by decide)), (ib_wk (by decide : Bd (-1) (-1) (-1)) (by decide) (by decide))⟩) dX4_markOf_40
  · have h33 := ib_nle k30
    have b34 : Bd r25 (-2147483648) (999999) := ⟨((ib_full r25)).1, ((rf_lt (ib_full r25) (by decide : Bd 1000000 (1000000) (1000000)) h33).1).2⟩
    refine lv_iload_n hx hb dX4_markOf_29 rfl (lv_at hl 4 rfl) ?_
    refine lv_if_lt (tgt := 39) hx hb dX4_markOf_30 (by decide) (fun k35 => ?_) (fun k35 => ?_)
    · have h36 := ib_lt k35
      have b37 : Bd a3 (-2147483648) (-1) := ⟨((ib_full a3)).1, ((rf_lt (ib_full a3) (by decide : Bd 0 (0) (0)) h36).1).2⟩
      refine lv_iconst (v := (-1)) hx hb dX4_markOf_39 (by decide) ?_
      exact xri E hr hlk hQ (⟨hI, (o_trans o_refl o24 (by decide)), (ib_wk (by decide : Bd (-1) (-1) (-1)) (by decide) (by decide))⟩) dX4_markOf_40
    · have h38 := ib_nlt k35
      have b39 : Bd a3 (0) (2147483647) := ⟨((rf_le (by decide : Bd 0 (0) (0)) (ib_full a3) h38).2).1, ((ib_full a3)).2⟩
      refine lv_iload_n hx hb dX4_markOf_33 rfl (lv_at hl 4 rfl) ?_
      refine lv_iload hx hb dX4_markOf_34 (lv_at hl 0 rfl) ?_
      refine lv_icmp_lt (tgt := 41) hx hb dX4_markOf_36 (by decide) (fun k40 => ?_) (fun k40 => ?_)
      · have h41 := ib_lt k40
        have b42 : Bd a3 (0) (999998) := ⟨(b39).1, ((rf_lt b39 b34 h41).1).2⟩
        have b43 : Bd r25 (1) (999999) := ⟨((rf_lt b39 b34 h41).2).1, (b34).2⟩
        refine lv_aload_n hx hb dX4_markOf_41 rfl (lv_at hl 1 rfl) ?_
        refine xget E hQ 102 (by decide) c29 rfl 0 (by decide) q416 rfl dX4_markOf_42 ?_
        have c44 : S24 2 = .inr (1, [.int v1, .int v3, .int v5, .ref (ad 3), .ref (ad 5), .ref (ad 6), .int v6, .int v7, .ref (ad 7), .ref (ad 8), .ref (ad 9), .ref (ad 10), .int v9, .ref (ad 15), .ref (ad 16)]) := ((o24 2 (by decide)).trans c11)
        refine xget E hQ 2 (by decide) c44 rfl 9 (by decide) q280 rfl dX4_markOf_45 ?_
        refine lv_iload_n hx hb dX4_markOf_48 rfl (lv_at hl 2 rfl) ?_
        obtain ⟨f45, c46, b47⟩ := invX_8 hI
        refine xiald E hQ 8 (by decide) c46 (ib_in ba1 (by decide) (by decide)) dX4_markOf_49 ?_
        refine lv_topi (fun z48 e49 => ?_)
        have b50 : Bd z48 (0) (11) := (by rw [e49]; exact b47 _)
        refine lv_istore (lv' := [(5, .int z48), (4, .int r25), (0, .ref (ad 102)), (1, .int a1), (2, .int a2), (3, .int a3)]) hx hb dX4_markOf_50 hl (by decide) rfl (fun ls hl => ?_)
        refine lv_iconst (v := 0) hx hb dX4_markOf_52 (by decide) ?_
        refine lv_istore (lv' := [(6, .int 0), (5, .int z48), (4, .int r25), (0, .ref (ad 102)), (1, .int a1), (2, .int a2), (3, .int a3)]) hx hb dX4_markOf_53 hl (by decide) rfl (fun ls hl => ?_)
        refine lv_aload_n hx hb dX4_markOf_55 rfl (lv_at hl 3 rfl) ?_
        refine xget E hQ 102 (by decide) c29 rfl 0 (by decide) q416 rfl dX4_markOf_56 ?_
        refine xget E hQ 2 (by decide) c44 rfl 10 (by decide) q285 rfl dX4_markOf_59 ?_
        refine lv_iload_n hx hb dX4_markOf_62 rfl (lv_at hl 4 rfl) ?_
        have c51 : S24 9 = .inl (g.2 0, 8, .inl f18) := ((o24 9 (by decide)).trans c19)
        refine xiald E hQ 9 (by decide) c51 (ib_in ba1 (by decide) (by decide)) dX4_markOf_63 ?_
        refine lv_topi (fun z52 e53 => ?_)
        have t54 : z52.toInt = z21.toInt := by rw [e53, e22]
        have b55 : Bd z52 (0) (99) := (by rw [Bd, t54]; exact b23)
        refine lv_istore (lv' := [(7, .int z52), (6, .int 0), (5, .int z48), (4, .int r25), (0, .ref (ad 102)), (1, .int a1), (2, .int a2), (3, .int a3)]) hx hb dX4_markOf_64 hl (by decide) rfl (fun ls hl => ?_)
        have loop66 : ∀ (n : Nat) (H : Heap) (locs : List Loc) (ls : Array Slot) (x66_5 : Int32) (x66_6 : Int32) (x66_7 : Int32), Bd x66_5 (0) (11) → Bd x66_7 (0) (100) → (-1) * x66_7.toInt + 100 < ((n : Nat) : Int) → Hp g ad 122 S24 (FA ad 122) s.heap H locs → lv_has ls 9 [(7, .int x66_7), (6, .int x66_6), (5, .int x66_5), (4, .int r25), (0, .ref (ad 102)), (1, .int a1), (2, .int a2), (3, .int a3)] → W p l e (Rm 5) s m [.ref (ad 102), .int a1, .int a2, .int a3].toArray below meth c H locs 0 0 (MQ below (va_Qi (fun r S' => InvX g ad S' ∧ (∀ j, j ∉ ([102, 103] : List Nat) → S' j = S j) ∧ Bd r (-1) (199)) (QB g ad 122) (FA ad 122)) [.ref (ad 102), .int a1, .int a2, .int a3].toArray s 0 0 (FA ad 122)) (F0 m 66 ls []) := by
          intro n
          induction n with
          | zero => intro H locs ls x66_5 x66_6 x66_7 Bx66_5 Bx66_7 hn66_ hQ hl; exfalso; have := (Bx66_7).2; omega
          | succ n66_ ih66 =>
            intro H locs ls x66_5 x66_6 x66_7 Bx66_5 Bx66_7 hn66_ hQ hl
            refine lv_iload hx hb dX4_markOf_66 (lv_at hl 0 rfl) ?_
            refine lv_bipush (v := 100) hx hb dX4_markOf_68 (by decide) ?_
            refine lv_icmp_ge (tgt := 139) hx hb dX4_markOf_70 (by decide) (fun k56 => ?_) (fun k56 => ?_)
            · have h57 := ib_le k56
              have b58 : Bd x66_7 (100) (100) := ⟨((rf_le (by decide : Bd 100 (100) (100)) Bx66_7 h57).2).1, (Bx66_7).2⟩
              refine lv_iconst (v := (-1)) hx hb dX4_markOf_139 (by decide) ?_
              exact xri E hr hlk hQ (⟨hI, (o_trans o_refl o24 (by decide)), (ib_wk (by decide : Bd (-1) (-1) (-1)) (by decide) (by decide))⟩) dX4_markOf_140
            · have h59 := ib_nle k56
              have b60 : Bd x66_7 (0) (99) := ⟨(Bx66_7).1, ((rf_lt Bx66_7 (by decide : Bd 100 (100) (100)) h59).1).2⟩
              refine lv_aload_n hx hb dX4_markOf_73 rfl (lv_at hl 4 rfl) ?_
              refine lv_iload hx hb dX4_markOf_74 (lv_at hl 2 rfl) ?_
              refine lv_iload hx hb dX4_markOf_76 (lv_at hl 0 rfl) ?_
              have q61 : fld (S24 2) 1 = v3.toInt := fld_of c44 rfl
              refine xcVi E hs hQ hml hl.1 102 (gX4_firstWay_102 l g ad hD S24 hI x66_5 x66_7 Bx66_5 b60 (by omega)) mX4_firstWay q1081 (by decide) c29 rfl rfl ⟨(Nat.le_of_ble_eq_true rfl), (Nat.le_of_ble_eq_true rfl)⟩ ⟨(Nat.le_of_ble_eq_true rfl), (Nat.le_of_ble_eq_true rfl)⟩ (Nat.le_of_ble_eq_true rfl) rfl dX4_markOf_78 (fun r62 S62 H locs hp62 hQ _ => ?_)
              obtain ⟨rfl, b62⟩ := hp62
              refine lv_istore (lv' := [(8, .int r62), (7, .int x66_7), (6, .int x66_6), (5, .int x66_5), (4, .int r25), (0, .ref (ad 102)), (1, .int a1), (2, .int a2), (3, .int a3)]) hx hb dX4_markOf_81 hl (by decide) rfl (fun ls hl => ?_)
              refine lv_iload hx hb dX4_markOf_83 (lv_at hl 0 rfl) ?_
              refine lv_if_eq (tgt := 110) hx hb dX4_markOf_85 (by decide) (fun k63 => ?_) (fun k63 => ?_)
              · have h64 := ib_eq k63
                have b65 : Bd r62 (0) (0) := ⟨((rf_eq b62 (by decide : Bd 0 (0) (0)) h64).1).1, ((rf_eq b62 (by decide : Bd 0 (0) (0)) h64).1).2⟩
                refine lv_iload hx hb dX4_markOf_110 (lv_at hl 0 rfl) ?_
                refine lv_if_eq (tgt := 118) hx hb dX4_markOf_112 (by decide) (fun k66 => ?_) (fun k66 => ?_)
                · have h67 := ib_eq k66
                  refine lv_aload_n hx hb dX4_markOf_118 rfl (lv_at hl 5 rfl) ?_
                  refine xget E hQ 102 (by decide) c29 rfl 0 (by decide) q416 rfl dX4_markOf_119 ?_
                  refine lv_iload hx hb dX4_markOf_122 (lv_at hl 3 rfl) ?_
                  refine lv_iload hx hb dX4_markOf_124 (lv_at hl 0 rfl) ?_
                  refine lv_iload hx hb dX4_markOf_126 (lv_at hl 1 rfl) ?_
                  refine xcVi E hs hQ hml hl.1 2 (gX1_pushedAndDrifted_2 l g ad hD S24 hI x66_5 r62 x66_7 (by omega)) mX1_pushedAndDrifted q1062 (by decide) c44 rfl rfl ⟨(Nat.le_of_ble_eq_true rfl), (Nat.le_of_ble_eq_true rfl)⟩ ⟨(Nat.le_of_ble_eq_true rfl), (Nat.le_of_ble_eq_true rfl)⟩ (Nat.le_of_ble_eq_true rfl) rfl dX4_markOf_128 (fun r68 S68 H locs hp68 hQ _ => ?_)
                  obtain ⟨rfl, b68⟩ := hp68
                  refine lv_istore (lv' := [(5, .int r68), (8, .int r62), (7, .int x66_7), (6, .int x66_6), (4, .int r25), (0, .ref (ad 102)), (1, .int a1), (2, .int a2), (3, .int a3)]) hx hb dX4_markOf_131 hl (by decide) rfl (fun ls hl => ?_)
                  obtain ⟨z69, e70⟩ : ∃ z : Int32, z = x66_7 + 1 := ⟨_, rfl⟩
                  have t71 := ib_add e70 b60 (by decide : Bd 1 (1) (1)) (by decide) (by decide)
                  have b72 : Bd z69 (1) (100) := ib_addb t71 b60 (by decide : Bd 1 (1) (1))
                  have t71 : z69.toInt = x66_7.toInt + 1 := fold_add t71 rfl (by decide)
                  refine lv_iinc (v := z69) (lv' := [(7, .int z69), (5, .int r68), (8, .int r62), (6, .int x66_6), (4, .int r25), (0, .ref (ad 102)), (1, .int a1), (2, .int a2), (3, .int a3)]) hx hb dX4_markOf_133 hl (k := 2) rfl (by rw [e70]; rfl) (by decide) rfl (fun ls hl => ?_)
                  refine lv_goto (tgt := 66) hx hb dX4_markOf_136 (by decide) ?_
                  exact ih66 _ _ _ r68 x66_6 z69 b68 (ib_wk b72 (by decide) (by decide)) (by omega) hQ (lv_sub hl [0, 3, 1, 4, 5, 6, 7, 8] rfl)
                · have h73 := ib_ne k66
                  exact absurd (Int.le_antisymm (Int.le_trans (b65).2 ((by decide : Bd 0 (0) (0))).1) (Int.le_trans ((by decide : Bd 0 (0) (0))).2 (b65).1)) h73
              · have h74 := ib_ne k63
                refine lv_iload hx hb dX4_markOf_88 (lv_at hl 2 rfl) ?_
                refine lv_iload_n hx hb dX4_markOf_90 rfl (lv_at hl 8 rfl) ?_
                refine lv_icmp_ne (tgt := 110) hx hb dX4_markOf_91 (by decide) (fun k75 => ?_) (fun k75 => ?_)
                · have h76 := ib_ne k75
                  refine lv_iload hx hb dX4_markOf_110 (lv_at hl 0 rfl) ?_
                  refine lv_if_eq (tgt := 118) hx hb dX4_markOf_112 (by decide) (fun k77 => ?_) (fun k77 => ?_)
                  · have h78 := ib_eq k77
                    have b79 : Bd r62 (0) (0) := ⟨((rf_eq b62 (by decide : Bd 0 (0) (0)) h78).1).1, ((rf_eq b62 (by decide : Bd 0 (0) (0)) h78).1).2⟩
                    refine lv_aload_n hx hb dX4_markOf_118 rfl (lv_at hl 5 rfl) ?_
                    refine xget E hQ 102 (by decide) c29 rfl 0 (by decide) q416 rfl dX4_markOf_119 ?_
                    refine lv_iload hx hb dX4_markOf_122 (lv_at hl 3 rfl) ?_
                    refine lv_iload hx hb dX4_markOf_124 (lv_at hl 0 rfl) ?_
                    refine lv_iload hx hb dX4_markOf_126 (lv_at hl 1 rfl) ?_
                    refine xcVi E hs hQ hml hl.1 2 (gX1_pushedAndDrifted_2 l g ad hD S24 hI x66_5 r62 x66_7 (by omega)) mX1_pushedAndDrifted q1062 (by decide) c44 rfl rfl ⟨(Nat.le_of_ble_eq_true rfl), (Nat.le_of_ble_eq_true rfl)⟩ ⟨(Nat.le_of_ble_eq_true rfl), (Nat.le_of_ble_eq_true rfl)⟩ (Nat.le_of_ble_eq_true rfl) rfl dX4_markOf_128 (fun r80 S80 H locs hp80 hQ _ => ?_)
                    obtain ⟨rfl, b80⟩ := hp80
                    refine lv_istore (lv' := [(5, .int r80), (8, .int r62), (7, .int x66_7), (6, .int x66_6), (4, .int r25), (0, .ref (ad 102)), (1, .int a1), (2, .int a2), (3, .int a3)]) hx hb dX4_markOf_131 hl (by decide) rfl (fun ls hl => ?_)
                    obtain ⟨z81, e82⟩ : ∃ z : Int32, z = x66_7 + 1 := ⟨_, rfl⟩
                    have t83 := ib_add e82 b60 (by decide : Bd 1 (1) (1)) (by decide) (by decide)
                    have b84 : Bd z81 (1) (100) := ib_addb t83 b60 (by decide : Bd 1 (1) (1))
                    have t83 : z81.toInt = x66_7.toInt + 1 := fold_add t83 rfl (by decide)
                    refine lv_iinc (v := z81) (lv' := [(7, .int z81), (5, .int r80), (8, .int r62), (6, .int x66_6), (4, .int r25), (0, .ref (ad 102)), (1, .int a1), (2, .int a2), (3, .int a3)]) hx hb dX4_markOf_133 hl (k := 2) rfl (by rw [e82]; rfl) (by decide) rfl (fun ls hl => ?_)
                    refine lv_goto (tgt := 66) hx hb dX4_markOf_136 (by decide) ?_
                    exact ih66 _ _ _ r80 x66_6 z81 b80 (ib_wk b84 (by decide) (by decide)) (by omega) hQ (lv_sub hl [0, 3, 1, 4, 5, 6, 7, 8] rfl)
                  · have h85 := ib_ne k77
                    obtain ⟨z86, e87⟩ : ∃ z : Int32, z = x66_6 + 1 := ⟨_, rfl⟩
                    refine lv_iinc (v := z86) (lv' := [(6, .int z86), (8, .int r62), (7, .int x66_7), (5, .int x66_5), (4, .int r25), (0, .ref (ad 102)), (1, .int a1), (2, .int a2), (3, .int a3)]) hx hb dX4_markOf_115 hl (k := 2) rfl (by rw [e87]; rfl) (by decide) rfl (fun ls hl => ?_)
                    refine lv_aload_n hx hb dX4_markOf_118 rfl (lv_at hl 5 rfl) ?_
                    refine xget E hQ 102 (by decide) c29 rfl 0 (by decide) q416 rfl dX4_markOf_119 ?_
                    refine lv_iload hx hb dX4_markOf_122 (lv_at hl 3 rfl) ?_
                    refine lv_iload hx hb dX4_markOf_124 (lv_at hl 1 rfl) ?_
                    refine lv_iload hx hb dX4_markOf_126 (lv_at hl 2 rfl) ?_
                    refine xcVi E hs hQ hml hl.1 2 (gX1_pushedAndDrifted_2 l g ad hD S24 hI x66_5 r62 x66_7 (by omega)) mX1_pushedAndDrifted q1062 (by decide) c44 rfl rfl ⟨(Nat.le_of_ble_eq_true rfl), (Nat.le_of_ble_eq_true rfl)⟩ ⟨(Nat.le_of_ble_eq_true rfl), (Nat.le_of_ble_eq_true rfl)⟩ (Nat.le_of_ble_eq_true rfl) rfl dX4_markOf_128 (fun r88 S88 H locs hp88 hQ _ => ?_)
                    obtain ⟨rfl, b88⟩ := hp88
                    refine lv_istore (lv' := [(5, .int r88), (6, .int z86), (8, .int r62), (7, .int x66_7), (4, .int r25), (0, .ref (ad 102)), (1, .int a1), (2, .int a2), (3, .int a3)]) hx hb dX4_markOf_131 hl (by decide) rfl (fun ls hl => ?_)
                    obtain ⟨z89, e90⟩ : ∃ z : Int32, z = x66_7 + 1 := ⟨_, rfl⟩
                    have t91 := ib_add e90 b60 (by decide : Bd 1 (1) (1)) (by decide) (by decide)
                    have b92 : Bd z89 (1) (100) := ib_addb t91 b60 (by decide : Bd 1 (1) (1))
                    have t91 : z89.toInt = x66_7.toInt + 1 := fold_add t91 rfl (by decide)
                    refine lv_iinc (v := z89) (lv' := [(7, .int z89), (5, .int r88), (6, .int z86), (8, .int r62), (4, .int r25), (0, .ref (ad 102)), (1, .int a1), (2, .int a2), (3, .int a3)]) hx hb dX4_markOf_133 hl (k := 3) rfl (by rw [e90]; rfl) (by decide) rfl (fun ls hl => ?_)
                    refine lv_goto (tgt := 66) hx hb dX4_markOf_136 (by decide) ?_
                    exact ih66 _ _ _ r88 z86 z89 b88 (ib_wk b92 (by decide) (by decide)) (by omega) hQ (lv_sub hl [0, 2, 1, 4, 5, 6, 7, 8] rfl)
                · have h93 := ib_eq k75
                  have b94 : Bd x66_6 (0) (999998) := ⟨((rf_eq (ib_full x66_6) b42 h93).1).1, ((rf_eq (ib_full x66_6) b42 h93).1).2⟩
                  refine lv_iconst (v := 2) hx hb dX4_markOf_94 (by decide) ?_
                  refine lv_iload hx hb dX4_markOf_95 (lv_at hl 1 rfl) ?_
                  refine lv_imul hx hb dX4_markOf_97 ?_
                  refine lv_topi (fun z95 e96 => ?_)
                  have t97 := ib_cmul (q := 2) e96 (by decide) (by decide) b60 (by decide) (by decide)
                  have b98 : Bd z95 (0) (198) := ib_mulb t97 (by decide) b60
                  refine lv_iload hx hb dX4_markOf_98 (lv_at hl 0 rfl) ?_
                  refine lv_if_ge (tgt := 107) hx hb dX4_markOf_100 (by decide) (fun k99 => ?_) (fun k99 => ?_)
                  · have h100 := ib_le k99
                    have b101 : Bd r62 (0) (1) := ⟨((rf_le (by decide : Bd 0 (0) (0)) b62 h100).2).1, (b62).2⟩
                    refine lv_iconst (v := 0) hx hb dX4_markOf_107 (by decide) ?_
                    refine lv_iadd hx hb dX4_markOf_108 ?_
                    refine lv_topi (fun z102 e103 => ?_)
                    have t104 := ib_add e103 b98 (by decide : Bd 0 (0) (0)) (by decide) (by decide)
                    have b105 : Bd z102 (0) (198) := ib_addb t104 b98 (by decide : Bd 0 (0) (0))
                    have t104 : z102.toInt = z95.toInt + 0 := fold_add t104 rfl (by decide)
                    exact xri E hr hlk hQ (⟨hI, (o_trans o_refl o24 (by decide)), (ib_wk b105 (by decide) (by decide))⟩) dX4_markOf_109
                  · have h106 := ib_nle k99
                    have b107 : Bd r62 (-1) (-1) := ⟨(b62).1, ((rf_lt b62 (by decide : Bd 0 (0) (0)) h106).1).2⟩
                    refine lv_iconst (v := 1) hx hb dX4_markOf_103 (by decide) ?_
                    refine lv_goto (tgt := 108) hx hb dX4_markOf_104 (by decide) ?_
                    refine lv_iadd hx hb dX4_markOf_108 ?_
                    refine lv_topi (fun z108 e109 => ?_)
                    have t110 := ib_add e109 b98 (by decide : Bd 1 (1) (1)) (by decide) (by decide)
                    have b111 : Bd z108 (1) (199) := ib_addb t110 b98 (by decide : Bd 1 (1) (1))
                    have t110 : z108.toInt = z95.toInt + 1 := fold_add t110 rfl (by decide)
                    exact xri E hr hlk hQ (⟨hI, (o_trans o_refl o24 (by decide)), (ib_wk b111 (by decide) (by decide))⟩) dX4_markOf_109
        obtain ⟨n66, hn66⟩ := fu_n ((-1) * z52.toInt + 100)
        exact loop66 n66 _ _ _ z48 0 z52 b50 (ib_wk b55 (by decide) (by decide)) (by have : (0 : Int32).toInt = 0 := (by decide); omega) hQ (lv_sub hl [0, 1, 2, 3, 4, 5, 6, 7] rfl)
      · have h112 := ib_nlt k40
        refine lv_iconst (v := (-1)) hx hb dX4_markOf_39 (by decide) ?_
        exact xri E hr hlk hQ (⟨hI, (o_trans o_refl o24 (by decide)), (ib_wk (by decide : Bd (-1) (-1) (-1)) (by decide) (by decide))⟩) dX4_markOf_40
set_option maxHeartbeats 4000000 in
set_option maxRecDepth 100000 in
theorem gX4_firstHour_102 (l : Launch) (g : GG) (ad : Nat → Nat) (hD : Dj ad 122) (S : SS) (hI : InvX g ad S) (a1 : Int32) (a2 : Int32) (ba1 : Bd a1 (0) (7)) (hq1 : 0 ≤ fld (S 2) 1 + (-1)) : Met l yX4_firstHour (wG (.code yX4_firstHour cX4_firstHour 6 (some .int))) (Rm 4) (XPre g ad 122 S [.ref (ad 102), .int a1, .int a2]) (va_Qi (fun r S' => S = S' ∧ Bd r (-1) (100)) (QB g ad 122) (FA ad 122)) 0 0 (FA ad 122) := by
  refine xmet cX4_firstHour "EbbWreck$Pushing" (by decide) rfl (Nat.le_of_ble_eq_true rfl) (fun p e s m below meth c E hr hlk hml hQ ls hl => ?_)
  have hx := E.1
  have hb := E.2.1
  have hs : Sp ad 122 (FA ad 122) := Sp.fa hD
  have hl : lv_has ls 6 [(0, .ref (ad 102)), (1, .int a1), (2, .int a2)] := hl
  obtain ⟨v1, v3, v5, v6, v7, v9, c11, b2, b4, b8, b10⟩ := invX_2 hI
  have c11 : S 2 = .inr (1, [.int v1, .int v3, .int v5, .ref (ad 3), .ref (ad 5), .ref (ad 6), .int v6, .int v7, .ref (ad 7), .ref (ad 8), .ref (ad 9), .ref (ad 10), .int v9, .ref (ad 15), .ref (ad 16)]) := c11
  have q12 : fld (S 2) 1 = v3.toInt := fld_of c11 rfl
  have b13 : Bd v3 (1) (12) := ⟨by omega, by omega⟩
  refine lv_iconst (v := 1) hx hb dX4_firstHour_0 (by decide) ?_
  refine lv_aload_n hx hb dX4_firstHour_1 rfl (lv_at hl 0 rfl) ?_
  obtain ⟨v14, v15, c17, b16⟩ := invX_102 hI
  have c17 : S 102 = .inr (4, [.ref (ad 2), .ref (ad 103), .int v14, .int v15]) := c17
  refine xget E hQ 102 (by decide) c17 rfl 0 (by decide) q416 rfl dX4_firstHour_2 ?_
  refine xget E hQ 2 (by decide) c11 rfl 9 (by decide) q280 rfl dX4_firstHour_5 ?_
  refine lv_iload_n hx hb dX4_firstHour_8 rfl (lv_at hl 1 rfl) ?_
  obtain ⟨f18, c19, b20⟩ := invX_8 hI
  refine xiald E hQ 8 (by decide) c19 (ib_in ba1 (by decide) (by decide)) dX4_firstHour_9 ?_
  refine lv_topi (fun z21 e22 => ?_)
  have b23 : Bd z21 (0) (11) := (by rw [e22]; exact b20 _)
  refine lv_ishl hx hb dX4_firstHour_10 ?_
  refine lv_topi (fun z24 e25 => ?_)
  refine lv_istore_n (lv' := [(3, .int z24), (0, .ref (ad 102)), (1, .int a1), (2, .int a2)]) hx hb dX4_firstHour_11 rfl hl (by decide) rfl (fun ls hl => ?_)
  refine lv_aload_n hx hb dX4_firstHour_12 rfl (lv_at hl 1 rfl) ?_
  refine xget E hQ 102 (by decide) c17 rfl 0 (by decide) q416 rfl dX4_firstHour_13 ?_
  refine xget E hQ 2 (by decide) c11 rfl 10 (by decide) q285 rfl dX4_firstHour_16 ?_
  refine lv_iload_n hx hb dX4_firstHour_19 rfl (lv_at hl 2 rfl) ?_
  obtain ⟨f26, c27, b28⟩ := invX_9 hI
  refine xiald E hQ 9 (by decide) c27 (ib_in ba1 (by decide) (by decide)) dX4_firstHour_20 ?_
  refine lv_topi (fun z29 e30 => ?_)
  have b31 : Bd z29 (0) (99) := (by rw [e30]; exact b28 _)
  refine lv_istore (lv' := [(4, .int z29), (3, .int z24), (0, .ref (ad 102)), (1, .int a1), (2, .int a2)]) hx hb dX4_firstHour_21 hl (by decide) rfl (fun ls hl => ?_)
  have loop23 : ∀ (n : Nat) (H : Heap) (locs : List Loc) (ls : Array Slot) (x23_3 : Int32) (x23_4 : Int32), Bd x23_4 (0) (100) → (-1) * x23_4.toInt + 100 < ((n : Nat) : Int) → Hp g ad 122 S (FA ad 122) s.heap H locs → lv_has ls 6 [(4, .int x23_4), (3, .int x23_3), (0, .ref (ad 102)), (1, .int a1), (2, .int a2)] → W p l e (Rm 4) s m [.ref (ad 102), .int a1, .int a2].toArray below meth c H locs 0 0 (MQ below (va_Qi (fun r S' => S = S' ∧ Bd r (-1) (100)) (QB g ad 122) (FA ad 122)) [.ref (ad 102), .int a1, .int a2].toArray s 0 0 (FA ad 122)) (F0 m 23 ls []) := by
    intro n
    induction n with
    | zero => intro H locs ls x23_3 x23_4 Bx23_4 hn23_ hQ hl; exfalso; have := (Bx23_4).2; omega
    | succ n23_ ih23 =>
      intro H locs ls x23_3 x23_4 Bx23_4 hn23_ hQ hl
      refine lv_iload hx hb dX4_firstHour_23 (lv_at hl 0 rfl) ?_
      refine lv_bipush (v := 100) hx hb dX4_firstHour_25 (by decide) ?_
      refine lv_icmp_ge (tgt := 85) hx hb dX4_firstHour_27 (by decide) (fun k32 => ?_) (fun k32 => ?_)
      · have h33 := ib_le k32
        have b34 : Bd x23_4 (100) (100) := ⟨((rf_le (by decide : Bd 100 (100) (100)) Bx23_4 h33).2).1, (Bx23_4).2⟩
        refine lv_iconst (v := (-1)) hx hb dX4_firstHour_85 (by decide) ?_
        exact xri E hr hlk hQ (⟨rfl, (ib_wk (by decide : Bd (-1) (-1) (-1)) (by decide) (by decide))⟩) dX4_firstHour_86
      · have h35 := ib_nle k32
        have b36 : Bd x23_4 (0) (99) := ⟨(Bx23_4).1, ((rf_lt Bx23_4 (by decide : Bd 100 (100) (100)) h35).1).2⟩
        refine lv_aload_n hx hb dX4_firstHour_30 rfl (lv_at hl 2 rfl) ?_
        refine lv_iload_n hx hb dX4_firstHour_31 rfl (lv_at hl 1 rfl) ?_
        refine lv_iload hx hb dX4_firstHour_32 (lv_at hl 0 rfl) ?_
        refine xcVi E hs hQ hml hl.1 102 (gX4_reachedFrom_102 l g ad hD S hI x23_3 x23_4 (by omega)) mX4_reachedFrom q1097 (by decide) c17 rfl rfl ⟨(Nat.le_of_ble_eq_true rfl), (Nat.le_of_ble_eq_true rfl)⟩ ⟨(Nat.le_of_ble_eq_true rfl), (Nat.le_of_ble_eq_true rfl)⟩ (Nat.le_of_ble_eq_true rfl) rfl dX4_firstHour_34 (fun r37 S37 H locs hp37 hQ _ => ?_)
        subst hp37
        refine lv_istore (lv' := [(5, .int r37), (4, .int x23_4), (3, .int x23_3), (0, .ref (ad 102)), (1, .int a1), (2, .int a2)]) hx hb dX4_firstHour_37 hl (by decide) rfl (fun ls hl => ?_)
        refine lv_aload_n hx hb dX4_firstHour_39 rfl (lv_at hl 3 rfl) ?_
        refine lv_iload_n hx hb dX4_firstHour_40 rfl (lv_at hl 5 rfl) ?_
        refine lv_iload hx hb dX4_firstHour_41 (lv_at hl 0 rfl) ?_
        refine lv_aload_n hx hb dX4_firstHour_43 rfl (lv_at hl 3 rfl) ?_
        refine xget E hQ 102 (by decide) c17 rfl 0 (by decide) q416 rfl dX4_firstHour_44 ?_
        refine xget E hQ 2 (by decide) c11 rfl 6 (by decide) q264 rfl dX4_firstHour_47 ?_
        refine lv_iand hx hb dX4_firstHour_50 ?_
        refine lv_topi (fun z38 e39 => ?_)
        refine lv_iload hx hb dX4_firstHour_51 (lv_at hl 1 rfl) ?_
        refine lv_iconst (v := 1) hx hb dX4_firstHour_53 (by decide) ?_
        refine lv_iadd hx hb dX4_firstHour_54 ?_
        refine lv_topi (fun z40 e41 => ?_)
        have t42 := ib_add e41 b36 (by decide : Bd 1 (1) (1)) (by decide) (by decide)
        have b43 : Bd z40 (1) (100) := ib_addb t42 b36 (by decide : Bd 1 (1) (1))
        have t42 : z40.toInt = x23_4.toInt + 1 := fold_add t42 rfl (by decide)
        refine xcVi E hs hQ hml hl.1 102 (gX4_isWonBy_102 l g ad hD S hI a2 z38 z40) mX4_isWonBy q1101 (by decide) c17 rfl rfl ⟨(Nat.le_of_ble_eq_true rfl), (Nat.le_of_ble_eq_true rfl)⟩ ⟨(Nat.le_of_ble_eq_true rfl), (Nat.le_of_ble_eq_true rfl)⟩ (Nat.le_of_ble_eq_true rfl) rfl dX4_firstHour_55 (fun r44 S44 H locs hp44 hQ _ => ?_)
        obtain ⟨rfl, b44⟩ := hp44
        refine lv_if_eq (tgt := 66) hx hb dX4_firstHour_58 (by decide) (fun k45 => ?_) (fun k45 => ?_)
        · have h46 := ib_eq k45
          have b47 : Bd r44 (0) (0) := ⟨(b44).1, ((rf_eq b44 (by decide : Bd 0 (0) (0)) h46).1).2⟩
          refine lv_iload hx hb dX4_firstHour_66 (lv_at hl 0 rfl) ?_
          refine lv_aload_n hx hb dX4_firstHour_68 rfl (lv_at hl 3 rfl) ?_
          refine xget E hQ 102 (by decide) c17 rfl 0 (by decide) q416 rfl dX4_firstHour_69 ?_
          refine xget E hQ 2 (by decide) c11 rfl 6 (by decide) q264 rfl dX4_firstHour_72 ?_
          refine lv_iconst (v := (-1)) hx hb dX4_firstHour_75 (by decide) ?_
          refine lv_ixor hx hb dX4_firstHour_76 ?_
          refine lv_topi (fun z48 e49 => ?_)
          refine lv_iand hx hb dX4_firstHour_77 ?_
          refine lv_topi (fun z50 e51 => ?_)
          refine lv_istore_n (lv' := [(3, .int z50), (5, .int r37), (4, .int x23_4), (0, .ref (ad 102)), (1, .int a1), (2, .int a2)]) hx hb dX4_firstHour_78 rfl hl (by decide) rfl (fun ls hl => ?_)
          obtain ⟨z52, e53⟩ : ∃ z : Int32, z = x23_4 + 1 := ⟨_, rfl⟩
          have t54 := ib_add e53 b36 (by decide : Bd 1 (1) (1)) (by decide) (by decide)
          have b55 : Bd z52 (1) (100) := ib_addb t54 b36 (by decide : Bd 1 (1) (1))
          have t54 : z52.toInt = x23_4.toInt + 1 := fold_add t54 rfl (by decide)
          refine lv_iinc (v := z52) (lv' := [(4, .int z52), (3, .int z50), (5, .int r37), (0, .ref (ad 102)), (1, .int a1), (2, .int a2)]) hx hb dX4_firstHour_79 hl (k := 2) rfl (by rw [e53]; rfl) (by decide) rfl (fun ls hl => ?_)
          refine lv_goto (tgt := 23) hx hb dX4_firstHour_82 (by decide) ?_
          exact ih23 _ _ _ z50 z52 (ib_wk b55 (by decide) (by decide)) (by omega) hQ (lv_sub hl [0, 1, 3, 4, 5] rfl)
        · have h56 := ib_ne k45
          have b57 : Bd r44 (1) (1) := rf_nlo b44 (by decide : Bd 0 (0) (0)) h56
          refine lv_iload hx hb dX4_firstHour_61 (lv_at hl 1 rfl) ?_
          refine lv_iconst (v := 1) hx hb dX4_firstHour_63 (by decide) ?_
          refine lv_iadd hx hb dX4_firstHour_64 ?_
          refine lv_topi (fun z58 e59 => ?_)
          have t60 := ib_add e59 b36 (by decide : Bd 1 (1) (1)) (by decide) (by decide)
          have b61 : Bd z58 (1) (100) := ib_addb t60 b36 (by decide : Bd 1 (1) (1))
          have t60 : z58.toInt = x23_4.toInt + 1 := fold_add t60 rfl (by decide)
          exact xri E hr hlk hQ (⟨rfl, (ib_wk b61 (by decide) (by decide))⟩) dX4_firstHour_65
  obtain ⟨n23, hn23⟩ := fu_n ((-1) * z29.toInt + 100)
  exact loop23 n23 _ _ _ z24 z29 (ib_wk b31 (by decide) (by decide)) (by omega) hQ (lv_sub hl [0, 1, 2, 3, 4] rfl)
set_option maxHeartbeats 4000000 in
set_option maxRecDepth 100000 in
theorem gX11_pushes_0 (l : Launch) (g : GG) (ad : Nat → Nat) (hD : Dj ad 122) (S : SS) (hI : InvX g ad S) (a1 : Int32) (a2 : Int32) (hq1 : 0 ≤ 1201 * fld (S 2) 1 + (-1) * fld (S 2) 0) (hq2 : 0 ≤ 8 * fld (S 2) 1 + (-1) * fld (S 2) 7) (hq3 : 0 ≤ 3 * fld (S 2) 1 + (-1) * fld (S 2) 12) : Met l yX11_pushes (wG (.code yX11_pushes cX11_pushes 3 (some .int))) (Rm 6) (XPre g ad 122 S [.ref (ad 0), .int a1, .int a2]) (va_Qi (fun _ S' => InvX g ad S' ∧ (∀ j, j ∉ ([102, 103] : List Nat) → S' j = S j)) (QB g ad 122) (FA ad 122)) 0 0 (FA ad 122) := by
  refine xmet cX11_pushes "EbbWreck" (by decide) rfl (Nat.le_of_ble_eq_true rfl) (fun p e s m below meth c E hr hlk hml hQ ls hl => ?_)
  have hx := E.1
  have hb := E.2.1
  have hs : Sp ad 122 (FA ad 122) := Sp.fa hD
  have hl : lv_has ls 3 [(0, .ref (ad 0)), (1, .int a1), (2, .int a2)] := hl
  obtain ⟨v1, v3, v5, v6, v7, v9, c11, b2, b4, b8, b10⟩ := invX_2 hI
  have c11 : S 2 = .inr (1, [.int v1, .int v3, .int v5, .ref (ad 3), .ref (ad 5), .ref (ad 6), .int v6, .int v7, .ref (ad 7), .ref (ad 8), .ref (ad 9), .ref (ad 10), .int v9, .ref (ad 15), .ref (ad 16)]) := c11
  have q12 : fld (S 2) 1 = v3.toInt := fld_of c11 rfl
  have q13 : fld (S 2) 0 = v1.toInt := fld_of c11 rfl
  have q14 : fld (S 2) 7 = v7.toInt := fld_of c11 rfl
  have q15 : fld (S 2) 12 = v9.toInt := fld_of c11 rfl
  refine lv_aload_n hx hb dX11_pushes_0 rfl (lv_at hl 0 rfl) ?_
  refine lv_iload_n hx hb dX11_pushes_1 rfl (lv_at hl 1 rfl) ?_
  refine lv_iload_n hx hb dX11_pushes_2 rfl (lv_at hl 2 rfl) ?_
  obtain ⟨v17, v19, v20, c21, b18⟩ := invX_0 hI
  have c21 : S 0 = .inr (11, [.ref (ad 1), .int v17, .int v19, .int v20, .ref (ad 2), .ref (ad 20), .ref (ad 38), .ref (ad 93), .ref (ad 94), .ref (ad 95), .ref (ad 102), .ref (ad 104), .ref (ad 107), .ref (ad 111), .ref (ad 119)]) := c21
  refine xcVi E hs hQ hml hl.1 0 (gX11_isWish_0 l g ad hD S hI a1 a2) mX11_isWish q1044 (by decide) c21 rfl rfl ⟨(Nat.le_of_ble_eq_true rfl), (Nat.le_of_ble_eq_true rfl)⟩ ⟨(Nat.le_of_ble_eq_true rfl), (Nat.le_of_ble_eq_true rfl)⟩ (Nat.le_of_ble_eq_true rfl) rfl dX11_pushes_3 (fun r16 S16 H locs hp16 hQ _ => ?_)
  obtain ⟨rfl, b16, g16_0⟩ := hp16
  refine lv_if_eq (tgt := 22) hx hb dX11_pushes_6 (by decide) (fun k22 => ?_) (fun k22 => ?_)
  · have h23 := ib_eq k22
    have b24 : Bd r16 (0) (0) := ⟨(b16).1, ((rf_eq b16 (by decide : Bd 0 (0) (0)) h23).1).2⟩
    clear g16_0
    refine lv_bipush (v := (-2)) hx hb dX11_pushes_22 (by decide) ?_
    exact xri E hr hlk hQ (⟨hI, o_refl⟩) dX11_pushes_24
  · have h25 := ib_ne k22
    have b26 : Bd r16 (1) (1) := rf_nlo b16 (by decide : Bd 0 (0) (0)) h25
    have g27 := g16_0.resolve_left (by omega)
    clear g16_0
    have b28 : Bd v1 (1) (1201) := ⟨by omega, by omega⟩
    have b29 : Bd a1 (0) (7) := ⟨by omega, by omega⟩
    have b30 : Bd v7 (1) (8) := ⟨by omega, by omega⟩
    refine lv_aload_n hx hb dX11_pushes_9 rfl (lv_at hl 0 rfl) ?_
    refine xget E hQ 0 (by decide) c21 rfl 10 (by decide) q526 rfl dX11_pushes_10 ?_
    refine lv_iload_n hx hb dX11_pushes_13 rfl (lv_at hl 1 rfl) ?_
    refine lv_iload_n hx hb dX11_pushes_14 rfl (lv_at hl 2 rfl) ?_
    refine lv_iconst (v := 0) hx hb dX11_pushes_15 (by decide) ?_
    obtain ⟨v32, v33, c35, b34⟩ := invX_102 hI
    have c35 : S 102 = .inr (4, [.ref (ad 2), .ref (ad 103), .int v32, .int v33]) := c35
    refine xcVi E hs hQ hml hl.1 102 (gX4_fewest_102 l g ad hD S hI a1 a2 0 b29 (ib_wk (by decide : Bd 0 (0) (0)) (by decide) (by decide)) (by omega)) mX4_fewest q1048 (by decide) c35 rfl rfl ⟨(Nat.le_of_ble_eq_true rfl), (Nat.le_of_ble_eq_true rfl)⟩ ⟨(Nat.le_of_ble_eq_true rfl), (Nat.le_of_ble_eq_true rfl)⟩ (Nat.le_of_ble_eq_true rfl) rfl dX11_pushes_16 (fun r31 S31 H locs hp31 hQ _ => ?_)
    obtain ⟨hI, o31⟩ := hp31
    refine lv_goto (tgt := 24) hx hb dX11_pushes_19 (by decide) ?_
    exact xri E hr hlk hQ (⟨hI, (o_trans o_refl o31 (by decide))⟩) dX11_pushes_24
set_option maxHeartbeats 4000000 in
set_option maxRecDepth 100000 in
theorem gX11_push_0 (l : Launch) (g : GG) (ad : Nat → Nat) (hD : Dj ad 122) (S : SS) (hI : InvX g ad S) (a1 : Int32) (a2 : Int32) (a3 : Int32) (hq1 : 0 ≤ 1201 * fld (S 2) 1 + (-1) * fld (S 2) 0) (hq2 : 0 ≤ 8 * fld (S 2) 1 + (-1) * fld (S 2) 7) (hq3 : 0 ≤ 3 * fld (S 2) 1 + (-1) * fld (S 2) 12) : Met l yX11_push (wG (.code yX11_push cX11_push 5 (some .int))) (Rm 6) (XPre g ad 122 S [.ref (ad 0), .int a1, .int a2, .int a3]) (va_Qi (fun r S' => InvX g ad S' ∧ (∀ j, j ∉ ([102, 103] : List Nat) → S' j = S j) ∧ Bd r (-2) (199)) (QB g ad 122) (FA ad 122)) 0 0 (FA ad 122) := by
  refine xmet cX11_push "EbbWreck" (by decide) rfl (Nat.le_of_ble_eq_true rfl) (fun p e s m below meth c E hr hlk hml hQ ls hl => ?_)
  have hx := E.1
  have hb := E.2.1
  have hs : Sp ad 122 (FA ad 122) := Sp.fa hD
  have hl : lv_has ls 5 [(0, .ref (ad 0)), (1, .int a1), (2, .int a2), (3, .int a3)] := hl
  obtain ⟨v1, v3, v5, v6, v7, v9, c11, b2, b4, b8, b10⟩ := invX_2 hI
  have c11 : S 2 = .inr (1, [.int v1, .int v3, .int v5, .ref (ad 3), .ref (ad 5), .ref (ad 6), .int v6, .int v7, .ref (ad 7), .ref (ad 8), .ref (ad 9), .ref (ad 10), .int v9, .ref (ad 15), .ref (ad 16)]) := c11
  have q12 : fld (S 2) 1 = v3.toInt := fld_of c11 rfl
  have q13 : fld (S 2) 0 = v1.toInt := fld_of c11 rfl
  have q14 : fld (S 2) 7 = v7.toInt := fld_of c11 rfl
  have q15 : fld (S 2) 12 = v9.toInt := fld_of c11 rfl
  refine lv_aload_n hx hb dX11_push_0 rfl (lv_at hl 0 rfl) ?_
  refine lv_iload_n hx hb dX11_push_1 rfl (lv_at hl 1 rfl) ?_
  refine lv_iload_n hx hb dX11_push_2 rfl (lv_at hl 2 rfl) ?_
  obtain ⟨v17, v19, v20, c21, b18⟩ := invX_0 hI
  have c21 : S 0 = .inr (11, [.ref (ad 1), .int v17, .int v19, .int v20, .ref (ad 2), .ref (ad 20), .ref (ad 38), .ref (ad 93), .ref (ad 94), .ref (ad 95), .ref (ad 102), .ref (ad 104), .ref (ad 107), .ref (ad 111), .ref (ad 119)]) := c21
  refine xcVi E hs hQ hml hl.1 0 (gX11_isWish_0 l g ad hD S hI a1 a2) mX11_isWish q1044 (by decide) c21 rfl rfl ⟨(Nat.le_of_ble_eq_true rfl), (Nat.le_of_ble_eq_true rfl)⟩ ⟨(Nat.le_of_ble_eq_true rfl), (Nat.le_of_ble_eq_true rfl)⟩ (Nat.le_of_ble_eq_true rfl) rfl dX11_push_3 (fun r16 S16 H locs hp16 hQ _ => ?_)
  obtain ⟨rfl, b16, g16_0⟩ := hp16
  refine lv_if_ne (tgt := 12) hx hb dX11_push_6 (by decide) (fun k22 => ?_) (fun k22 => ?_)
  · have h23 := ib_ne k22
    have b24 : Bd r16 (1) (1) := rf_nlo b16 (by decide : Bd 0 (0) (0)) h23
    have g25 := g16_0.resolve_left (by omega)
    clear g16_0
    have b26 : Bd v1 (1) (1201) := ⟨by omega, by omega⟩
    have b27 : Bd a1 (0) (7) := ⟨by omega, by omega⟩
    have b28 : Bd v7 (1) (8) := ⟨by omega, by omega⟩
    refine lv_aload_n hx hb dX11_push_12 rfl (lv_at hl 0 rfl) ?_
    refine xget E hQ 0 (by decide) c21 rfl 10 (by decide) q526 rfl dX11_push_13 ?_
    refine lv_iload_n hx hb dX11_push_16 rfl (lv_at hl 1 rfl) ?_
    refine lv_iload_n hx hb dX11_push_17 rfl (lv_at hl 2 rfl) ?_
    refine lv_iload_n hx hb dX11_push_18 rfl (lv_at hl 3 rfl) ?_
    obtain ⟨v30, v31, c33, b32⟩ := invX_102 hI
    have c33 : S 102 = .inr (4, [.ref (ad 2), .ref (ad 103), .int v30, .int v31]) := c33
    refine xcVi E hs hQ hml hl.1 102 (gX4_markOf_102 l g ad hD S hI a1 a2 a3 b27 (by omega)) mX4_markOf q1077 (by decide) c33 rfl rfl ⟨(Nat.le_of_ble_eq_true rfl), (Nat.le_of_ble_eq_true rfl)⟩ ⟨(Nat.le_of_ble_eq_true rfl), (Nat.le_of_ble_eq_true rfl)⟩ (Nat.le_of_ble_eq_true rfl) rfl dX11_push_19 (fun r29 S29 H locs hp29 hQ _ => ?_)
    obtain ⟨hI, o29, b29⟩ := hp29
    refine lv_istore (lv' := [(4, .int r29), (0, .ref (ad 0)), (1, .int a1), (2, .int a2), (3, .int a3)]) hx hb dX11_push_22 hl (by decide) rfl (fun ls hl => ?_)
    refine lv_iload hx hb dX11_push_24 (lv_at hl 0 rfl) ?_
    refine lv_iconst (v := (-1)) hx hb dX11_push_26 (by decide) ?_
    refine lv_icmp_ne (tgt := 34) hx hb dX11_push_27 (by decide) (fun k34 => ?_) (fun k34 => ?_)
    · have h35 := ib_ne k34
      have b36 : Bd r29 (0) (199) := rf_nlo b29 (by decide : Bd (-1) (-1) (-1)) h35
      refine lv_iload hx hb dX11_push_34 (lv_at hl 0 rfl) ?_
      refine lv_iconst (v := 2) hx hb dX11_push_36 (by decide) ?_
      refine lv_idiv hx hb dX11_push_37 (ib_ne0 (by decide : Bd 2 (2) (2)) (by decide)) ?_
      refine lv_topi (fun z37 e38 => ?_)
      have b39 : Bd z37 (0) (199) := ib_divp e38 b36 (by decide : Bd 2 (2) (2)) (by decide) (by decide)
      exact xri E hr hlk hQ (⟨hI, (o_trans o_refl o29 (by decide)), (ib_wk b39 (by decide) (by decide))⟩) dX11_push_38
    · have h40 := ib_eq k34
      have b41 : Bd r29 (-1) (-1) := ⟨(b29).1, ((rf_eq b29 (by decide : Bd (-1) (-1) (-1)) h40).1).2⟩
      refine lv_iconst (v := (-1)) hx hb dX11_push_30 (by decide) ?_
      refine lv_goto (tgt := 38) hx hb dX11_push_31 (by decide) ?_
      exact xri E hr hlk hQ (⟨hI, (o_trans o_refl o29 (by decide)), (ib_wk (by decide : Bd (-1) (-1) (-1)) (by decide) (by decide))⟩) dX11_push_38
  · have h42 := ib_eq k22
    have b43 : Bd r16 (0) (0) := ⟨(b16).1, ((rf_eq b16 (by decide : Bd 0 (0) (0)) h42).1).2⟩
    clear g16_0
    refine lv_bipush (v := (-2)) hx hb dX11_push_9 (by decide) ?_
    exact xri E hr hlk hQ (⟨hI, o_refl, (ib_wk (by decide : Bd (-2) (-2) (-2)) (by decide) (by decide))⟩) dX11_push_11
set_option maxHeartbeats 4000000 in
set_option maxRecDepth 100000 in
theorem gX11_way_0 (l : Launch) (g : GG) (ad : Nat → Nat) (hD : Dj ad 122) (S : SS) (hI : InvX g ad S) (a1 : Int32) (a2 : Int32) (a3 : Int32) (hq1 : 0 ≤ 1201 * fld (S 2) 1 + (-1) * fld (S 2) 0) (hq2 : 0 ≤ 8 * fld (S 2) 1 + (-1) * fld (S 2) 7) (hq3 : 0 ≤ 3 * fld (S 2) 1 + (-1) * fld (S 2) 12) : Met l yX11_way (wG (.code yX11_way cX11_way 5 (some .int))) (Rm 6) (XPre g ad 122 S [.ref (ad 0), .int a1, .int a2, .int a3]) (va_Qi (fun r S' => InvX g ad S' ∧ (∀ j, j ∉ ([102, 103] : List Nat) → S' j = S j) ∧ Bd r (-2) (1)) (QB g ad 122) (FA ad 122)) 0 0 (FA ad 122) := by
  refine xmet cX11_way "EbbWreck" (by decide) rfl (Nat.le_of_ble_eq_true rfl) (fun p e s m below meth c E hr hlk hml hQ ls hl => ?_)
  have hx := E.1
  have hb := E.2.1
  have hs : Sp ad 122 (FA ad 122) := Sp.fa hD
  have hl : lv_has ls 5 [(0, .ref (ad 0)), (1, .int a1), (2, .int a2), (3, .int a3)] := hl
  obtain ⟨v1, v3, v5, v6, v7, v9, c11, b2, b4, b8, b10⟩ := invX_2 hI
  have c11 : S 2 = .inr (1, [.int v1, .int v3, .int v5, .ref (ad 3), .ref (ad 5), .ref (ad 6), .int v6, .int v7, .ref (ad 7), .ref (ad 8), .ref (ad 9), .ref (ad 10), .int v9, .ref (ad 15), .ref (ad 16)]) := c11
  have q12 : fld (S 2) 1 = v3.toInt := fld_of c11 rfl
  have q13 : fld (S 2) 0 = v1.toInt := fld_of c11 rfl
  have q14 : fld (S 2) 7 = v7.toInt := fld_of c11 rfl
  have q15 : fld (S 2) 12 = v9.toInt := fld_of c11 rfl
  refine lv_aload_n hx hb dX11_way_0 rfl (lv_at hl 0 rfl) ?_
  refine lv_iload_n hx hb dX11_way_1 rfl (lv_at hl 1 rfl) ?_
  refine lv_iload_n hx hb dX11_way_2 rfl (lv_at hl 2 rfl) ?_
  obtain ⟨v17, v19, v20, c21, b18⟩ := invX_0 hI
  have c21 : S 0 = .inr (11, [.ref (ad 1), .int v17, .int v19, .int v20, .ref (ad 2), .ref (ad 20), .ref (ad 38), .ref (ad 93), .ref (ad 94), .ref (ad 95), .ref (ad 102), .ref (ad 104), .ref (ad 107), .ref (ad 111), .ref (ad 119)]) := c21
  refine xcVi E hs hQ hml hl.1 0 (gX11_isWish_0 l g ad hD S hI a1 a2) mX11_isWish q1044 (by decide) c21 rfl rfl ⟨(Nat.le_of_ble_eq_true rfl), (Nat.le_of_ble_eq_true rfl)⟩ ⟨(Nat.le_of_ble_eq_true rfl), (Nat.le_of_ble_eq_true rfl)⟩ (Nat.le_of_ble_eq_true rfl) rfl dX11_way_3 (fun r16 S16 H locs hp16 hQ _ => ?_)
  obtain ⟨rfl, b16, g16_0⟩ := hp16
  refine lv_if_ne (tgt := 12) hx hb dX11_way_6 (by decide) (fun k22 => ?_) (fun k22 => ?_)
  · have h23 := ib_ne k22
    have b24 : Bd r16 (1) (1) := rf_nlo b16 (by decide : Bd 0 (0) (0)) h23
    have g25 := g16_0.resolve_left (by omega)
    clear g16_0
    have b26 : Bd v1 (1) (1201) := ⟨by omega, by omega⟩
    have b27 : Bd a1 (0) (7) := ⟨by omega, by omega⟩
    have b28 : Bd v7 (1) (8) := ⟨by omega, by omega⟩
    refine lv_aload_n hx hb dX11_way_12 rfl (lv_at hl 0 rfl) ?_
    refine xget E hQ 0 (by decide) c21 rfl 10 (by decide) q526 rfl dX11_way_13 ?_
    refine lv_iload_n hx hb dX11_way_16 rfl (lv_at hl 1 rfl) ?_
    refine lv_iload_n hx hb dX11_way_17 rfl (lv_at hl 2 rfl) ?_
    refine lv_iload_n hx hb dX11_way_18 rfl (lv_at hl 3 rfl) ?_
    obtain ⟨v30, v31, c33, b32⟩ := invX_102 hI
    have c33 : S 102 = .inr (4, [.ref (ad 2), .ref (ad 103), .int v30, .int v31]) := c33
    refine xcVi E hs hQ hml hl.1 102 (gX4_markOf_102 l g ad hD S hI a1 a2 a3 b27 (by omega)) mX4_markOf q1077 (by decide) c33 rfl rfl ⟨(Nat.le_of_ble_eq_true rfl), (Nat.le_of_ble_eq_true rfl)⟩ ⟨(Nat.le_of_ble_eq_true rfl), (Nat.le_of_ble_eq_true rfl)⟩ (Nat.le_of_ble_eq_true rfl) rfl dX11_way_19 (fun r29 S29 H locs hp29 hQ _ => ?_)
    obtain ⟨hI, o29, b29⟩ := hp29
    refine lv_istore (lv' := [(4, .int r29), (0, .ref (ad 0)), (1, .int a1), (2, .int a2), (3, .int a3)]) hx hb dX11_way_22 hl (by decide) rfl (fun ls hl => ?_)
    refine lv_iload hx hb dX11_way_24 (lv_at hl 0 rfl) ?_
    refine lv_iconst (v := (-1)) hx hb dX11_way_26 (by decide) ?_
    refine lv_icmp_ne (tgt := 34) hx hb dX11_way_27 (by decide) (fun k34 => ?_) (fun k34 => ?_)
    · have h35 := ib_ne k34
      have b36 : Bd r29 (0) (199) := rf_nlo b29 (by decide : Bd (-1) (-1) (-1)) h35
      refine lv_iload hx hb dX11_way_34 (lv_at hl 0 rfl) ?_
      refine lv_iconst (v := 2) hx hb dX11_way_36 (by decide) ?_
      refine lv_irem hx hb dX11_way_37 (ib_ne0 (by decide : Bd 2 (2) (2)) (by decide)) ?_
      refine lv_topi (fun z37 e38 => ?_)
      have b40 : Bd z37 (0) (1) := ib_remp e38 b36 (by decide : Bd 2 (2) (2)) (by decide) (by decide)
      exact xri E hr hlk hQ (⟨hI, (o_trans o_refl o29 (by decide)), (ib_wk b40 (by decide) (by decide))⟩) dX11_way_38
    · have h41 := ib_eq k34
      have b42 : Bd r29 (-1) (-1) := ⟨(b29).1, ((rf_eq b29 (by decide : Bd (-1) (-1) (-1)) h41).1).2⟩
      refine lv_iconst (v := (-1)) hx hb dX11_way_30 (by decide) ?_
      refine lv_goto (tgt := 38) hx hb dX11_way_31 (by decide) ?_
      exact xri E hr hlk hQ (⟨hI, (o_trans o_refl o29 (by decide)), (ib_wk (by decide : Bd (-1) (-1) (-1)) (by decide) (by decide))⟩) dX11_way_38
  · have h43 := ib_eq k22
    have b44 : Bd r16 (0) (0) := ⟨(b16).1, ((rf_eq b16 (by decide : Bd 0 (0) (0)) h43).1).2⟩
    clear g16_0
    refine lv_bipush (v := (-2)) hx hb dX11_way_9 (by decide) ?_
    exact xri E hr hlk hQ (⟨hI, o_refl, (ib_wk (by decide : Bd (-2) (-2) (-2)) (by decide) (by decide))⟩) dX11_way_11
set_option maxHeartbeats 4000000 in
set_option maxRecDepth 100000 in
theorem gX11_soonest_0 (l : Launch) (g : GG) (ad : Nat → Nat) (hD : Dj ad 122) (S : SS) (hI : InvX g ad S) (a1 : Int32) (a2 : Int32) (hq1 : 0 ≤ 1201 * fld (S 2) 1 + (-1) * fld (S 2) 0) (hq2 : 0 ≤ 8 * fld (S 2) 1 + (-1) * fld (S 2) 7) (hq3 : 0 ≤ 3 * fld (S 2) 1 + (-1) * fld (S 2) 12) : Met l yX11_soonest (wG (.code yX11_soonest cX11_soonest 3 (some .int))) (Rm 5) (XPre g ad 122 S [.ref (ad 0), .int a1, .int a2]) (va_Qi (fun r S' => S = S' ∧ Bd r (-2) (100)) (QB g ad 122) (FA ad 122)) 0 0 (FA ad 122) := by
  refine xmet cX11_soonest "EbbWreck" (by decide) rfl (Nat.le_of_ble_eq_true rfl) (fun p e s m below meth c E hr hlk hml hQ ls hl => ?_)
  have hx := E.1
  have hb := E.2.1
  have hs : Sp ad 122 (FA ad 122) := Sp.fa hD
  have hl : lv_has ls 3 [(0, .ref (ad 0)), (1, .int a1), (2, .int a2)] := hl
  obtain ⟨v1, v3, v5, v6, v7, v9, c11, b2, b4, b8, b10⟩ := invX_2 hI
  have c11 : S 2 = .inr (1, [.int v1, .int v3, .int v5, .ref (ad 3), .ref (ad 5), .ref (ad 6), .int v6, .int v7, .ref (ad 7), .ref (ad 8), .ref (ad 9), .ref (ad 10), .int v9, .ref (ad 15), .ref (ad 16)]) := c11
  have q12 : fld (S 2) 1 = v3.toInt := fld_of c11 rfl
  have q13 : fld (S 2) 0 = v1.toInt := fld_of c11 rfl
  have q14 : fld (S 2) 7 = v7.toInt := fld_of c11 rfl
  have q15 : fld (S 2) 12 = v9.toInt := fld_of c11 rfl
  refine lv_aload_n hx hb dX11_soonest_0 rfl (lv_at hl 0 rfl) ?_
  refine lv_iload_n hx hb dX11_soonest_1 rfl (lv_at hl 1 rfl) ?_
  refine lv_iload_n hx hb dX11_soonest_2 rfl (lv_at hl 2 rfl) ?_
  obtain ⟨v17, v19, v20, c21, b18⟩ := invX_0 hI
  have c21 : S 0 = .inr (11, [.ref (ad 1), .int v17, .int v19, .int v20, .ref (ad 2), .ref (ad 20), .ref (ad 38), .ref (ad 93), .ref (ad 94), .ref (ad 95), .ref (ad 102), .ref (ad 104), .ref (ad 107), .ref (ad 111), .ref (ad 119)]) := c21
  refine xcVi E hs hQ hml hl.1 0 (gX11_isWish_0 l g ad hD S hI a1 a2) mX11_isWish q1044 (by decide) c21 rfl rfl ⟨(Nat.le_of_ble_eq_true rfl), (Nat.le_of_ble_eq_true rfl)⟩ ⟨(Nat.le_of_ble_eq_true rfl), (Nat.le_of_ble_eq_true rfl)⟩ (Nat.le_of_ble_eq_true rfl) rfl dX11_soonest_3 (fun r16 S16 H locs hp16 hQ _ => ?_)
  obtain ⟨rfl, b16, g16_0⟩ := hp16
  refine lv_if_eq (tgt := 21) hx hb dX11_soonest_6 (by decide) (fun k22 => ?_) (fun k22 => ?_)
  · have h23 := ib_eq k22
    have b24 : Bd r16 (0) (0) := ⟨(b16).1, ((rf_eq b16 (by decide : Bd 0 (0) (0)) h23).1).2⟩
    clear g16_0
    refine lv_bipush (v := (-2)) hx hb dX11_soonest_21 (by decide) ?_
    exact xri E hr hlk hQ (⟨rfl, (ib_wk (by decide : Bd (-2) (-2) (-2)) (by decide) (by decide))⟩) dX11_soonest_23
  · have h25 := ib_ne k22
    have b26 : Bd r16 (1) (1) := rf_nlo b16 (by decide : Bd 0 (0) (0)) h25
    have g27 := g16_0.resolve_left (by omega)
    clear g16_0
    have b28 : Bd v1 (1) (1201) := ⟨by omega, by omega⟩
    have b29 : Bd a1 (0) (7) := ⟨by omega, by omega⟩
    have b30 : Bd v7 (1) (8) := ⟨by omega, by omega⟩
    refine lv_aload_n hx hb dX11_soonest_9 rfl (lv_at hl 0 rfl) ?_
    refine xget E hQ 0 (by decide) c21 rfl 10 (by decide) q526 rfl dX11_soonest_10 ?_
    refine lv_iload_n hx hb dX11_soonest_13 rfl (lv_at hl 1 rfl) ?_
    refine lv_iload_n hx hb dX11_soonest_14 rfl (lv_at hl 2 rfl) ?_
    obtain ⟨v32, v33, c35, b34⟩ := invX_102 hI
    have c35 : S 102 = .inr (4, [.ref (ad 2), .ref (ad 103), .int v32, .int v33]) := c35
    refine xcVi E hs hQ hml hl.1 102 (gX4_firstHour_102 l g ad hD S hI a1 a2 b29 (by omega)) mX4_firstHour q1093 (by decide) c35 rfl rfl ⟨(Nat.le_of_ble_eq_true rfl), (Nat.le_of_ble_eq_true rfl)⟩ ⟨(Nat.le_of_ble_eq_true rfl), (Nat.le_of_ble_eq_true rfl)⟩ (Nat.le_of_ble_eq_true rfl) rfl dX11_soonest_15 (fun r31 S31 H locs hp31 hQ _ => ?_)
    obtain ⟨rfl, b31⟩ := hp31
    refine lv_goto (tgt := 23) hx hb dX11_soonest_18 (by decide) ?_
    exact xri E hr hlk hQ (⟨rfl, (ib_wk b31 (by decide) (by decide))⟩) dX11_soonest_23
set_option maxHeartbeats 4000000 in
set_option maxRecDepth 100000 in
theorem gX11_ward_0 (l : Launch) (g : GG) (ad : Nat → Nat) (hD : Dj ad 122) (S : SS) (hI : InvX g ad S) (a1 : Int32) (a2 : Int32) (hq1 : 0 ≤ 1201 * fld (S 2) 1 + (-1) * fld (S 2) 0) (hq2 : 0 ≤ 8 * fld (S 2) 1 + (-1) * fld (S 2) 7) (hq3 : 0 ≤ 3 * fld (S 2) 1 + (-1) * fld (S 2) 12) : Met l yX11_ward (wG (.code yX11_ward cX11_ward 3 (some .int))) (Rm 6) (XPre g ad 122 S [.ref (ad 0), .int a1, .int a2]) (va_Qi (fun _ S' => InvX g ad S' ∧ (∀ j, j ∉ ([102, 103] : List Nat) → S' j = S j)) (QB g ad 122) (FA ad 122)) 0 0 (FA ad 122) := by
  refine xmet cX11_ward "EbbWreck" (by decide) rfl (Nat.le_of_ble_eq_true rfl) (fun p e s m below meth c E hr hlk hml hQ ls hl => ?_)
  have hx := E.1
  have hb := E.2.1
  have hs : Sp ad 122 (FA ad 122) := Sp.fa hD
  have hl : lv_has ls 3 [(0, .ref (ad 0)), (1, .int a1), (2, .int a2)] := hl
  obtain ⟨v1, v3, v5, v6, v7, v9, c11, b2, b4, b8, b10⟩ := invX_2 hI
  have c11 : S 2 = .inr (1, [.int v1, .int v3, .int v5, .ref (ad 3), .ref (ad 5), .ref (ad 6), .int v6, .int v7, .ref (ad 7), .ref (ad 8), .ref (ad 9), .ref (ad 10), .int v9, .ref (ad 15), .ref (ad 16)]) := c11
  have q12 : fld (S 2) 1 = v3.toInt := fld_of c11 rfl
  have q13 : fld (S 2) 0 = v1.toInt := fld_of c11 rfl
  have q14 : fld (S 2) 7 = v7.toInt := fld_of c11 rfl
  have q15 : fld (S 2) 12 = v9.toInt := fld_of c11 rfl
  refine lv_aload_n hx hb dX11_ward_0 rfl (lv_at hl 0 rfl) ?_
  refine lv_iload_n hx hb dX11_ward_1 rfl (lv_at hl 1 rfl) ?_
  refine lv_iload_n hx hb dX11_ward_2 rfl (lv_at hl 2 rfl) ?_
  obtain ⟨v17, v19, v20, c21, b18⟩ := invX_0 hI
  have c21 : S 0 = .inr (11, [.ref (ad 1), .int v17, .int v19, .int v20, .ref (ad 2), .ref (ad 20), .ref (ad 38), .ref (ad 93), .ref (ad 94), .ref (ad 95), .ref (ad 102), .ref (ad 104), .ref (ad 107), .ref (ad 111), .ref (ad 119)]) := c21
  refine xcVi E hs hQ hml hl.1 0 (gX11_isWish_0 l g ad hD S hI a1 a2) mX11_isWish q1044 (by decide) c21 rfl rfl ⟨(Nat.le_of_ble_eq_true rfl), (Nat.le_of_ble_eq_true rfl)⟩ ⟨(Nat.le_of_ble_eq_true rfl), (Nat.le_of_ble_eq_true rfl)⟩ (Nat.le_of_ble_eq_true rfl) rfl dX11_ward_3 (fun r16 S16 H locs hp16 hQ _ => ?_)
  obtain ⟨rfl, b16, g16_0⟩ := hp16
  refine lv_if_eq (tgt := 22) hx hb dX11_ward_6 (by decide) (fun k22 => ?_) (fun k22 => ?_)
  · have h23 := ib_eq k22
    have b24 : Bd r16 (0) (0) := ⟨(b16).1, ((rf_eq b16 (by decide : Bd 0 (0) (0)) h23).1).2⟩
    clear g16_0
    refine lv_bipush (v := (-2)) hx hb dX11_ward_22 (by decide) ?_
    exact xri E hr hlk hQ (⟨hI, o_refl⟩) dX11_ward_24
  · have h25 := ib_ne k22
    have b26 : Bd r16 (1) (1) := rf_nlo b16 (by decide : Bd 0 (0) (0)) h25
    have g27 := g16_0.resolve_left (by omega)
    clear g16_0
    have b28 : Bd v1 (1) (1201) := ⟨by omega, by omega⟩
    have b29 : Bd a1 (0) (7) := ⟨by omega, by omega⟩
    have b30 : Bd v7 (1) (8) := ⟨by omega, by omega⟩
    refine lv_aload_n hx hb dX11_ward_9 rfl (lv_at hl 0 rfl) ?_
    refine xget E hQ 0 (by decide) c21 rfl 10 (by decide) q526 rfl dX11_ward_10 ?_
    refine lv_iload_n hx hb dX11_ward_13 rfl (lv_at hl 1 rfl) ?_
    refine lv_iload_n hx hb dX11_ward_14 rfl (lv_at hl 2 rfl) ?_
    refine lv_iconst (v := 1) hx hb dX11_ward_15 (by decide) ?_
    obtain ⟨v32, v33, c35, b34⟩ := invX_102 hI
    have c35 : S 102 = .inr (4, [.ref (ad 2), .ref (ad 103), .int v32, .int v33]) := c35
    refine xcVi E hs hQ hml hl.1 102 (gX4_fewest_102 l g ad hD S hI a1 a2 1 b29 (ib_wk (by decide : Bd 1 (1) (1)) (by decide) (by decide)) (by omega)) mX4_fewest q1048 (by decide) c35 rfl rfl ⟨(Nat.le_of_ble_eq_true rfl), (Nat.le_of_ble_eq_true rfl)⟩ ⟨(Nat.le_of_ble_eq_true rfl), (Nat.le_of_ble_eq_true rfl)⟩ (Nat.le_of_ble_eq_true rfl) rfl dX11_ward_16 (fun r31 S31 H locs hp31 hQ _ => ?_)
    obtain ⟨hI, o31⟩ := hp31
    refine lv_goto (tgt := 24) hx hb dX11_ward_19 (by decide) ?_
    exact xri E hr hlk hQ (⟨hI, (o_trans o_refl o31 (by decide))⟩) dX11_ward_24
set_option maxHeartbeats 4000000 in
set_option maxRecDepth 100000 in
theorem gX11_all_0 (l : Launch) (g : GG) (ad : Nat → Nat) (hD : Dj ad 122) (S : SS) (hI : InvX g ad S) (a1 : Int32) (hq1 : 0 ≤ 1201 * fld (S 2) 1 + (-1) * fld (S 2) 0) (hq2 : 0 ≤ 8 * fld (S 2) 1 + (-1) * fld (S 2) 7) (hq3 : 0 ≤ 3 * fld (S 2) 1 + (-1) * fld (S 2) 12) : Met l yX11_all (wG (.code yX11_all cX11_all 2 (some .int))) (Rm 6) (XPre g ad 122 S [.ref (ad 0), .int a1]) (va_Qi (fun _ S' => InvX g ad S' ∧ (∀ j, j ∉ ([102, 103] : List Nat) → S' j = S j)) (QB g ad 122) (FA ad 122)) 0 0 (FA ad 122) := by
  refine xmet cX11_all "EbbWreck" (by decide) rfl (Nat.le_of_ble_eq_true rfl) (fun p e s m below meth c E hr hlk hml hQ ls hl => ?_)
  have hx := E.1
  have hb := E.2.1
  have hs : Sp ad 122 (FA ad 122) := Sp.fa hD
  have hl : lv_has ls 2 [(0, .ref (ad 0)), (1, .int a1)] := hl
  obtain ⟨v1, v3, v5, v6, v7, v9, c11, b2, b4, b8, b10⟩ := invX_2 hI
  have c11 : S 2 = .inr (1, [.int v1, .int v3, .int v5, .ref (ad 3), .ref (ad 5), .ref (ad 6), .int v6, .int v7, .ref (ad 7), .ref (ad 8), .ref (ad 9), .ref (ad 10), .int v9, .ref (ad 15), .ref (ad 16)]) := c11
  have q12 : fld (S 2) 1 = v3.toInt := fld_of c11 rfl
  have q13 : fld (S 2) 0 = v1.toInt := fld_of c11 rfl
  have q14 : fld (S 2) 7 = v7.toInt := fld_of c11 rfl
  have q15 : fld (S 2) 12 = v9.toInt := fld_of c11 rfl
  refine lv_aload_n hx hb dX11_all_0 rfl (lv_at hl 0 rfl) ?_
  refine lv_iload_n hx hb dX11_all_1 rfl (lv_at hl 1 rfl) ?_
  obtain ⟨v17, v19, v20, c21, b18⟩ := invX_0 hI
  have c21 : S 0 = .inr (11, [.ref (ad 1), .int v17, .int v19, .int v20, .ref (ad 2), .ref (ad 20), .ref (ad 38), .ref (ad 93), .ref (ad 94), .ref (ad 95), .ref (ad 102), .ref (ad 104), .ref (ad 107), .ref (ad 111), .ref (ad 119)]) := c21
  refine xcVi E hs hQ hml hl.1 0 (gX11_isAskedParty_0 l g ad hD S hI a1) mX11_isAskedParty q963 (by decide) c21 rfl rfl ⟨(Nat.le_of_ble_eq_true rfl), (Nat.le_of_ble_eq_true rfl)⟩ ⟨(Nat.le_of_ble_eq_true rfl), (Nat.le_of_ble_eq_true rfl)⟩ (Nat.le_of_ble_eq_true rfl) rfl dX11_all_2 (fun r16 S16 H locs hp16 hQ _ => ?_)
  obtain ⟨rfl, b16, g16_0⟩ := hp16
  refine lv_if_eq (tgt := 19) hx hb dX11_all_5 (by decide) (fun k22 => ?_) (fun k22 => ?_)
  · have h23 := ib_eq k22
    have b24 : Bd r16 (0) (0) := ⟨(b16).1, ((rf_eq b16 (by decide : Bd 0 (0) (0)) h23).1).2⟩
    clear g16_0
    refine lv_bipush (v := (-2)) hx hb dX11_all_19 (by decide) ?_
    exact xri E hr hlk hQ (⟨hI, o_refl⟩) dX11_all_21
  · have h25 := ib_ne k22
    have b26 : Bd r16 (1) (1) := rf_nlo b16 (by decide : Bd 0 (0) (0)) h25
    have g27 := g16_0.resolve_left (by omega)
    clear g16_0
    have b28 : Bd v1 (1) (1201) := ⟨by omega, by omega⟩
    refine lv_aload_n hx hb dX11_all_8 rfl (lv_at hl 0 rfl) ?_
    refine xget E hQ 0 (by decide) c21 rfl 10 (by decide) q526 rfl dX11_all_9 ?_
    refine lv_iload_n hx hb dX11_all_12 rfl (lv_at hl 1 rfl) ?_
    obtain ⟨v30, v31, c33, b32⟩ := invX_102 hI
    have c33 : S 102 = .inr (4, [.ref (ad 2), .ref (ad 103), .int v30, .int v31]) := c33
    refine xcVi E hs hQ hml hl.1 102 (gX4_fewestOfAll_102 l g ad hD S hI a1 (by omega)) mX4_fewestOfAll q1113 (by decide) c33 rfl rfl ⟨(Nat.le_of_ble_eq_true rfl), (Nat.le_of_ble_eq_true rfl)⟩ ⟨(Nat.le_of_ble_eq_true rfl), (Nat.le_of_ble_eq_true rfl)⟩ (Nat.le_of_ble_eq_true rfl) rfl dX11_all_13 (fun r29 S29 H locs hp29 hQ _ => ?_)
    obtain ⟨hI, o29⟩ := hp29
    refine lv_goto (tgt := 21) hx hb dX11_all_16 (by decide) ?_
    exact xri E hr hlk hQ (⟨hI, (o_trans o_refl o29 (by decide))⟩) dX11_all_21
set_option maxHeartbeats 4000000 in
set_option maxRecDepth 100000 in
theorem gX2_layWays_95 (l : Launch) (g : GG) (ad : Nat → Nat) (hD : Dj ad 122) (S : SS) (hI : InvX g ad S) (a1 : Int32) : Met l yX2_layWays (wG (.code yX2_layWays cX2_layWays 3 none)) (Rm 1) (XPre g ad 122 S [.ref (ad 95), .int a1]) (va_Qv (fun S' => InvX g ad S' ∧ (∀ j, j ∉ ([98] : List Nat) → S' j = S j)) (QB g ad 122) (FA ad 122)) 0 0 (FA ad 122) := by
  refine xmet cX2_layWays "EbbWreck$Drift" (by decide) rfl (Nat.le_of_ble_eq_true rfl) (fun p e s m below meth c E hr hlk hml hQ ls hl => ?_)
  have hx := E.1
  have hb := E.2.1
  have hs : Sp ad 122 (FA ad 122) := Sp.fa hD
  have hl : lv_has ls 3 [(0, .ref (ad 95)), (1, .int a1)] := hl
  refine lv_aload_n hx hb dX2_layWays_0 rfl (lv_at hl 0 rfl) ?_
  obtain ⟨v1, v2, c4, b3⟩ := invX_95 hI
  have c4 : S 95 = .inr (2, [.ref (ad 2), .ref (ad 96), .ref (ad 97), .ref (ad 98), .ref (ad 99), .ref (ad 100), .ref (ad 101), .int v1, .int v2]) := c4
  refine xget E hQ 95 (by decide) c4 rfl 3 (by decide) q384 rfl dX2_layWays_1 ?_
  refine lv_iconst (v := 0) hx hb dX2_layWays_4 (by decide) ?_
  obtain ⟨f5, c6, b7⟩ := invX_98 hI
  refine xcSv E hs hQ hml hl.1 (uFillB l g ad 122 hD S 98 (by decide) 401 (by decide) f5 0 c6) mJ7_fill_031fb q778 rfl ⟨(Nat.le_of_ble_eq_true rfl), (Nat.le_of_ble_eq_true rfl)⟩ ⟨(Nat.le_of_ble_eq_true rfl), (Nat.le_of_ble_eq_true rfl)⟩ (Nat.le_of_ble_eq_true rfl) rfl dX2_layWays_5 (fun S8 H locs eS8 hQ => ?_)
  have hI := invX_up_98 hI eS8 ⟨_, rfl, fill_b b7 (nar_b _)⟩
  have b10 : ∀ j, Bd ((fillF (vp_nar .byte 0) 401 f5) j) (-128) (127) := fill_b b7 (nar_b _)
  have c9 : S8 98 = .inl (g.2 1, 401, .inl (fillF (vp_nar .byte 0) 401 f5)) := up_at eS8 rfl
  refine lv_iconst (v := 0) hx hb dX2_layWays_8 (by decide) ?_
  refine lv_istore_n (lv' := [(2, .int 0), (0, .ref (ad 95)), (1, .int a1)]) hx hb dX2_layWays_9 rfl hl (by decide) rfl (fun ls hl => ?_)
  have loop10 : ∀ (n : Nat) (S_10 : SS) (H : Heap) (locs : List Loc) (ls : Array Slot) (x10_2 : Int32), Bd x10_2 (0) (40) → (-1) * x10_2.toInt + 40 < ((n : Nat) : Int) → InvX g ad S_10 → (∀ j, j ∉ ([98] : List Nat) → S_10 j = S8 j) → Hp g ad 122 S_10 (FA ad 122) s.heap H locs → lv_has ls 3 [(2, .int x10_2), (0, .ref (ad 95)), (1, .int a1)] → W p l e (Rm 1) s m [.ref (ad 95), .int a1].toArray below meth c H locs 0 0 (MQ below (va_Qv (fun S' => InvX g ad S' ∧ (∀ j, j ∉ ([98] : List Nat) → S' j = S j)) (QB g ad 122) (FA ad 122)) [.ref (ad 95), .int a1].toArray s 0 0 (FA ad 122)) (F0 m 10 ls []) := by
    intro n
    induction n with
    | zero => intro S_10 H locs ls x10_2 Bx10_2 hn10_ hI hf10 hQ hl; exfalso; have := (Bx10_2).2; omega
    | succ n10_ ih10 =>
      intro S_10 H locs ls x10_2 Bx10_2 hn10_ hI hf10 hQ hl
      refine lv_iload_n hx hb dX2_layWays_10 rfl (lv_at hl 0 rfl) ?_
      refine lv_aload_n hx hb dX2_layWays_11 rfl (lv_at hl 1 rfl) ?_
      have c11 : S_10 95 = .inr (2, [.ref (ad 2), .ref (ad 96), .ref (ad 97), .ref (ad 98), .ref (ad 99), .ref (ad 100), .ref (ad 101), .int v1, .int v2]) := ((hf10 95 (by decide)).trans (up_ne eS8 (by decide) c4))
      refine xget E hQ 95 (by decide) c11 rfl 0 (by decide) q379 rfl dX2_layWays_12 ?_
      obtain ⟨v12, v14, v16, v17, v18, v20, c22, b13, b15, b19, b21⟩ := invX_2 hI
      have c22 : S_10 2 = .inr (1, [.int v12, .int v14, .int v16, .ref (ad 3), .ref (ad 5), .ref (ad 6), .int v17, .int v18, .ref (ad 7), .ref (ad 8), .ref (ad 9), .ref (ad 10), .int v20, .ref (ad 15), .ref (ad 16)]) := c22
      refine xget E hQ 2 (by decide) c22 rfl 14 (by decide) q302 rfl dX2_layWays_15 ?_
      obtain ⟨v23, c25, b24⟩ := invX_16 hI
      have c25 : S_10 16 = .inr (0, [.int v23, .ref (ad 17), .ref (ad 18), .ref (ad 19)]) := c25
      refine xget E hQ 16 (by decide) c25 rfl 0 (by decide) q217 rfl dX2_layWays_18 ?_
      refine lv_icmp_ge (tgt := 75) hx hb dX2_layWays_21 (by decide) (fun k26 => ?_) (fun k26 => ?_)
      · have h27 := ib_le k26
        exact xrv E hr hlk hQ (⟨hI, (o_trans (up_o o_refl eS8 (by decide)) hf10 (by decide))⟩) dX2_layWays_75
      · have h28 := ib_nle k26
        have b29 : Bd x10_2 (0) (39) := ⟨(Bx10_2).1, ((rf_lt Bx10_2 b24 h28).1).2⟩
        have b30 : Bd v23 (1) (40) := ⟨((rf_lt Bx10_2 b24 h28).2).1, (b24).2⟩
        refine lv_aload_n hx hb dX2_layWays_24 rfl (lv_at hl 1 rfl) ?_
        refine xget E hQ 95 (by decide) c11 rfl 0 (by decide) q379 rfl dX2_layWays_25 ?_
        refine xget E hQ 2 (by decide) c22 rfl 14 (by decide) q302 rfl dX2_layWays_28 ?_
        refine lv_iload_n hx hb dX2_layWays_31 rfl (lv_at hl 0 rfl) ?_
        refine lv_iload_n hx hb dX2_layWays_32 rfl (lv_at hl 2 rfl) ?_
        refine xcVi E hs hQ hml hl.1 16 (gX0_isPushOf_16 l g ad hD S_10 hI x10_2 a1 b29) mX0_isPushOf q781 (by decide) c25 rfl rfl ⟨(Nat.le_of_ble_eq_true rfl), (Nat.le_of_ble_eq_true rfl)⟩ ⟨(Nat.le_of_ble_eq_true rfl), (Nat.le_of_ble_eq_true rfl)⟩ (Nat.le_of_ble_eq_true rfl) rfl dX2_layWays_33 (fun r31 S31 H locs hp31 hQ _ => ?_)
        obtain ⟨rfl, b31⟩ := hp31
        refine lv_if_eq (tgt := 69) hx hb dX2_layWays_36 (by decide) (fun k32 => ?_) (fun k32 => ?_)
        · have h33 := ib_eq k32
          have b34 : Bd r31 (0) (0) := ⟨(b31).1, ((rf_eq b31 (by decide : Bd 0 (0) (0)) h33).1).2⟩
          obtain ⟨z35, e36⟩ : ∃ z : Int32, z = x10_2 + 1 := ⟨_, rfl⟩
          have t37 := ib_add e36 b29 (by decide : Bd 1 (1) (1)) (by decide) (by decide)
          have b38 : Bd z35 (1) (40) := ib_addb t37 b29 (by decide : Bd 1 (1) (1))
          have t37 : z35.toInt = x10_2.toInt + 1 := fold_add t37 rfl (by decide)
          refine lv_iinc (v := z35) (lv' := [(2, .int z35), (0, .ref (ad 95)), (1, .int a1)]) hx hb dX2_layWays_69 hl (k := 0) rfl (by rw [e36]; rfl) (by decide) rfl (fun ls hl => ?_)
          refine lv_goto (tgt := 10) hx hb dX2_layWays_72 (by decide) ?_
          exact ih10 _ _ _ _ z35 (ib_wk b38 (by decide) (by decide)) (by omega) hI hf10 hQ (lv_sub hl [0, 1, 2] rfl)
        · have h39 := ib_ne k32
          have b40 : Bd r31 (1) (1) := rf_nlo b31 (by decide : Bd 0 (0) (0)) h39
          refine lv_aload_n hx hb dX2_layWays_39 rfl (lv_at hl 1 rfl) ?_
          refine xget E hQ 95 (by decide) c11 rfl 3 (by decide) q384 rfl dX2_layWays_40 ?_
          refine lv_aload_n hx hb dX2_layWays_43 rfl (lv_at hl 1 rfl) ?_
          refine xget E hQ 95 (by decide) c11 rfl 0 (by decide) q379 rfl dX2_layWays_44 ?_
          refine xget E hQ 2 (by decide) c22 rfl 14 (by decide) q302 rfl dX2_layWays_47 ?_
          refine xget E hQ 16 (by decide) c25 rfl 3 (by decide) q225 rfl dX2_layWays_50 ?_
          refine lv_iload_n hx hb dX2_layWays_53 rfl (lv_at hl 0 rfl) ?_
          obtain ⟨f41, c42, b43⟩ := invX_19 hI
          refine xiald E hQ 19 (by decide) c42 (ib_in b29 (by decide) (by decide)) dX2_layWays_54 ?_
          refine lv_topi (fun z44 e45 => ?_)
          have b46 : Bd z44 (0) (400) := (by rw [e45]; exact b43 _)
          refine lv_aload_n hx hb dX2_layWays_55 rfl (lv_at hl 1 rfl) ?_
          refine xget E hQ 95 (by decide) c11 rfl 0 (by decide) q379 rfl dX2_layWays_56 ?_
          refine xget E hQ 2 (by decide) c22 rfl 14 (by decide) q302 rfl dX2_layWays_59 ?_
          refine xget E hQ 16 (by decide) c25 rfl 1 (by decide) q220 rfl dX2_layWays_62 ?_
          refine lv_iload_n hx hb dX2_layWays_65 rfl (lv_at hl 0 rfl) ?_
          obtain ⟨f47, c48⟩ := invX_17 hI
          refine xiald E hQ 17 (by decide) c48 (ib_in b29 (by decide) (by decide)) dX2_layWays_66 ?_
          refine lv_topi (fun z50 e51 => ?_)
          refine lv_i2b hx hb dX2_layWays_67 rfl ?_
          refine lv_topi (fun z52 e53 => ?_)
          have b54 : Bd z52 (-128) (127) := (by rw [e53]; exact ib_byte _)
          obtain ⟨f55, c56, b57⟩ := invX_98 hI
          refine xbast E hs hQ 98 (by decide) c56 (ib_in b46 (by decide) (by decide)) dX2_layWays_68 (fun H locs S58 eS58 hQ => ?_)
          have hI := invX_up_98 hI eS58 ⟨_, rfl, upd_b b57 (nar_b _)⟩
          have b60 : ∀ j, Bd ((upd f55 (z44 : Int32).toNatClampNeg (vp_nar .byte z52)) j) (-128) (127) := upd_b b57 (nar_b _)
          have c59 : S58 98 = .inl (g.2 1, 401, .inl (upd f55 (z44 : Int32).toNatClampNeg (vp_nar .byte z52))) := up_at eS58 rfl
          obtain ⟨z61, e62⟩ : ∃ z : Int32, z = x10_2 + 1 := ⟨_, rfl⟩
          have t63 := ib_add e62 b29 (by decide : Bd 1 (1) (1)) (by decide) (by decide)
          have b64 : Bd z61 (1) (40) := ib_addb t63 b29 (by decide : Bd 1 (1) (1))
          have t63 : z61.toInt = x10_2.toInt + 1 := fold_add t63 rfl (by decide)
          refine lv_iinc (v := z61) (lv' := [(2, .int z61), (0, .ref (ad 95)), (1, .int a1)]) hx hb dX2_layWays_69 hl (k := 0) rfl (by rw [e62]; rfl) (by decide) rfl (fun ls hl => ?_)
          refine lv_goto (tgt := 10) hx hb dX2_layWays_72 (by decide) ?_
          exact ih10 _ _ _ _ z61 (ib_wk b64 (by decide) (by decide)) (by omega) hI (up_o hf10 eS58 (by decide)) hQ (lv_sub hl [0, 1, 2] rfl)
  obtain ⟨n10, hn10⟩ := fu_n (40)
  exact loop10 n10 _ _ _ _ 0 (ib_wk (by decide : Bd 0 (0) (0)) (by decide) (by decide)) (by have : (0 : Int32).toInt = 0 := (by decide); omega) hI o_refl hQ (lv_sub hl [0, 1, 2] rfl)
set_option maxHeartbeats 4000000 in
set_option maxRecDepth 100000 in
theorem gX2_run_95 (l : Launch) (g : GG) (ad : Nat → Nat) (hD : Dj ad 122) (S : SS) (hI : InvX g ad S) (a1 : Int32) (a2 : Int32) (a3 : Int32) (ba1 : Bd a1 (0) (7)) (ba2 : Bd a2 (0) (400)) (hq1 : 0 ≤ fld (S 2) 1 + (-1)) : Met l yX2_run (wG (.code yX2_run cX2_run 7 none)) (Rm 3) (XPre g ad 122 S [.ref (ad 95), .int a1, .int a2, .int a3]) (va_Qv (fun S' => InvX g ad S' ∧ (∀ j, j ∉ ([95, 98] : List Nat) → S' j = S j)) (QB g ad 122) (FA ad 122)) 0 0 (FA ad 122) := by
  refine xmet cX2_run "EbbWreck$Drift" (by decide) rfl (Nat.le_of_ble_eq_true rfl) (fun p e s m below meth c E hr hlk hml hQ ls hl => ?_)
  have hx := E.1
  have hb := E.2.1
  have hs : Sp ad 122 (FA ad 122) := Sp.fa hD
  have hl : lv_has ls 7 [(0, .ref (ad 95)), (1, .int a1), (2, .int a2), (3, .int a3)] := hl
  obtain ⟨v1, v3, v5, v6, v7, v9, c11, b2, b4, b8, b10⟩ := invX_2 hI
  have c11 : S 2 = .inr (1, [.int v1, .int v3, .int v5, .ref (ad 3), .ref (ad 5), .ref (ad 6), .int v6, .int v7, .ref (ad 7), .ref (ad 8), .ref (ad 9), .ref (ad 10), .int v9, .ref (ad 15), .ref (ad 16)]) := c11
  have q12 : fld (S 2) 1 = v3.toInt := fld_of c11 rfl
  have b13 : Bd v3 (1) (12) := ⟨by omega, by omega⟩
  refine lv_aload_n hx hb dX2_run_0 rfl (lv_at hl 0 rfl) ?_
  refine lv_iload_n hx hb dX2_run_1 rfl (lv_at hl 1 rfl) ?_
  obtain ⟨v15, v16, c18, b17⟩ := invX_95 hI
  have c18 : S 95 = .inr (2, [.ref (ad 2), .ref (ad 96), .ref (ad 97), .ref (ad 98), .ref (ad 99), .ref (ad 100), .ref (ad 101), .int v15, .int v16]) := c18
  refine xcVv E hs hQ hml hl.1 95 (gX2_layWays_95 l g ad hD S hI a1) mX2_layWays q774 (by decide) c18 rfl rfl ⟨(Nat.le_of_ble_eq_true rfl), (Nat.le_of_ble_eq_true rfl)⟩ ⟨(Nat.le_of_ble_eq_true rfl), (Nat.le_of_ble_eq_true rfl)⟩ (Nat.le_of_ble_eq_true rfl) rfl dX2_run_2 (fun S14 H locs hp14 hQ _ => ?_)
  obtain ⟨hI, o14⟩ := hp14
  refine lv_iload_n hx hb dX2_run_5 rfl (lv_at hl 3 rfl) ?_
  refine lv_i2l hx hb dX2_run_6 rfl ?_
  refine lv_topl (fun w19 e20 => ?_)
  have t21 : w19.toInt = a3.toInt := by rw [e20]; exact w64 _
  have b22 : BdL w19 (-2147483648) (2147483647) := (by have h1 := ((ib_full a3)).1; have h2 := ((ib_full a3)).2; exact ⟨by omega, by omega⟩)
  refine lv_lstore (lv' := [(4, .long w19), (0, .ref (ad 95)), (1, .int a1), (2, .int a2), (3, .int a3)]) hx hb dX2_run_7 hl (by decide) rfl (fun ls hl => ?_)
  refine lv_aload_n hx hb dX2_run_9 rfl (lv_at hl 1 rfl) ?_
  refine lv_iconst (v := (-1)) hx hb dX2_run_10 (by decide) ?_
  have c23 : S14 95 = .inr (2, [.ref (ad 2), .ref (ad 96), .ref (ad 97), .ref (ad 98), .ref (ad 99), .ref (ad 100), .ref (ad 101), .int v15, .int v16]) := ((o14 95 (by decide)).trans c18)
  refine xputi E hs hQ 95 (by decide) c23 rfl 7 (by decide) q388 rfl rfl (Nat.le_of_ble_eq_true rfl) dX2_run_11 (fun H locs S24 eS24 hQ => ?_)
  have hI := invX_up_95 hI eS24 ⟨(-1), v16, rfl, b17⟩
  have c25 : S24 95 = .inr (2, [.ref (ad 2), .ref (ad 96), .ref (ad 97), .ref (ad 98), .ref (ad 99), .ref (ad 100), .ref (ad 101), .int (-1), .int v16]) := up_at eS24 rfl
  refine lv_aload_n hx hb dX2_run_14 rfl (lv_at hl 1 rfl) ?_
  refine lv_aload_n hx hb dX2_run_15 rfl (lv_at hl 1 rfl) ?_
  refine xget E hQ 95 (by decide) c25 rfl 0 (by decide) q379 rfl dX2_run_16 ?_
  have c26 : S24 2 = .inr (1, [.int v1, .int v3, .int v5, .ref (ad 3), .ref (ad 5), .ref (ad 6), .int v6, .int v7, .ref (ad 7), .ref (ad 8), .ref (ad 9), .ref (ad 10), .int v9, .ref (ad 15), .ref (ad 16)]) := (up_ne eS24 (by decide) ((o14 2 (by decide)).trans c11))
  refine xget E hQ 2 (by decide) c26 rfl 9 (by decide) q281 rfl dX2_run_19 ?_
  refine lv_iload_n hx hb dX2_run_22 rfl (lv_at hl 2 rfl) ?_
  obtain ⟨f27, c28, b29⟩ := invX_8 hI
  refine xiald E hQ 8 (by decide) c28 (ib_in ba1 (by decide) (by decide)) dX2_run_23 ?_
  refine lv_topi (fun z30 e31 => ?_)
  have b32 : Bd z30 (0) (11) := (by rw [e31]; exact b29 _)
  refine xputi E hs hQ 95 (by decide) c25 rfl 8 (by decide) q390 rfl rfl (Nat.le_of_ble_eq_true rfl) dX2_run_24 (fun H locs S33 eS33 hQ => ?_)
  have hI := invX_up_95 hI eS33 ⟨(-1), z30, rfl, b32⟩
  have c34 : S33 95 = .inr (2, [.ref (ad 2), .ref (ad 96), .ref (ad 97), .ref (ad 98), .ref (ad 99), .ref (ad 100), .ref (ad 101), .int (-1), .int z30]) := up_at eS33 rfl
  refine lv_aload_n hx hb dX2_run_27 rfl (lv_at hl 1 rfl) ?_
  refine xget E hQ 95 (by decide) c34 rfl 0 (by decide) q379 rfl dX2_run_28 ?_
  have c35 : S33 2 = .inr (1, [.int v1, .int v3, .int v5, .ref (ad 3), .ref (ad 5), .ref (ad 6), .int v6, .int v7, .ref (ad 7), .ref (ad 8), .ref (ad 9), .ref (ad 10), .int v9, .ref (ad 15), .ref (ad 16)]) := (up_ne eS33 (by decide) c26)
  refine xget E hQ 2 (by decide) c35 rfl 10 (by decide) q286 rfl dX2_run_31 ?_
  refine lv_iload_n hx hb dX2_run_34 rfl (lv_at hl 2 rfl) ?_
  obtain ⟨f36, c37, b38⟩ := invX_9 hI
  refine xiald E hQ 9 (by decide) c37 (ib_in ba1 (by decide) (by decide)) dX2_run_35 ?_
  refine lv_topi (fun z39 e40 => ?_)
  have b41 : Bd z39 (0) (99) := (by rw [e40]; exact b38 _)
  refine lv_istore (lv' := [(6, .int z39), (4, .long w19), (0, .ref (ad 95)), (1, .int a1), (2, .int a2), (3, .int a3)]) hx hb dX2_run_36 hl (by decide) rfl (fun ls hl => ?_)
  have loop38 : ∀ (n : Nat) (S_38 : SS) (H : Heap) (locs : List Loc) (ls : Array Slot) (wx38_4 : Int64) (x38_6 : Int32) (y38_95_7 : Int32) (y38_95_8 : Int32), Bd x38_6 (0) (400) → Bd y38_95_7 (-1) (-1) → Bd y38_95_8 (0) (11) → (-1) * x38_6.toInt + 400 < ((n : Nat) : Int) → InvX g ad S_38 → (∀ j, j ∉ ([95] : List Nat) → S_38 j = S33 j) → S_38 95 = .inr (2, [.ref (ad 2), .ref (ad 96), .ref (ad 97), .ref (ad 98), .ref (ad 99), .ref (ad 100), .ref (ad 101), .int y38_95_7, .int y38_95_8]) → Hp g ad 122 S_38 (FA ad 122) s.heap H locs → lv_has ls 7 [(6, .int x38_6), (4, .long wx38_4), (0, .ref (ad 95)), (1, .int a1), (2, .int a2), (3, .int a3)] → W p l e (Rm 3) s m [.ref (ad 95), .int a1, .int a2, .int a3].toArray below meth c H locs 0 0 (MQ below (va_Qv (fun S' => InvX g ad S' ∧ (∀ j, j ∉ ([95, 98] : List Nat) → S' j = S j)) (QB g ad 122) (FA ad 122)) [.ref (ad 95), .int a1, .int a2, .int a3].toArray s 0 0 (FA ad 122)) (F0 m 38 ls []) := by
    intro n
    induction n with
    | zero => intro S_38 H locs ls wx38_4 x38_6 y38_95_7 y38_95_8 Bx38_6 By38_95_7 By38_95_8 hn38_ hI hf38 cl38_95 hQ hl; exfalso; have := (Bx38_6).2; omega
    | succ n38_ ih38 =>
      intro S_38 H locs ls wx38_4 x38_6 y38_95_7 y38_95_8 Bx38_6 By38_95_7 By38_95_8 hn38_ hI hf38 cl38_95 hQ hl
      refine lv_iload hx hb dX2_run_38 (lv_at hl 0 rfl) ?_
      refine lv_iload_n hx hb dX2_run_40 rfl (lv_at hl 4 rfl) ?_
      refine lv_icmp_ge (tgt := 156) hx hb dX2_run_41 (by decide) (fun k42 => ?_) (fun k42 => ?_)
      · have h43 := ib_le k42
        exact xrv E hr hlk hQ (⟨hI, (o_trans (up_o (up_o (o_trans o_refl o14 (by decide)) eS24 (by decide)) eS33 (by decide)) hf38 (by decide))⟩) dX2_run_156
      · have h44 := ib_nle k42
        have b45 : Bd x38_6 (0) (399) := ⟨(Bx38_6).1, ((rf_lt Bx38_6 ba2 h44).1).2⟩
        have b46 : Bd a2 (1) (400) := ⟨((rf_lt Bx38_6 ba2 h44).2).1, (ba2).2⟩
        refine lv_iload_n hx hb dX2_run_44 rfl (lv_at hl 5 rfl) ?_
        refine lv_iconst (v := (-1)) hx hb dX2_run_45 (by decide) ?_
        refine lv_icmp_eq (tgt := 103) hx hb dX2_run_46 (by decide) (fun k47 => ?_) (fun k47 => ?_)
        · have h48 := ib_eq k47
          have b49 : Bd a3 (-1) (-1) := ⟨((rf_eq (ib_full a3) (by decide : Bd (-1) (-1) (-1)) h48).1).1, ((rf_eq (ib_full a3) (by decide : Bd (-1) (-1) (-1)) h48).1).2⟩
          refine lv_aload_n hx hb dX2_run_103 rfl (lv_at hl 2 rfl) ?_
          refine lv_aload_n hx hb dX2_run_104 rfl (lv_at hl 2 rfl) ?_
          refine xget E hQ 95 (by decide) cl38_95 rfl 0 (by decide) q379 rfl dX2_run_105 ?_
          refine lv_aload_n hx hb dX2_run_108 rfl (lv_at hl 2 rfl) ?_
          refine xget E hQ 95 (by decide) cl38_95 rfl 8 (by decide) q390 rfl dX2_run_109 ?_
          refine lv_aload_n hx hb dX2_run_112 rfl (lv_at hl 2 rfl) ?_
          refine xget E hQ 95 (by decide) cl38_95 rfl 3 (by decide) q384 rfl dX2_run_113 ?_
          refine lv_iload hx hb dX2_run_116 (lv_at hl 0 rfl) ?_
          obtain ⟨f50, c51, b52⟩ := invX_98 hI
          refine xbald E hQ 98 (by decide) c51 (ib_in b45 (by decide) (by decide)) dX2_run_118 ?_
          refine lv_topi (fun z53 e54 => ?_)
          have b55 : Bd z53 (-128) (127) := (by rw [e54]; exact b52 _)
          refine lv_iload hx hb dX2_run_119 (lv_at hl 0 rfl) ?_
          have c56 : S_38 2 = .inr (1, [.int v1, .int v3, .int v5, .ref (ad 3), .ref (ad 5), .ref (ad 6), .int v6, .int v7, .ref (ad 7), .ref (ad 8), .ref (ad 9), .ref (ad 10), .int v9, .ref (ad 15), .ref (ad 16)]) := ((hf38 2 (by decide)).trans c35)
          have q57 : fld (S_38 2) 1 = v3.toInt := fld_of c56 rfl
          refine xcVi E hs hQ hml hl.1 2 (gX1_pushedAndDrifted_2 l g ad hD S_38 hI y38_95_8 z53 x38_6 (by omega)) mX1_pushedAndDrifted q794 (by decide) c56 rfl rfl ⟨(Nat.le_of_ble_eq_true rfl), (Nat.le_of_ble_eq_true rfl)⟩ ⟨(Nat.le_of_ble_eq_true rfl), (Nat.le_of_ble_eq_true rfl)⟩ (Nat.le_of_ble_eq_true rfl) rfl dX2_run_121 (fun r58 S58 H locs hp58 hQ _ => ?_)
          obtain ⟨rfl, b58⟩ := hp58
          refine xputi E hs hQ 95 (by decide) cl38_95 rfl 8 (by decide) q390 rfl rfl (Nat.le_of_ble_eq_true rfl) dX2_run_124 (fun H locs S59 eS59 hQ => ?_)
          have hI := invX_up_95 hI eS59 ⟨y38_95_7, r58, rfl, b58⟩
          have c60 : S59 95 = .inr (2, [.ref (ad 2), .ref (ad 96), .ref (ad 97), .ref (ad 98), .ref (ad 99), .ref (ad 100), .ref (ad 101), .int y38_95_7, .int r58]) := up_at eS59 rfl
          refine lv_aload_n hx hb dX2_run_127 rfl (lv_at hl 2 rfl) ?_
          refine xget E hQ 95 (by decide) c60 rfl 0 (by decide) q379 rfl dX2_run_128 ?_
          refine lv_aload_n hx hb dX2_run_131 rfl (lv_at hl 2 rfl) ?_
          refine xget E hQ 95 (by decide) c60 rfl 8 (by decide) q390 rfl dX2_run_132 ?_
          have c62 : S59 2 = .inr (1, [.int v1, .int v3, .int v5, .ref (ad 3), .ref (ad 5), .ref (ad 6), .int v6, .int v7, .ref (ad 7), .ref (ad 8), .ref (ad 9), .ref (ad 10), .int v9, .ref (ad 15), .ref (ad 16)]) := (up_ne eS59 (by decide) c56)
          refine xcVi E hs hQ hml hl.1 2 (gX1_isBeach_2 l g ad hD S59 hI r58) mX1_isBeach q807 (by decide) c62 rfl rfl ⟨(Nat.le_of_ble_eq_true rfl), (Nat.le_of_ble_eq_true rfl)⟩ ⟨(Nat.le_of_ble_eq_true rfl), (Nat.le_of_ble_eq_true rfl)⟩ (Nat.le_of_ble_eq_true rfl) rfl dX2_run_135 (fun r61 S61 H locs hp61 hQ _ => ?_)
          obtain ⟨rfl, b61⟩ := hp61
          refine lv_if_eq (tgt := 150) hx hb dX2_run_138 (by decide) (fun k63 => ?_) (fun k63 => ?_)
          · have h64 := ib_eq k63
            have b65 : Bd r61 (0) (0) := ⟨(b61).1, ((rf_eq b61 (by decide : Bd 0 (0) (0)) h64).1).2⟩
            obtain ⟨z66, e67⟩ : ∃ z : Int32, z = x38_6 + 1 := ⟨_, rfl⟩
            have t68 := ib_add e67 b45 (by decide : Bd 1 (1) (1)) (by decide) (by decide)
            have b69 : Bd z66 (1) (400) := ib_addb t68 b45 (by decide : Bd 1 (1) (1))
            have t68 : z66.toInt = x38_6.toInt + 1 := fold_add t68 rfl (by decide)
            refine lv_iinc (v := z66) (lv' := [(6, .int z66), (4, .long wx38_4), (0, .ref (ad 95)), (1, .int a1), (2, .int a2), (3, .int a3)]) hx hb dX2_run_150 hl (k := 0) rfl (by rw [e67]; rfl) (by decide) rfl (fun ls hl => ?_)
            refine lv_goto (tgt := 38) hx hb dX2_run_153 (by decide) ?_
            exact ih38 _ _ _ _ wx38_4 z66 y38_95_7 r58 (ib_wk b69 (by decide) (by decide)) By38_95_7 b58 (by omega) hI (up_o hf38 eS59 (by decide)) c60 hQ (lv_sub hl [0, 1, 2, 3, 4, 5] rfl)
          · have h70 := ib_ne k63
            have b71 : Bd r61 (1) (1) := rf_nlo b61 (by decide : Bd 0 (0) (0)) h70
            refine lv_aload_n hx hb dX2_run_141 rfl (lv_at hl 2 rfl) ?_
            refine lv_iload hx hb dX2_run_142 (lv_at hl 0 rfl) ?_
            refine lv_iconst (v := 1) hx hb dX2_run_144 (by decide) ?_
            refine lv_iadd hx hb dX2_run_145 ?_
            refine lv_topi (fun z72 e73 => ?_)
            have t74 := ib_add e73 b45 (by decide : Bd 1 (1) (1)) (by decide) (by decide)
            have b75 : Bd z72 (1) (400) := ib_addb t74 b45 (by decide : Bd 1 (1) (1))
            have t74 : z72.toInt = x38_6.toInt + 1 := fold_add t74 rfl (by decide)
            refine xputi E hs hQ 95 (by decide) c60 rfl 7 (by decide) q388 rfl rfl (Nat.le_of_ble_eq_true rfl) dX2_run_146 (fun H locs S76 eS76 hQ => ?_)
            have hI := invX_up_95 hI eS76 ⟨z72, r58, rfl, b58⟩
            have c77 : S76 95 = .inr (2, [.ref (ad 2), .ref (ad 96), .ref (ad 97), .ref (ad 98), .ref (ad 99), .ref (ad 100), .ref (ad 101), .int z72, .int r58]) := up_at eS76 rfl
            exact xrv E hr hlk hQ (⟨hI, (up_o (up_o (o_trans (up_o (up_o (o_trans o_refl o14 (by decide)) eS24 (by decide)) eS33 (by decide)) hf38 (by decide)) eS59 (by decide)) eS76 (by decide))⟩) dX2_run_149
        · have h78 := ib_ne k47
          refine lv_ldc2 (v := 1103515245) hx hb E.2.2.1 (E.2.2.2.1 _ q785) dX2_run_49 ?_
          refine lv_lload hx hb dX2_run_52 (lv_at hl 1 rfl) ?_
          refine lv_lmul hx hb dX2_run_54 ?_
          refine lv_topl (fun w79 e80 => ?_)
          refine lv_ldc2 (v := 12345) hx hb E.2.2.1 (E.2.2.2.1 _ q786) dX2_run_55 ?_
          refine lv_ladd hx hb dX2_run_58 ?_
          refine lv_topl (fun w81 e82 => ?_)
          refine lv_ldc2 (v := 2147483647) hx hb E.2.2.1 (E.2.2.2.1 _ q787) dX2_run_59 ?_
          refine lv_land hx hb dX2_run_62 ?_
          refine lv_topl (fun w83 e84 => ?_)
          refine lv_lstore (lv' := [(4, .long w83), (6, .int x38_6), (0, .ref (ad 95)), (1, .int a1), (2, .int a2), (3, .int a3)]) hx hb dX2_run_63 hl (by decide) rfl (fun ls hl => ?_)
          refine lv_lload hx hb dX2_run_65 (lv_at hl 0 rfl) ?_
          refine lv_ldc2 (v := 65536) hx hb E.2.2.1 (E.2.2.2.1 _ q788) dX2_run_67 ?_
          refine lv_ldiv hx hb dX2_run_70 (by decide) ?_
          refine lv_topl (fun w85 e86 => ?_)
          refine lv_ldc2 (v := 100) hx hb E.2.2.1 (E.2.2.2.1 _ q789) dX2_run_71 ?_
          refine lv_lrem hx hb dX2_run_74 (by decide) ?_
          refine lv_topl (fun w87 e88 => ?_)
          refine lv_aload_n hx hb dX2_run_75 rfl (lv_at hl 2 rfl) ?_
          refine xget E hQ 95 (by decide) cl38_95 rfl 0 (by decide) q379 rfl dX2_run_76 ?_
          have c89 : S_38 2 = .inr (1, [.int v1, .int v3, .int v5, .ref (ad 3), .ref (ad 5), .ref (ad 6), .int v6, .int v7, .ref (ad 7), .ref (ad 8), .ref (ad 9), .ref (ad 10), .int v9, .ref (ad 15), .ref (ad 16)]) := ((hf38 2 (by decide)).trans c35)
          refine xget E hQ 2 (by decide) c89 rfl 2 (by decide) q248 rfl dX2_run_79 ?_
          refine lv_i2l hx hb dX2_run_82 rfl ?_
          refine lv_topl (fun w90 e91 => ?_)
          have t92 : w90.toInt = v5.toInt := by rw [e91]; exact w64 _
          have b93 : BdL w90 (-2147483648) (2147483647) := (by have h1 := ((ib_full v5)).1; have h2 := ((ib_full v5)).2; exact ⟨by omega, by omega⟩)
          refine W.lcmp hx hb dX2_run_83 ?_
          refine lv_if_ge (tgt := 103) hx hb dX2_run_84 (by decide) (fun k94 => ?_) (fun k94 => ?_)
          · have h95 := lc_ge k94
            have b96 : BdL w87 (-2147483648) (9223372036854775807) := ⟨((rf_leL b93 (ib_fullL w87) h95).2).1, ((ib_fullL w87)).2⟩
            refine lv_aload_n hx hb dX2_run_103 rfl (lv_at hl 2 rfl) ?_
            refine lv_aload_n hx hb dX2_run_104 rfl (lv_at hl 2 rfl) ?_
            refine xget E hQ 95 (by decide) cl38_95 rfl 0 (by decide) q379 rfl dX2_run_105 ?_
            refine lv_aload_n hx hb dX2_run_108 rfl (lv_at hl 2 rfl) ?_
            refine xget E hQ 95 (by decide) cl38_95 rfl 8 (by decide) q390 rfl dX2_run_109 ?_
            refine lv_aload_n hx hb dX2_run_112 rfl (lv_at hl 2 rfl) ?_
            refine xget E hQ 95 (by decide) cl38_95 rfl 3 (by decide) q384 rfl dX2_run_113 ?_
            refine lv_iload hx hb dX2_run_116 (lv_at hl 1 rfl) ?_
            obtain ⟨f97, c98, b99⟩ := invX_98 hI
            refine xbald E hQ 98 (by decide) c98 (ib_in b45 (by decide) (by decide)) dX2_run_118 ?_
            refine lv_topi (fun z100 e101 => ?_)
            have b102 : Bd z100 (-128) (127) := (by rw [e101]; exact b99 _)
            refine lv_iload hx hb dX2_run_119 (lv_at hl 1 rfl) ?_
            have q103 : fld (S_38 2) 1 = v3.toInt := fld_of c89 rfl
            refine xcVi E hs hQ hml hl.1 2 (gX1_pushedAndDrifted_2 l g ad hD S_38 hI y38_95_8 z100 x38_6 (by omega)) mX1_pushedAndDrifted q794 (by decide) c89 rfl rfl ⟨(Nat.le_of_ble_eq_true rfl), (Nat.le_of_ble_eq_true rfl)⟩ ⟨(Nat.le_of_ble_eq_true rfl), (Nat.le_of_ble_eq_true rfl)⟩ (Nat.le_of_ble_eq_true rfl) rfl dX2_run_121 (fun r104 S104 H locs hp104 hQ _ => ?_)
            obtain ⟨rfl, b104⟩ := hp104
            refine xputi E hs hQ 95 (by decide) cl38_95 rfl 8 (by decide) q390 rfl rfl (Nat.le_of_ble_eq_true rfl) dX2_run_124 (fun H locs S105 eS105 hQ => ?_)
            have hI := invX_up_95 hI eS105 ⟨y38_95_7, r104, rfl, b104⟩
            have c106 : S105 95 = .inr (2, [.ref (ad 2), .ref (ad 96), .ref (ad 97), .ref (ad 98), .ref (ad 99), .ref (ad 100), .ref (ad 101), .int y38_95_7, .int r104]) := up_at eS105 rfl
            refine lv_aload_n hx hb dX2_run_127 rfl (lv_at hl 2 rfl) ?_
            refine xget E hQ 95 (by decide) c106 rfl 0 (by decide) q379 rfl dX2_run_128 ?_
            refine lv_aload_n hx hb dX2_run_131 rfl (lv_at hl 2 rfl) ?_
            refine xget E hQ 95 (by decide) c106 rfl 8 (by decide) q390 rfl dX2_run_132 ?_
            have c108 : S105 2 = .inr (1, [.int v1, .int v3, .int v5, .ref (ad 3), .ref (ad 5), .ref (ad 6), .int v6, .int v7, .ref (ad 7), .ref (ad 8), .ref (ad 9), .ref (ad 10), .int v9, .ref (ad 15), .ref (ad 16)]) := (up_ne eS105 (by decide) c89)
            refine xcVi E hs hQ hml hl.1 2 (gX1_isBeach_2 l g ad hD S105 hI r104) mX1_isBeach q807 (by decide) c108 rfl rfl ⟨(Nat.le_of_ble_eq_true rfl), (Nat.le_of_ble_eq_true rfl)⟩ ⟨(Nat.le_of_ble_eq_true rfl), (Nat.le_of_ble_eq_true rfl)⟩ (Nat.le_of_ble_eq_true rfl) rfl dX2_run_135 (fun r107 S107 H locs hp107 hQ _ => ?_)
            obtain ⟨rfl, b107⟩ := hp107
            refine lv_if_eq (tgt := 150) hx hb dX2_run_138 (by decide) (fun k109 => ?_) (fun k109 => ?_)
            · have h110 := ib_eq k109
              have b111 : Bd r107 (0) (0) := ⟨(b107).1, ((rf_eq b107 (by decide : Bd 0 (0) (0)) h110).1).2⟩
              obtain ⟨z112, e113⟩ : ∃ z : Int32, z = x38_6 + 1 := ⟨_, rfl⟩
              have t114 := ib_add e113 b45 (by decide : Bd 1 (1) (1)) (by decide) (by decide)
              have b115 : Bd z112 (1) (400) := ib_addb t114 b45 (by decide : Bd 1 (1) (1))
              have t114 : z112.toInt = x38_6.toInt + 1 := fold_add t114 rfl (by decide)
              refine lv_iinc (v := z112) (lv' := [(6, .int z112), (4, .long w83), (0, .ref (ad 95)), (1, .int a1), (2, .int a2), (3, .int a3)]) hx hb dX2_run_150 hl (k := 1) rfl (by rw [e113]; rfl) (by decide) rfl (fun ls hl => ?_)
              refine lv_goto (tgt := 38) hx hb dX2_run_153 (by decide) ?_
              exact ih38 _ _ _ _ w83 z112 y38_95_7 r104 (ib_wk b115 (by decide) (by decide)) By38_95_7 b104 (by omega) hI (up_o hf38 eS105 (by decide)) c106 hQ (lv_sub hl [0, 1, 2, 3, 4, 5] rfl)
            · have h116 := ib_ne k109
              have b117 : Bd r107 (1) (1) := rf_nlo b107 (by decide : Bd 0 (0) (0)) h116
              refine lv_aload_n hx hb dX2_run_141 rfl (lv_at hl 2 rfl) ?_
              refine lv_iload hx hb dX2_run_142 (lv_at hl 1 rfl) ?_
              refine lv_iconst (v := 1) hx hb dX2_run_144 (by decide) ?_
              refine lv_iadd hx hb dX2_run_145 ?_
              refine lv_topi (fun z118 e119 => ?_)
              have t120 := ib_add e119 b45 (by decide : Bd 1 (1) (1)) (by decide) (by decide)
              have b121 : Bd z118 (1) (400) := ib_addb t120 b45 (by decide : Bd 1 (1) (1))
              have t120 : z118.toInt = x38_6.toInt + 1 := fold_add t120 rfl (by decide)
              refine xputi E hs hQ 95 (by decide) c106 rfl 7 (by decide) q388 rfl rfl (Nat.le_of_ble_eq_true rfl) dX2_run_146 (fun H locs S122 eS122 hQ => ?_)
              have hI := invX_up_95 hI eS122 ⟨z118, r104, rfl, b104⟩
              have c123 : S122 95 = .inr (2, [.ref (ad 2), .ref (ad 96), .ref (ad 97), .ref (ad 98), .ref (ad 99), .ref (ad 100), .ref (ad 101), .int z118, .int r104]) := up_at eS122 rfl
              exact xrv E hr hlk hQ (⟨hI, (up_o (up_o (o_trans (up_o (up_o (o_trans o_refl o14 (by decide)) eS24 (by decide)) eS33 (by decide)) hf38 (by decide)) eS105 (by decide)) eS122 (by decide))⟩) dX2_run_149
          · have h124 := lc_nge k94
            have b125 : BdL w87 (-9223372036854775808) (2147483646) := ⟨((ib_fullL w87)).1, ((rf_ltL (ib_fullL w87) b93 h124).1).2⟩
            refine lv_aload_n hx hb dX2_run_87 rfl (lv_at hl 2 rfl) ?_
            refine lv_aload_n hx hb dX2_run_88 rfl (lv_at hl 2 rfl) ?_
            refine xget E hQ 95 (by decide) cl38_95 rfl 0 (by decide) q379 rfl dX2_run_89 ?_
            refine lv_aload_n hx hb dX2_run_92 rfl (lv_at hl 2 rfl) ?_
            refine xget E hQ 95 (by decide) cl38_95 rfl 8 (by decide) q390 rfl dX2_run_93 ?_
            refine lv_iconst (v := 1) hx hb dX2_run_96 (by decide) ?_
            have q126 : fld (S_38 2) 1 = v3.toInt := fld_of c89 rfl
            refine xcVi E hs hQ hml hl.1 2 (gX1_shifted_2 l g ad hD S_38 hI y38_95_8 1 (by omega)) mX1_shifted q790 (by decide) c89 rfl rfl ⟨(Nat.le_of_ble_eq_true rfl), (Nat.le_of_ble_eq_true rfl)⟩ ⟨(Nat.le_of_ble_eq_true rfl), (Nat.le_of_ble_eq_true rfl)⟩ (Nat.le_of_ble_eq_true rfl) rfl dX2_run_97 (fun r127 S127 H locs hp127 hQ _ => ?_)
            obtain ⟨rfl, b127⟩ := hp127
            refine xputi E hs hQ 95 (by decide) cl38_95 rfl 8 (by decide) q390 rfl rfl (Nat.le_of_ble_eq_true rfl) dX2_run_100 (fun H locs S128 eS128 hQ => ?_)
            have hI := invX_up_95 hI eS128 ⟨y38_95_7, r127, rfl, b127⟩
            have c129 : S128 95 = .inr (2, [.ref (ad 2), .ref (ad 96), .ref (ad 97), .ref (ad 98), .ref (ad 99), .ref (ad 100), .ref (ad 101), .int y38_95_7, .int r127]) := up_at eS128 rfl
            refine lv_aload_n hx hb dX2_run_103 rfl (lv_at hl 2 rfl) ?_
            refine lv_aload_n hx hb dX2_run_104 rfl (lv_at hl 2 rfl) ?_
            refine xget E hQ 95 (by decide) c129 rfl 0 (by decide) q379 rfl dX2_run_105 ?_
            refine lv_aload_n hx hb dX2_run_108 rfl (lv_at hl 2 rfl) ?_
            refine xget E hQ 95 (by decide) c129 rfl 8 (by decide) q390 rfl dX2_run_109 ?_
            refine lv_aload_n hx hb dX2_run_112 rfl (lv_at hl 2 rfl) ?_
            refine xget E hQ 95 (by decide) c129 rfl 3 (by decide) q384 rfl dX2_run_113 ?_
            refine lv_iload hx hb dX2_run_116 (lv_at hl 1 rfl) ?_
            obtain ⟨f130, c131, b132⟩ := invX_98 hI
            refine xbald E hQ 98 (by decide) c131 (ib_in b45 (by decide) (by decide)) dX2_run_118 ?_
            refine lv_topi (fun z133 e134 => ?_)
            have b135 : Bd z133 (-128) (127) := (by rw [e134]; exact b132 _)
            refine lv_iload hx hb dX2_run_119 (lv_at hl 1 rfl) ?_
            have c136 : S128 2 = .inr (1, [.int v1, .int v3, .int v5, .ref (ad 3), .ref (ad 5), .ref (ad 6), .int v6, .int v7, .ref (ad 7), .ref (ad 8), .ref (ad 9), .ref (ad 10), .int v9, .ref (ad 15), .ref (ad 16)]) := (up_ne eS128 (by decide) c89)
            have q137 : fld (S128 2) 1 = v3.toInt := fld_of c136 rfl
            refine xcVi E hs hQ hml hl.1 2 (gX1_pushedAndDrifted_2 l g ad hD S128 hI r127 z133 x38_6 (by omega)) mX1_pushedAndDrifted q794 (by decide) c136 rfl rfl ⟨(Nat.le_of_ble_eq_true rfl), (Nat.le_of_ble_eq_true rfl)⟩ ⟨(Nat.le_of_ble_eq_true rfl), (Nat.le_of_ble_eq_true rfl)⟩ (Nat.le_of_ble_eq_true rfl) rfl dX2_run_121 (fun r138 S138 H locs hp138 hQ _ => ?_)
            obtain ⟨rfl, b138⟩ := hp138
            refine xputi E hs hQ 95 (by decide) c129 rfl 8 (by decide) q390 rfl rfl (Nat.le_of_ble_eq_true rfl) dX2_run_124 (fun H locs S139 eS139 hQ => ?_)
            have hI := invX_up_95 hI eS139 ⟨y38_95_7, r138, rfl, b138⟩
            have c140 : S139 95 = .inr (2, [.ref (ad 2), .ref (ad 96), .ref (ad 97), .ref (ad 98), .ref (ad 99), .ref (ad 100), .ref (ad 101), .int y38_95_7, .int r138]) := up_at eS139 rfl
            refine lv_aload_n hx hb dX2_run_127 rfl (lv_at hl 2 rfl) ?_
            refine xget E hQ 95 (by decide) c140 rfl 0 (by decide) q379 rfl dX2_run_128 ?_
            refine lv_aload_n hx hb dX2_run_131 rfl (lv_at hl 2 rfl) ?_
            refine xget E hQ 95 (by decide) c140 rfl 8 (by decide) q390 rfl dX2_run_132 ?_
            have c142 : S139 2 = .inr (1, [.int v1, .int v3, .int v5, .ref (ad 3), .ref (ad 5), .ref (ad 6), .int v6, .int v7, .ref (ad 7), .ref (ad 8), .ref (ad 9), .ref (ad 10), .int v9, .ref (ad 15), .ref (ad 16)]) := (up_ne eS139 (by decide) c136)
            refine xcVi E hs hQ hml hl.1 2 (gX1_isBeach_2 l g ad hD S139 hI r138) mX1_isBeach q807 (by decide) c142 rfl rfl ⟨(Nat.le_of_ble_eq_true rfl), (Nat.le_of_ble_eq_true rfl)⟩ ⟨(Nat.le_of_ble_eq_true rfl), (Nat.le_of_ble_eq_true rfl)⟩ (Nat.le_of_ble_eq_true rfl) rfl dX2_run_135 (fun r141 S141 H locs hp141 hQ _ => ?_)
            obtain ⟨rfl, b141⟩ := hp141
            refine lv_if_eq (tgt := 150) hx hb dX2_run_138 (by decide) (fun k143 => ?_) (fun k143 => ?_)
            · have h144 := ib_eq k143
              have b145 : Bd r141 (0) (0) := ⟨(b141).1, ((rf_eq b141 (by decide : Bd 0 (0) (0)) h144).1).2⟩
              obtain ⟨z146, e147⟩ : ∃ z : Int32, z = x38_6 + 1 := ⟨_, rfl⟩
              have t148 := ib_add e147 b45 (by decide : Bd 1 (1) (1)) (by decide) (by decide)
              have b149 : Bd z146 (1) (400) := ib_addb t148 b45 (by decide : Bd 1 (1) (1))
              have t148 : z146.toInt = x38_6.toInt + 1 := fold_add t148 rfl (by decide)
              refine lv_iinc (v := z146) (lv' := [(6, .int z146), (4, .long w83), (0, .ref (ad 95)), (1, .int a1), (2, .int a2), (3, .int a3)]) hx hb dX2_run_150 hl (k := 1) rfl (by rw [e147]; rfl) (by decide) rfl (fun ls hl => ?_)
              refine lv_goto (tgt := 38) hx hb dX2_run_153 (by decide) ?_
              exact ih38 _ _ _ _ w83 z146 y38_95_7 r138 (ib_wk b149 (by decide) (by decide)) By38_95_7 b138 (by omega) hI (up_o (up_o hf38 eS128 (by decide)) eS139 (by decide)) c140 hQ (lv_sub hl [0, 1, 2, 3, 4, 5] rfl)
            · have h150 := ib_ne k143
              have b151 : Bd r141 (1) (1) := rf_nlo b141 (by decide : Bd 0 (0) (0)) h150
              refine lv_aload_n hx hb dX2_run_141 rfl (lv_at hl 2 rfl) ?_
              refine lv_iload hx hb dX2_run_142 (lv_at hl 1 rfl) ?_
              refine lv_iconst (v := 1) hx hb dX2_run_144 (by decide) ?_
              refine lv_iadd hx hb dX2_run_145 ?_
              refine lv_topi (fun z152 e153 => ?_)
              have t154 := ib_add e153 b45 (by decide : Bd 1 (1) (1)) (by decide) (by decide)
              have b155 : Bd z152 (1) (400) := ib_addb t154 b45 (by decide : Bd 1 (1) (1))
              have t154 : z152.toInt = x38_6.toInt + 1 := fold_add t154 rfl (by decide)
              refine xputi E hs hQ 95 (by decide) c140 rfl 7 (by decide) q388 rfl rfl (Nat.le_of_ble_eq_true rfl) dX2_run_146 (fun H locs S156 eS156 hQ => ?_)
              have hI := invX_up_95 hI eS156 ⟨z152, r138, rfl, b138⟩
              have c157 : S156 95 = .inr (2, [.ref (ad 2), .ref (ad 96), .ref (ad 97), .ref (ad 98), .ref (ad 99), .ref (ad 100), .ref (ad 101), .int z152, .int r138]) := up_at eS156 rfl
              exact xrv E hr hlk hQ (⟨hI, (up_o (up_o (up_o (o_trans (up_o (up_o (o_trans o_refl o14 (by decide)) eS24 (by decide)) eS33 (by decide)) hf38 (by decide)) eS128 (by decide)) eS139 (by decide)) eS156 (by decide))⟩) dX2_run_149
  obtain ⟨n38, hn38⟩ := fu_n ((-1) * z39.toInt + 400)
  exact loop38 n38 _ _ _ _ w19 z39 (-1) z30 (ib_wk b41 (by decide) (by decide)) (by decide : Bd (-1) (-1) (-1)) b32 (by have : ((-1) : Int32).toInt = (-1) := (by decide); omega) hI o_refl c34 hQ (lv_sub hl [0, 1, 2, 3, 4, 5] rfl)
set_option maxHeartbeats 4000000 in
set_option maxRecDepth 100000 in
theorem gX2_settle_95 (l : Launch) (g : GG) (ad : Nat → Nat) (hD : Dj ad 122) (S : SS) (hI : InvX g ad S) (a1 : Int32) (ba1 : Bd a1 (0) (7)) (hq1 : 0 ≤ fld (S 2) 1 + (-1)) : Met l yX2_settle (wG (.code yX2_settle cX2_settle 2 none)) (Rm 4) (XPre g ad 122 S [.ref (ad 95), .int a1]) (va_Qv (fun S' => InvX g ad S' ∧ (∀ j, j ∉ ([95, 96, 97, 98] : List Nat) → S' j = S j)) (QB g ad 122) (FA ad 122)) 0 0 (FA ad 122) := by
  refine xmet cX2_settle "EbbWreck$Drift" (by decide) rfl (Nat.le_of_ble_eq_true rfl) (fun p e s m below meth c E hr hlk hml hQ ls hl => ?_)
  have hx := E.1
  have hb := E.2.1
  have hs : Sp ad 122 (FA ad 122) := Sp.fa hD
  have hl : lv_has ls 2 [(0, .ref (ad 95)), (1, .int a1)] := hl
  obtain ⟨v1, v3, v5, v6, v7, v9, c11, b2, b4, b8, b10⟩ := invX_2 hI
  have c11 : S 2 = .inr (1, [.int v1, .int v3, .int v5, .ref (ad 3), .ref (ad 5), .ref (ad 6), .int v6, .int v7, .ref (ad 7), .ref (ad 8), .ref (ad 9), .ref (ad 10), .int v9, .ref (ad 15), .ref (ad 16)]) := c11
  have q12 : fld (S 2) 1 = v3.toInt := fld_of c11 rfl
  have b13 : Bd v3 (1) (12) := ⟨by omega, by omega⟩
  refine lv_aload_n hx hb dX2_settle_0 rfl (lv_at hl 0 rfl) ?_
  refine lv_iload_n hx hb dX2_settle_1 rfl (lv_at hl 1 rfl) ?_
  refine lv_sipush (v := 400) hx hb dX2_settle_2 (by decide) ?_
  refine lv_iconst (v := (-1)) hx hb dX2_settle_5 (by decide) ?_
  obtain ⟨v15, v16, c18, b17⟩ := invX_95 hI
  have c18 : S 95 = .inr (2, [.ref (ad 2), .ref (ad 96), .ref (ad 97), .ref (ad 98), .ref (ad 99), .ref (ad 100), .ref (ad 101), .int v15, .int v16]) := c18
  refine xcVv E hs hQ hml hl.1 95 (gX2_run_95 l g ad hD S hI a1 400 (-1) ba1 (ib_wk (by decide : Bd 400 (400) (400)) (by decide) (by decide)) (by omega)) mX2_run q770 (by decide) c18 rfl rfl ⟨(Nat.le_of_ble_eq_true rfl), (Nat.le_of_ble_eq_true rfl)⟩ ⟨(Nat.le_of_ble_eq_true rfl), (Nat.le_of_ble_eq_true rfl)⟩ (Nat.le_of_ble_eq_true rfl) rfl dX2_settle_6 (fun S14 H locs hp14 hQ _ => ?_)
  obtain ⟨hI, o14⟩ := hp14
  refine lv_aload_n hx hb dX2_settle_9 rfl (lv_at hl 0 rfl) ?_
  obtain ⟨v19, v20, c22, b21⟩ := invX_95 hI
  have c22 : S14 95 = .inr (2, [.ref (ad 2), .ref (ad 96), .ref (ad 97), .ref (ad 98), .ref (ad 99), .ref (ad 100), .ref (ad 101), .int v19, .int v20]) := c22
  refine xget E hQ 95 (by decide) c22 rfl 1 (by decide) q380 rfl dX2_settle_10 ?_
  refine lv_iload_n hx hb dX2_settle_13 rfl (lv_at hl 1 rfl) ?_
  refine lv_aload_n hx hb dX2_settle_14 rfl (lv_at hl 0 rfl) ?_
  refine xget E hQ 95 (by decide) c22 rfl 7 (by decide) q388 rfl dX2_settle_15 ?_
  obtain ⟨f23, c24⟩ := invX_96 hI
  refine xiast E hs hQ 96 (by decide) c24 (ib_in ba1 (by decide) (by decide)) dX2_settle_18 (fun H locs S26 eS26 hQ => ?_)
  have hI := invX_up_96 hI eS26 ⟨_, rfl⟩
  have c27 : S26 96 = .inl (g.2 0, 8, .inl (upd f23 (a1 : Int32).toNatClampNeg v19)) := up_at eS26 rfl
  refine lv_aload_n hx hb dX2_settle_19 rfl (lv_at hl 0 rfl) ?_
  have c28 : S26 95 = .inr (2, [.ref (ad 2), .ref (ad 96), .ref (ad 97), .ref (ad 98), .ref (ad 99), .ref (ad 100), .ref (ad 101), .int v19, .int v20]) := (up_ne eS26 (by decide) c22)
  refine xget E hQ 95 (by decide) c28 rfl 2 (by decide) q382 rfl dX2_settle_20 ?_
  refine lv_iload_n hx hb dX2_settle_23 rfl (lv_at hl 1 rfl) ?_
  refine lv_aload_n hx hb dX2_settle_24 rfl (lv_at hl 0 rfl) ?_
  refine xcVi E hs hQ hml hl.1 95 (gX2_runBeach_95 l g ad hD S26 hI ) mX2_runBeach q811 (by decide) c28 rfl rfl ⟨(Nat.le_of_ble_eq_true rfl), (Nat.le_of_ble_eq_true rfl)⟩ ⟨(Nat.le_of_ble_eq_true rfl), (Nat.le_of_ble_eq_true rfl)⟩ (Nat.le_of_ble_eq_true rfl) rfl dX2_settle_25 (fun r29 S29 H locs hp29 hQ _ => ?_)
  obtain ⟨rfl, b29⟩ := hp29
  obtain ⟨f30, c31⟩ := invX_97 hI
  refine xiast E hs hQ 97 (by decide) c31 (ib_in ba1 (by decide) (by decide)) dX2_settle_28 (fun H locs S33 eS33 hQ => ?_)
  have hI := invX_up_97 hI eS33 ⟨_, rfl⟩
  have c34 : S33 97 = .inl (g.2 0, 8, .inl (upd f30 (a1 : Int32).toNatClampNeg r29)) := up_at eS33 rfl
  exact xrv E hr hlk hQ (⟨hI, (up_o (up_o (o_trans o_refl o14 (by decide)) eS26 (by decide)) eS33 (by decide))⟩) dX2_settle_29
set_option maxHeartbeats 4000000 in
set_option maxRecDepth 100000 in
theorem gX2_settleAll_95 (l : Launch) (g : GG) (ad : Nat → Nat) (hD : Dj ad 122) (S : SS) (hI : InvX g ad S) (hq1 : 0 ≤ 1201 * fld (S 2) 1 + (-1) * fld (S 2) 0) (hq2 : 0 ≤ 8 * fld (S 2) 1 + (-1) * fld (S 2) 7) (hq3 : 0 ≤ 3 * fld (S 2) 1 + (-1) * fld (S 2) 12) : Met l yX2_settleAll (wG (.code yX2_settleAll cX2_settleAll 2 none)) (Rm 5) (XPre g ad 122 S [.ref (ad 95)]) (va_Qv (fun S' => InvX g ad S' ∧ (∀ j, j ∉ ([95, 96, 97, 98] : List Nat) → S' j = S j)) (QB g ad 122) (FA ad 122)) 0 0 (FA ad 122) := by
  refine xmet cX2_settleAll "EbbWreck$Drift" (by decide) rfl (Nat.le_of_ble_eq_true rfl) (fun p e s m below meth c E hr hlk hml hQ ls hl => ?_)
  have hx := E.1
  have hb := E.2.1
  have hs : Sp ad 122 (FA ad 122) := Sp.fa hD
  have hl : lv_has ls 2 [(0, .ref (ad 95))] := hl
  obtain ⟨v1, v3, v5, v6, v7, v9, c11, b2, b4, b8, b10⟩ := invX_2 hI
  have c11 : S 2 = .inr (1, [.int v1, .int v3, .int v5, .ref (ad 3), .ref (ad 5), .ref (ad 6), .int v6, .int v7, .ref (ad 7), .ref (ad 8), .ref (ad 9), .ref (ad 10), .int v9, .ref (ad 15), .ref (ad 16)]) := c11
  have q12 : fld (S 2) 1 = v3.toInt := fld_of c11 rfl
  have q13 : fld (S 2) 0 = v1.toInt := fld_of c11 rfl
  have q14 : fld (S 2) 7 = v7.toInt := fld_of c11 rfl
  have q15 : fld (S 2) 12 = v9.toInt := fld_of c11 rfl
  refine lv_iconst (v := 0) hx hb dX2_settleAll_0 (by decide) ?_
  refine lv_istore_n (lv' := [(1, .int 0), (0, .ref (ad 95))]) hx hb dX2_settleAll_1 rfl hl (by decide) rfl (fun ls hl => ?_)
  obtain ⟨v16, v17, c19, b18⟩ := invX_95 hI
  have c19 : S 95 = .inr (2, [.ref (ad 2), .ref (ad 96), .ref (ad 97), .ref (ad 98), .ref (ad 99), .ref (ad 100), .ref (ad 101), .int v16, .int v17]) := c19
  have loop2 : ∀ (n : Nat) (S_2 : SS) (H : Heap) (locs : List Loc) (ls : Array Slot) (x2_1 : Int32) (y2_95_7 : Int32) (y2_95_8 : Int32), Bd x2_1 (0) (8) → Bd y2_95_8 (0) (11) → (-1) * x2_1.toInt + 8 < ((n : Nat) : Int) → InvX g ad S_2 → (∀ j, j ∉ ([95, 96, 97, 98] : List Nat) → S_2 j = S j) → S_2 95 = .inr (2, [.ref (ad 2), .ref (ad 96), .ref (ad 97), .ref (ad 98), .ref (ad 99), .ref (ad 100), .ref (ad 101), .int y2_95_7, .int y2_95_8]) → Hp g ad 122 S_2 (FA ad 122) s.heap H locs → lv_has ls 2 [(1, .int x2_1), (0, .ref (ad 95))] → W p l e (Rm 5) s m [.ref (ad 95)].toArray below meth c H locs 0 0 (MQ below (va_Qv (fun S' => InvX g ad S' ∧ (∀ j, j ∉ ([95, 96, 97, 98] : List Nat) → S' j = S j)) (QB g ad 122) (FA ad 122)) [.ref (ad 95)].toArray s 0 0 (FA ad 122)) (F0 m 2 ls []) := by
    intro n
    induction n with
    | zero => intro S_2 H locs ls x2_1 y2_95_7 y2_95_8 Bx2_1 By2_95_8 hn2_ hI hf2 cl2_95 hQ hl; exfalso; have := (Bx2_1).2; omega
    | succ n2_ ih2 =>
      intro S_2 H locs ls x2_1 y2_95_7 y2_95_8 Bx2_1 By2_95_8 hn2_ hI hf2 cl2_95 hQ hl
      refine lv_iload_n hx hb dX2_settleAll_2 rfl (lv_at hl 0 rfl) ?_
      refine lv_aload_n hx hb dX2_settleAll_3 rfl (lv_at hl 1 rfl) ?_
      refine xget E hQ 95 (by decide) cl2_95 rfl 0 (by decide) q379 rfl dX2_settleAll_4 ?_
      have c20 : S_2 2 = .inr (1, [.int v1, .int v3, .int v5, .ref (ad 3), .ref (ad 5), .ref (ad 6), .int v6, .int v7, .ref (ad 7), .ref (ad 8), .ref (ad 9), .ref (ad 10), .int v9, .ref (ad 15), .ref (ad 16)]) := ((hf2 2 (by decide)).trans c11)
      refine xget E hQ 2 (by decide) c20 rfl 7 (by decide) q268 rfl dX2_settleAll_7 ?_
      refine lv_icmp_ge (tgt := 24) hx hb dX2_settleAll_10 (by decide) (fun k21 => ?_) (fun k21 => ?_)
      · have h22 := ib_le k21
        exact xrv E hr hlk hQ (⟨hI, (o_trans o_refl hf2 (by decide))⟩) dX2_settleAll_24
      · have h23 := ib_nle k21
        have b24 : Bd x2_1 (0) (7) := ⟨(Bx2_1).1, ((rf_lt Bx2_1 b8 h23).1).2⟩
        have b25 : Bd v7 (1) (8) := ⟨((rf_lt Bx2_1 b8 h23).2).1, (b8).2⟩
        refine lv_aload_n hx hb dX2_settleAll_13 rfl (lv_at hl 1 rfl) ?_
        refine lv_iload_n hx hb dX2_settleAll_14 rfl (lv_at hl 0 rfl) ?_
        have q26 : fld (S_2 2) 1 = v3.toInt := fld_of c20 rfl
        refine xcVv E hs hQ hml hl.1 95 (gX2_settle_95 l g ad hD S_2 hI x2_1 b24 (by omega)) mX2_settle q766 (by decide) cl2_95 rfl rfl ⟨(Nat.le_of_ble_eq_true rfl), (Nat.le_of_ble_eq_true rfl)⟩ ⟨(Nat.le_of_ble_eq_true rfl), (Nat.le_of_ble_eq_true rfl)⟩ (Nat.le_of_ble_eq_true rfl) rfl dX2_settleAll_15 (fun S27 H locs hp27 hQ _ => ?_)
        obtain ⟨hI, o27⟩ := hp27
        obtain ⟨z28, e29⟩ : ∃ z : Int32, z = x2_1 + 1 := ⟨_, rfl⟩
        have t30 := ib_add e29 b24 (by decide : Bd 1 (1) (1)) (by decide) (by decide)
        have b31 : Bd z28 (1) (8) := ib_addb t30 b24 (by decide : Bd 1 (1) (1))
        have t30 : z28.toInt = x2_1.toInt + 1 := fold_add t30 rfl (by decide)
        refine lv_iinc (v := z28) (lv' := [(1, .int z28), (0, .ref (ad 95))]) hx hb dX2_settleAll_18 hl (k := 0) rfl (by rw [e29]; rfl) (by decide) rfl (fun ls hl => ?_)
        refine lv_goto (tgt := 2) hx hb dX2_settleAll_21 (by decide) ?_
        obtain ⟨v32, v33, c35, b34⟩ := invX_95 hI
        have c35 : S27 95 = .inr (2, [.ref (ad 2), .ref (ad 96), .ref (ad 97), .ref (ad 98), .ref (ad 99), .ref (ad 100), .ref (ad 101), .int v32, .int v33]) := c35
        exact ih2 _ _ _ _ z28 v32 v33 (ib_wk b31 (by decide) (by decide)) b34 (by omega) hI (o_trans hf2 o27 (by decide)) c35 hQ (lv_sub hl [0, 1] rfl)
  obtain ⟨n2, hn2⟩ := fu_n (8)
  exact loop2 n2 _ _ _ _ 0 v16 v17 (ib_wk (by decide : Bd 0 (0) (0)) (by decide) (by decide)) b18 (by have : (0 : Int32).toInt = 0 := (by decide); omega) hI o_refl c19 hQ (lv_sub hl [0, 1] rfl)
set_option maxHeartbeats 4000000 in
set_option maxRecDepth 100000 in
theorem gX2_placeOf_95 (l : Launch) (g : GG) (ad : Nat → Nat) (hD : Dj ad 122) (S : SS) (hI : InvX g ad S) (a1 : Int32) (a2 : Int32) (ba1 : Bd a1 (0) (7)) (ba2 : Bd a2 (0) (400)) (hq1 : 0 ≤ fld (S 2) 1 + (-1)) : Met l yX2_placeOf (wG (.code yX2_placeOf cX2_placeOf 3 (some .int))) (Rm 4) (XPre g ad 122 S [.ref (ad 95), .int a1, .int a2]) (va_Qi (fun r S' => InvX g ad S' ∧ (∀ j, j ∉ ([95, 98] : List Nat) → S' j = S j) ∧ Bd r (-1) (11)) (QB g ad 122) (FA ad 122)) 0 0 (FA ad 122) := by
  refine xmet cX2_placeOf "EbbWreck$Drift" (by decide) rfl (Nat.le_of_ble_eq_true rfl) (fun p e s m below meth c E hr hlk hml hQ ls hl => ?_)
  have hx := E.1
  have hb := E.2.1
  have hs : Sp ad 122 (FA ad 122) := Sp.fa hD
  have hl : lv_has ls 3 [(0, .ref (ad 95)), (1, .int a1), (2, .int a2)] := hl
  obtain ⟨v1, v3, v5, v6, v7, v9, c11, b2, b4, b8, b10⟩ := invX_2 hI
  have c11 : S 2 = .inr (1, [.int v1, .int v3, .int v5, .ref (ad 3), .ref (ad 5), .ref (ad 6), .int v6, .int v7, .ref (ad 7), .ref (ad 8), .ref (ad 9), .ref (ad 10), .int v9, .ref (ad 15), .ref (ad 16)]) := c11
  have q12 : fld (S 2) 1 = v3.toInt := fld_of c11 rfl
  have b13 : Bd v3 (1) (12) := ⟨by omega, by omega⟩
  refine lv_iload_n hx hb dX2_placeOf_0 rfl (lv_at hl 2 rfl) ?_
  refine lv_aload_n hx hb dX2_placeOf_1 rfl (lv_at hl 0 rfl) ?_
  obtain ⟨v14, v15, c17, b16⟩ := invX_95 hI
  have c17 : S 95 = .inr (2, [.ref (ad 2), .ref (ad 96), .ref (ad 97), .ref (ad 98), .ref (ad 99), .ref (ad 100), .ref (ad 101), .int v14, .int v15]) := c17
  refine xget E hQ 95 (by decide) c17 rfl 0 (by decide) q379 rfl dX2_placeOf_2 ?_
  refine xget E hQ 2 (by decide) c11 rfl 10 (by decide) q286 rfl dX2_placeOf_5 ?_
  refine lv_iload_n hx hb dX2_placeOf_8 rfl (lv_at hl 1 rfl) ?_
  obtain ⟨f18, c19, b20⟩ := invX_9 hI
  refine xiald E hQ 9 (by decide) c19 (ib_in ba1 (by decide) (by decide)) dX2_placeOf_9 ?_
  refine lv_topi (fun z21 e22 => ?_)
  have b23 : Bd z21 (0) (99) := (by rw [e22]; exact b20 _)
  refine lv_icmp_ge (tgt := 15) hx hb dX2_placeOf_10 (by decide) (fun k24 => ?_) (fun k24 => ?_)
  · have h25 := ib_le k24
    refine lv_aload_n hx hb dX2_placeOf_15 rfl (lv_at hl 0 rfl) ?_
    refine lv_iload_n hx hb dX2_placeOf_16 rfl (lv_at hl 1 rfl) ?_
    refine lv_iload_n hx hb dX2_placeOf_17 rfl (lv_at hl 2 rfl) ?_
    refine lv_iconst (v := (-1)) hx hb dX2_placeOf_18 (by decide) ?_
    refine xcVv E hs hQ hml hl.1 95 (gX2_run_95 l g ad hD S hI a1 a2 (-1) ba1 ba2 (by omega)) mX2_run q770 (by decide) c17 rfl rfl ⟨(Nat.le_of_ble_eq_true rfl), (Nat.le_of_ble_eq_true rfl)⟩ ⟨(Nat.le_of_ble_eq_true rfl), (Nat.le_of_ble_eq_true rfl)⟩ (Nat.le_of_ble_eq_true rfl) rfl dX2_placeOf_19 (fun S26 H locs hp26 hQ _ => ?_)
    obtain ⟨hI, o26⟩ := hp26
    refine lv_aload_n hx hb dX2_placeOf_22 rfl (lv_at hl 0 rfl) ?_
    obtain ⟨v27, v28, c30, b29⟩ := invX_95 hI
    have c30 : S26 95 = .inr (2, [.ref (ad 2), .ref (ad 96), .ref (ad 97), .ref (ad 98), .ref (ad 99), .ref (ad 100), .ref (ad 101), .int v27, .int v28]) := c30
    refine xget E hQ 95 (by decide) c30 rfl 8 (by decide) q390 rfl dX2_placeOf_23 ?_
    exact xri E hr hlk hQ (⟨hI, (o_trans o_refl o26 (by decide)), (ib_wk b29 (by decide) (by decide))⟩) dX2_placeOf_26
  · have h31 := ib_nle k24
    have b32 : Bd a2 (0) (98) := ⟨(ba2).1, ((rf_lt ba2 b23 h31).1).2⟩
    have b33 : Bd z21 (1) (99) := ⟨((rf_lt ba2 b23 h31).2).1, (b23).2⟩
    refine lv_iconst (v := (-1)) hx hb dX2_placeOf_13 (by decide) ?_
    exact xri E hr hlk hQ (⟨hI, o_refl, (ib_wk (by decide : Bd (-1) (-1) (-1)) (by decide) (by decide))⟩) dX2_placeOf_14
set_option maxHeartbeats 4000000 in
set_option maxRecDepth 100000 in
theorem gX2_traceAfloat_95_99 (l : Launch) (g : GG) (ad : Nat → Nat) (hD : Dj ad 122) (S : SS) (hI : InvX g ad S) (a1 : Int32) (ba1 : Bd a1 (0) (7)) (hq1 : 0 ≤ fld (S 2) 1 + (-1)) : Met l yX2_traceAfloat (wG (.code yX2_traceAfloat cX2_traceAfloat 5 none)) (Rm 3) (XPre g ad 122 S [.ref (ad 95), .int a1, .ref (ad 99)]) (va_Qv (fun S' => InvX g ad S' ∧ (∀ j, j ∉ ([98, 99] : List Nat) → S' j = S j)) (QB g ad 122) (FA ad 122)) 0 0 (FA ad 122) := by
  refine xmet cX2_traceAfloat "EbbWreck$Drift" (by decide) rfl (Nat.le_of_ble_eq_true rfl) (fun p e s m below meth c E hr hlk hml hQ ls hl => ?_)
  have hx := E.1
  have hb := E.2.1
  have hs : Sp ad 122 (FA ad 122) := Sp.fa hD
  have hl : lv_has ls 5 [(0, .ref (ad 95)), (1, .int a1), (2, .ref (ad 99))] := hl
  obtain ⟨v1, v3, v5, v6, v7, v9, c11, b2, b4, b8, b10⟩ := invX_2 hI
  have c11 : S 2 = .inr (1, [.int v1, .int v3, .int v5, .ref (ad 3), .ref (ad 5), .ref (ad 6), .int v6, .int v7, .ref (ad 7), .ref (ad 8), .ref (ad 9), .ref (ad 10), .int v9, .ref (ad 15), .ref (ad 16)]) := c11
  have q12 : fld (S 2) 1 = v3.toInt := fld_of c11 rfl
  have b13 : Bd v3 (1) (12) := ⟨by omega, by omega⟩
  refine lv_aload_n hx hb dX2_traceAfloat_0 rfl (lv_at hl 2 rfl) ?_
  refine lv_iconst (v := (-1)) hx hb dX2_traceAfloat_1 (by decide) ?_
  obtain ⟨f14, c15⟩ := invX_99 hI
  refine xcSv E hs hQ hml hl.1 (uFillI l g ad 122 hD S 99 (by decide) 401 (by decide) f14 (-1) c15) mJ7_fill_53178 q996 rfl ⟨(Nat.le_of_ble_eq_true rfl), (Nat.le_of_ble_eq_true rfl)⟩ ⟨(Nat.le_of_ble_eq_true rfl), (Nat.le_of_ble_eq_true rfl)⟩ (Nat.le_of_ble_eq_true rfl) rfl dX2_traceAfloat_2 (fun S17 H locs eS17 hQ => ?_)
  have hI := invX_up_99 hI eS17 ⟨_, rfl⟩
  have c18 : S17 99 = .inl (g.2 0, 401, .inl (fillF (-1) 401 f14)) := up_at eS17 rfl
  refine lv_aload_n hx hb dX2_traceAfloat_5 rfl (lv_at hl 0 rfl) ?_
  refine lv_iload_n hx hb dX2_traceAfloat_6 rfl (lv_at hl 1 rfl) ?_
  obtain ⟨v20, v21, c23, b22⟩ := invX_95 hI
  have c23 : S17 95 = .inr (2, [.ref (ad 2), .ref (ad 96), .ref (ad 97), .ref (ad 98), .ref (ad 99), .ref (ad 100), .ref (ad 101), .int v20, .int v21]) := c23
  refine xcVv E hs hQ hml hl.1 95 (gX2_layWays_95 l g ad hD S17 hI a1) mX2_layWays q774 (by decide) c23 rfl rfl ⟨(Nat.le_of_ble_eq_true rfl), (Nat.le_of_ble_eq_true rfl)⟩ ⟨(Nat.le_of_ble_eq_true rfl), (Nat.le_of_ble_eq_true rfl)⟩ (Nat.le_of_ble_eq_true rfl) rfl dX2_traceAfloat_7 (fun S19 H locs hp19 hQ _ => ?_)
  obtain ⟨hI, o19⟩ := hp19
  refine lv_aload_n hx hb dX2_traceAfloat_10 rfl (lv_at hl 0 rfl) ?_
  have c24 : S19 95 = .inr (2, [.ref (ad 2), .ref (ad 96), .ref (ad 97), .ref (ad 98), .ref (ad 99), .ref (ad 100), .ref (ad 101), .int v20, .int v21]) := ((o19 95 (by decide)).trans c23)
  refine xget E hQ 95 (by decide) c24 rfl 0 (by decide) q379 rfl dX2_traceAfloat_11 ?_
  have c25 : S19 2 = .inr (1, [.int v1, .int v3, .int v5, .ref (ad 3), .ref (ad 5), .ref (ad 6), .int v6, .int v7, .ref (ad 7), .ref (ad 8), .ref (ad 9), .ref (ad 10), .int v9, .ref (ad 15), .ref (ad 16)]) := ((o19 2 (by decide)).trans (up_ne eS17 (by decide) c11))
  refine xget E hQ 2 (by decide) c25 rfl 9 (by decide) q281 rfl dX2_traceAfloat_14 ?_
  refine lv_iload_n hx hb dX2_traceAfloat_17 rfl (lv_at hl 1 rfl) ?_
  obtain ⟨f26, c27, b28⟩ := invX_8 hI
  refine xiald E hQ 8 (by decide) c27 (ib_in ba1 (by decide) (by decide)) dX2_traceAfloat_18 ?_
  refine lv_topi (fun z29 e30 => ?_)
  have b31 : Bd z29 (0) (11) := (by rw [e30]; exact b28 _)
  refine lv_istore_n (lv' := [(3, .int z29), (0, .ref (ad 95)), (1, .int a1), (2, .ref (ad 99))]) hx hb dX2_traceAfloat_19 rfl hl (by decide) rfl (fun ls hl => ?_)
  refine lv_aload_n hx hb dX2_traceAfloat_20 rfl (lv_at hl 1 rfl) ?_
  refine xget E hQ 95 (by decide) c24 rfl 0 (by decide) q379 rfl dX2_traceAfloat_21 ?_
  refine xget E hQ 2 (by decide) c25 rfl 10 (by decide) q286 rfl dX2_traceAfloat_24 ?_
  refine lv_iload_n hx hb dX2_traceAfloat_27 rfl (lv_at hl 2 rfl) ?_
  obtain ⟨f32, c33, b34⟩ := invX_9 hI
  refine xiald E hQ 9 (by decide) c33 (ib_in ba1 (by decide) (by decide)) dX2_traceAfloat_28 ?_
  refine lv_topi (fun z35 e36 => ?_)
  have b37 : Bd z35 (0) (99) := (by rw [e36]; exact b34 _)
  refine lv_istore (lv' := [(4, .int z35), (3, .int z29), (0, .ref (ad 95)), (1, .int a1), (2, .ref (ad 99))]) hx hb dX2_traceAfloat_29 hl (by decide) rfl (fun ls hl => ?_)
  have loop31 : ∀ (n : Nat) (S_31 : SS) (H : Heap) (locs : List Loc) (ls : Array Slot) (x31_3 : Int32) (x31_4 : Int32), Bd x31_3 (0) (11) → Bd x31_4 (0) (401) → (-1) * x31_4.toInt + 401 < ((n : Nat) : Int) → InvX g ad S_31 → (∀ j, j ∉ ([99] : List Nat) → S_31 j = S19 j) → Hp g ad 122 S_31 (FA ad 122) s.heap H locs → lv_has ls 5 [(4, .int x31_4), (3, .int x31_3), (0, .ref (ad 95)), (1, .int a1), (2, .ref (ad 99))] → W p l e (Rm 3) s m [.ref (ad 95), .int a1, .ref (ad 99)].toArray below meth c H locs 0 0 (MQ below (va_Qv (fun S' => InvX g ad S' ∧ (∀ j, j ∉ ([98, 99] : List Nat) → S' j = S j)) (QB g ad 122) (FA ad 122)) [.ref (ad 95), .int a1, .ref (ad 99)].toArray s 0 0 (FA ad 122)) (F0 m 31 ls []) := by
    intro n
    induction n with
    | zero => intro S_31 H locs ls x31_3 x31_4 Bx31_3 Bx31_4 hn31_ hI hf31 hQ hl; exfalso; have := (Bx31_4).2; omega
    | succ n31_ ih31 =>
      intro S_31 H locs ls x31_3 x31_4 Bx31_3 Bx31_4 hn31_ hI hf31 hQ hl
      refine lv_iload hx hb dX2_traceAfloat_31 (lv_at hl 0 rfl) ?_
      refine lv_sipush (v := 400) hx hb dX2_traceAfloat_33 (by decide) ?_
      refine lv_icmp_gt (tgt := 80) hx hb dX2_traceAfloat_36 (by decide) (fun k38 => ?_) (fun k38 => ?_)
      · have h39 := ib_lt k38
        have b40 : Bd x31_4 (401) (401) := ⟨((rf_lt (by decide : Bd 400 (400) (400)) Bx31_4 h39).2).1, (Bx31_4).2⟩
        exact xrv E hr hlk hQ (⟨hI, (o_trans (o_trans (up_o o_refl eS17 (by decide)) o19 (by decide)) hf31 (by decide))⟩) dX2_traceAfloat_80
      · have h41 := ib_nlt k38
        have b42 : Bd x31_4 (0) (400) := ⟨(Bx31_4).1, ((rf_le Bx31_4 (by decide : Bd 400 (400) (400)) h41).1).2⟩
        refine lv_aload_n hx hb dX2_traceAfloat_39 rfl (lv_at hl 4 rfl) ?_
        refine lv_iload hx hb dX2_traceAfloat_40 (lv_at hl 0 rfl) ?_
        refine lv_iload_n hx hb dX2_traceAfloat_42 rfl (lv_at hl 1 rfl) ?_
        obtain ⟨f43, c44⟩ := invX_99 hI
        refine xiast E hs hQ 99 (by decide) c44 (ib_in b42 (by decide) (by decide)) dX2_traceAfloat_43 (fun H locs S46 eS46 hQ => ?_)
        have hI := invX_up_99 hI eS46 ⟨_, rfl⟩
        have c47 : S46 99 = .inl (g.2 0, 401, .inl (upd f43 (x31_4 : Int32).toNatClampNeg x31_3)) := up_at eS46 rfl
        refine lv_aload_n hx hb dX2_traceAfloat_44 rfl (lv_at hl 2 rfl) ?_
        have c48 : S46 95 = .inr (2, [.ref (ad 2), .ref (ad 96), .ref (ad 97), .ref (ad 98), .ref (ad 99), .ref (ad 100), .ref (ad 101), .int v20, .int v21]) := (up_ne eS46 (by decide) ((hf31 95 (by decide)).trans c24))
        refine xget E hQ 95 (by decide) c48 rfl 0 (by decide) q379 rfl dX2_traceAfloat_45 ?_
        refine lv_iload_n hx hb dX2_traceAfloat_48 rfl (lv_at hl 1 rfl) ?_
        refine lv_aload_n hx hb dX2_traceAfloat_49 rfl (lv_at hl 2 rfl) ?_
        refine xget E hQ 95 (by decide) c48 rfl 3 (by decide) q384 rfl dX2_traceAfloat_50 ?_
        refine lv_iload hx hb dX2_traceAfloat_53 (lv_at hl 0 rfl) ?_
        obtain ⟨f49, c50, b51⟩ := invX_98 hI
        refine xbald E hQ 98 (by decide) c50 (ib_in b42 (by decide) (by decide)) dX2_traceAfloat_55 ?_
        refine lv_topi (fun z52 e53 => ?_)
        have b54 : Bd z52 (-128) (127) := (by rw [e53]; exact b51 _)
        refine lv_iload hx hb dX2_traceAfloat_56 (lv_at hl 0 rfl) ?_
        have c55 : S46 2 = .inr (1, [.int v1, .int v3, .int v5, .ref (ad 3), .ref (ad 5), .ref (ad 6), .int v6, .int v7, .ref (ad 7), .ref (ad 8), .ref (ad 9), .ref (ad 10), .int v9, .ref (ad 15), .ref (ad 16)]) := (up_ne eS46 (by decide) ((hf31 2 (by decide)).trans c25))
        have q56 : fld (S46 2) 1 = v3.toInt := fld_of c55 rfl
        refine xcVi E hs hQ hml hl.1 2 (gX1_pushedAndDrifted_2 l g ad hD S46 hI x31_3 z52 x31_4 (by omega)) mX1_pushedAndDrifted q794 (by decide) c55 rfl rfl ⟨(Nat.le_of_ble_eq_true rfl), (Nat.le_of_ble_eq_true rfl)⟩ ⟨(Nat.le_of_ble_eq_true rfl), (Nat.le_of_ble_eq_true rfl)⟩ (Nat.le_of_ble_eq_true rfl) rfl dX2_traceAfloat_58 (fun r57 S57 H locs hp57 hQ _ => ?_)
        obtain ⟨rfl, b57⟩ := hp57
        refine lv_istore_n (lv' := [(3, .int r57), (4, .int x31_4), (0, .ref (ad 95)), (1, .int a1), (2, .ref (ad 99))]) hx hb dX2_traceAfloat_61 rfl hl (by decide) rfl (fun ls hl => ?_)
        refine lv_aload_n hx hb dX2_traceAfloat_62 rfl (lv_at hl 2 rfl) ?_
        refine xget E hQ 95 (by decide) c48 rfl 0 (by decide) q379 rfl dX2_traceAfloat_63 ?_
        refine lv_iload_n hx hb dX2_traceAfloat_66 rfl (lv_at hl 0 rfl) ?_
        refine xcVi E hs hQ hml hl.1 2 (gX1_isBeach_2 l g ad hD S46 hI r57) mX1_isBeach q807 (by decide) c55 rfl rfl ⟨(Nat.le_of_ble_eq_true rfl), (Nat.le_of_ble_eq_true rfl)⟩ ⟨(Nat.le_of_ble_eq_true rfl), (Nat.le_of_ble_eq_true rfl)⟩ (Nat.le_of_ble_eq_true rfl) rfl dX2_traceAfloat_67 (fun r58 S58 H locs hp58 hQ _ => ?_)
        obtain ⟨rfl, b58⟩ := hp58
        refine lv_if_eq (tgt := 74) hx hb dX2_traceAfloat_70 (by decide) (fun k59 => ?_) (fun k59 => ?_)
        · have h60 := ib_eq k59
          have b61 : Bd r58 (0) (0) := ⟨(b58).1, ((rf_eq b58 (by decide : Bd 0 (0) (0)) h60).1).2⟩
          obtain ⟨z62, e63⟩ : ∃ z : Int32, z = x31_4 + 1 := ⟨_, rfl⟩
          have t64 := ib_add e63 b42 (by decide : Bd 1 (1) (1)) (by decide) (by decide)
          have b65 : Bd z62 (1) (401) := ib_addb t64 b42 (by decide : Bd 1 (1) (1))
          have t64 : z62.toInt = x31_4.toInt + 1 := fold_add t64 rfl (by decide)
          refine lv_iinc (v := z62) (lv' := [(4, .int z62), (3, .int r57), (0, .ref (ad 95)), (1, .int a1), (2, .ref (ad 99))]) hx hb dX2_traceAfloat_74 hl (k := 1) rfl (by rw [e63]; rfl) (by decide) rfl (fun ls hl => ?_)
          refine lv_goto (tgt := 31) hx hb dX2_traceAfloat_77 (by decide) ?_
          exact ih31 _ _ _ _ r57 z62 b57 (ib_wk b65 (by decide) (by decide)) (by omega) hI (up_o hf31 eS46 (by decide)) hQ (lv_sub hl [0, 1, 2, 3, 4] rfl)
        · have h66 := ib_ne k59
          have b67 : Bd r58 (1) (1) := rf_nlo b58 (by decide : Bd 0 (0) (0)) h66
          exact xrv E hr hlk hQ (⟨hI, (up_o (o_trans (o_trans (up_o o_refl eS17 (by decide)) o19 (by decide)) hf31 (by decide)) eS46 (by decide))⟩) dX2_traceAfloat_73
  obtain ⟨n31, hn31⟩ := fu_n ((-1) * z35.toInt + 401)
  exact loop31 n31 _ _ _ _ z29 z35 b31 (ib_wk b37 (by decide) (by decide)) (by omega) hI o_refl hQ (lv_sub hl [0, 1, 2, 3, 4] rfl)
set_option maxHeartbeats 4000000 in
set_option maxRecDepth 100000 in
theorem gX2_traceAfloat_95_100 (l : Launch) (g : GG) (ad : Nat → Nat) (hD : Dj ad 122) (S : SS) (hI : InvX g ad S) (a1 : Int32) (ba1 : Bd a1 (0) (7)) (hq1 : 0 ≤ fld (S 2) 1 + (-1)) : Met l yX2_traceAfloat (wG (.code yX2_traceAfloat cX2_traceAfloat 5 none)) (Rm 3) (XPre g ad 122 S [.ref (ad 95), .int a1, .ref (ad 100)]) (va_Qv (fun S' => InvX g ad S' ∧ (∀ j, j ∉ ([98, 100] : List Nat) → S' j = S j)) (QB g ad 122) (FA ad 122)) 0 0 (FA ad 122) := by
  refine xmet cX2_traceAfloat "EbbWreck$Drift" (by decide) rfl (Nat.le_of_ble_eq_true rfl) (fun p e s m below meth c E hr hlk hml hQ ls hl => ?_)
  have hx := E.1
  have hb := E.2.1
  have hs : Sp ad 122 (FA ad 122) := Sp.fa hD
  have hl : lv_has ls 5 [(0, .ref (ad 95)), (1, .int a1), (2, .ref (ad 100))] := hl
  obtain ⟨v1, v3, v5, v6, v7, v9, c11, b2, b4, b8, b10⟩ := invX_2 hI
  have c11 : S 2 = .inr (1, [.int v1, .int v3, .int v5, .ref (ad 3), .ref (ad 5), .ref (ad 6), .int v6, .int v7, .ref (ad 7), .ref (ad 8), .ref (ad 9), .ref (ad 10), .int v9, .ref (ad 15), .ref (ad 16)]) := c11
  have q12 : fld (S 2) 1 = v3.toInt := fld_of c11 rfl
  have b13 : Bd v3 (1) (12) := ⟨by omega, by omega⟩
  refine lv_aload_n hx hb dX2_traceAfloat_0 rfl (lv_at hl 2 rfl) ?_
  refine lv_iconst (v := (-1)) hx hb dX2_traceAfloat_1 (by decide) ?_
  obtain ⟨f14, c15⟩ := invX_100 hI
  refine xcSv E hs hQ hml hl.1 (uFillI l g ad 122 hD S 100 (by decide) 401 (by decide) f14 (-1) c15) mJ7_fill_53178 q996 rfl ⟨(Nat.le_of_ble_eq_true rfl), (Nat.le_of_ble_eq_true rfl)⟩ ⟨(Nat.le_of_ble_eq_true rfl), (Nat.le_of_ble_eq_true rfl)⟩ (Nat.le_of_ble_eq_true rfl) rfl dX2_traceAfloat_2 (fun S17 H locs eS17 hQ => ?_)
  have hI := invX_up_100 hI eS17 ⟨_, rfl⟩
  have c18 : S17 100 = .inl (g.2 0, 401, .inl (fillF (-1) 401 f14)) := up_at eS17 rfl
  refine lv_aload_n hx hb dX2_traceAfloat_5 rfl (lv_at hl 0 rfl) ?_
  refine lv_iload_n hx hb dX2_traceAfloat_6 rfl (lv_at hl 1 rfl) ?_
  obtain ⟨v20, v21, c23, b22⟩ := invX_95 hI
  have c23 : S17 95 = .inr (2, [.ref (ad 2), .ref (ad 96), .ref (ad 97), .ref (ad 98), .ref (ad 99), .ref (ad 100), .ref (ad 101), .int v20, .int v21]) := c23
  refine xcVv E hs hQ hml hl.1 95 (gX2_layWays_95 l g ad hD S17 hI a1) mX2_layWays q774 (by decide) c23 rfl rfl ⟨(Nat.le_of_ble_eq_true rfl), (Nat.le_of_ble_eq_true rfl)⟩ ⟨(Nat.le_of_ble_eq_true rfl), (Nat.le_of_ble_eq_true rfl)⟩ (Nat.le_of_ble_eq_true rfl) rfl dX2_traceAfloat_7 (fun S19 H locs hp19 hQ _ => ?_)
  obtain ⟨hI, o19⟩ := hp19
  refine lv_aload_n hx hb dX2_traceAfloat_10 rfl (lv_at hl 0 rfl) ?_
  have c24 : S19 95 = .inr (2, [.ref (ad 2), .ref (ad 96), .ref (ad 97), .ref (ad 98), .ref (ad 99), .ref (ad 100), .ref (ad 101), .int v20, .int v21]) := ((o19 95 (by decide)).trans c23)
  refine xget E hQ 95 (by decide) c24 rfl 0 (by decide) q379 rfl dX2_traceAfloat_11 ?_
  have c25 : S19 2 = .inr (1, [.int v1, .int v3, .int v5, .ref (ad 3), .ref (ad 5), .ref (ad 6), .int v6, .int v7, .ref (ad 7), .ref (ad 8), .ref (ad 9), .ref (ad 10), .int v9, .ref (ad 15), .ref (ad 16)]) := ((o19 2 (by decide)).trans (up_ne eS17 (by decide) c11))
  refine xget E hQ 2 (by decide) c25 rfl 9 (by decide) q281 rfl dX2_traceAfloat_14 ?_
  refine lv_iload_n hx hb dX2_traceAfloat_17 rfl (lv_at hl 1 rfl) ?_
  obtain ⟨f26, c27, b28⟩ := invX_8 hI
  refine xiald E hQ 8 (by decide) c27 (ib_in ba1 (by decide) (by decide)) dX2_traceAfloat_18 ?_
  refine lv_topi (fun z29 e30 => ?_)
  have b31 : Bd z29 (0) (11) := (by rw [e30]; exact b28 _)
  refine lv_istore_n (lv' := [(3, .int z29), (0, .ref (ad 95)), (1, .int a1), (2, .ref (ad 100))]) hx hb dX2_traceAfloat_19 rfl hl (by decide) rfl (fun ls hl => ?_)
  refine lv_aload_n hx hb dX2_traceAfloat_20 rfl (lv_at hl 1 rfl) ?_
  refine xget E hQ 95 (by decide) c24 rfl 0 (by decide) q379 rfl dX2_traceAfloat_21 ?_
  refine xget E hQ 2 (by decide) c25 rfl 10 (by decide) q286 rfl dX2_traceAfloat_24 ?_
  refine lv_iload_n hx hb dX2_traceAfloat_27 rfl (lv_at hl 2 rfl) ?_
  obtain ⟨f32, c33, b34⟩ := invX_9 hI
  refine xiald E hQ 9 (by decide) c33 (ib_in ba1 (by decide) (by decide)) dX2_traceAfloat_28 ?_
  refine lv_topi (fun z35 e36 => ?_)
  have b37 : Bd z35 (0) (99) := (by rw [e36]; exact b34 _)
  refine lv_istore (lv' := [(4, .int z35), (3, .int z29), (0, .ref (ad 95)), (1, .int a1), (2, .ref (ad 100))]) hx hb dX2_traceAfloat_29 hl (by decide) rfl (fun ls hl => ?_)
  have loop31 : ∀ (n : Nat) (S_31 : SS) (H : Heap) (locs : List Loc) (ls : Array Slot) (x31_3 : Int32) (x31_4 : Int32), Bd x31_3 (0) (11) → Bd x31_4 (0) (401) → (-1) * x31_4.toInt + 401 < ((n : Nat) : Int) → InvX g ad S_31 → (∀ j, j ∉ ([100] : List Nat) → S_31 j = S19 j) → Hp g ad 122 S_31 (FA ad 122) s.heap H locs → lv_has ls 5 [(4, .int x31_4), (3, .int x31_3), (0, .ref (ad 95)), (1, .int a1), (2, .ref (ad 100))] → W p l e (Rm 3) s m [.ref (ad 95), .int a1, .ref (ad 100)].toArray below meth c H locs 0 0 (MQ below (va_Qv (fun S' => InvX g ad S' ∧ (∀ j, j ∉ ([98, 100] : List Nat) → S' j = S j)) (QB g ad 122) (FA ad 122)) [.ref (ad 95), .int a1, .ref (ad 100)].toArray s 0 0 (FA ad 122)) (F0 m 31 ls []) := by
    intro n
    induction n with
    | zero => intro S_31 H locs ls x31_3 x31_4 Bx31_3 Bx31_4 hn31_ hI hf31 hQ hl; exfalso; have := (Bx31_4).2; omega
    | succ n31_ ih31 =>
      intro S_31 H locs ls x31_3 x31_4 Bx31_3 Bx31_4 hn31_ hI hf31 hQ hl
      refine lv_iload hx hb dX2_traceAfloat_31 (lv_at hl 0 rfl) ?_
      refine lv_sipush (v := 400) hx hb dX2_traceAfloat_33 (by decide) ?_
      refine lv_icmp_gt (tgt := 80) hx hb dX2_traceAfloat_36 (by decide) (fun k38 => ?_) (fun k38 => ?_)
      · have h39 := ib_lt k38
        have b40 : Bd x31_4 (401) (401) := ⟨((rf_lt (by decide : Bd 400 (400) (400)) Bx31_4 h39).2).1, (Bx31_4).2⟩
        exact xrv E hr hlk hQ (⟨hI, (o_trans (o_trans (up_o o_refl eS17 (by decide)) o19 (by decide)) hf31 (by decide))⟩) dX2_traceAfloat_80
      · have h41 := ib_nlt k38
        have b42 : Bd x31_4 (0) (400) := ⟨(Bx31_4).1, ((rf_le Bx31_4 (by decide : Bd 400 (400) (400)) h41).1).2⟩
        refine lv_aload_n hx hb dX2_traceAfloat_39 rfl (lv_at hl 4 rfl) ?_
        refine lv_iload hx hb dX2_traceAfloat_40 (lv_at hl 0 rfl) ?_
        refine lv_iload_n hx hb dX2_traceAfloat_42 rfl (lv_at hl 1 rfl) ?_
        obtain ⟨f43, c44⟩ := invX_100 hI
        refine xiast E hs hQ 100 (by decide) c44 (ib_in b42 (by decide) (by decide)) dX2_traceAfloat_43 (fun H locs S46 eS46 hQ => ?_)
        have hI := invX_up_100 hI eS46 ⟨_, rfl⟩
        have c47 : S46 100 = .inl (g.2 0, 401, .inl (upd f43 (x31_4 : Int32).toNatClampNeg x31_3)) := up_at eS46 rfl
        refine lv_aload_n hx hb dX2_traceAfloat_44 rfl (lv_at hl 2 rfl) ?_
        have c48 : S46 95 = .inr (2, [.ref (ad 2), .ref (ad 96), .ref (ad 97), .ref (ad 98), .ref (ad 99), .ref (ad 100), .ref (ad 101), .int v20, .int v21]) := (up_ne eS46 (by decide) ((hf31 95 (by decide)).trans c24))
        refine xget E hQ 95 (by decide) c48 rfl 0 (by decide) q379 rfl dX2_traceAfloat_45 ?_
        refine lv_iload_n hx hb dX2_traceAfloat_48 rfl (lv_at hl 1 rfl) ?_
        refine lv_aload_n hx hb dX2_traceAfloat_49 rfl (lv_at hl 2 rfl) ?_
        refine xget E hQ 95 (by decide) c48 rfl 3 (by decide) q384 rfl dX2_traceAfloat_50 ?_
        refine lv_iload hx hb dX2_traceAfloat_53 (lv_at hl 0 rfl) ?_
        obtain ⟨f49, c50, b51⟩ := invX_98 hI
        refine xbald E hQ 98 (by decide) c50 (ib_in b42 (by decide) (by decide)) dX2_traceAfloat_55 ?_
        refine lv_topi (fun z52 e53 => ?_)
        have b54 : Bd z52 (-128) (127) := (by rw [e53]; exact b51 _)
        refine lv_iload hx hb dX2_traceAfloat_56 (lv_at hl 0 rfl) ?_
        have c55 : S46 2 = .inr (1, [.int v1, .int v3, .int v5, .ref (ad 3), .ref (ad 5), .ref (ad 6), .int v6, .int v7, .ref (ad 7), .ref (ad 8), .ref (ad 9), .ref (ad 10), .int v9, .ref (ad 15), .ref (ad 16)]) := (up_ne eS46 (by decide) ((hf31 2 (by decide)).trans c25))
        have q56 : fld (S46 2) 1 = v3.toInt := fld_of c55 rfl
        refine xcVi E hs hQ hml hl.1 2 (gX1_pushedAndDrifted_2 l g ad hD S46 hI x31_3 z52 x31_4 (by omega)) mX1_pushedAndDrifted q794 (by decide) c55 rfl rfl ⟨(Nat.le_of_ble_eq_true rfl), (Nat.le_of_ble_eq_true rfl)⟩ ⟨(Nat.le_of_ble_eq_true rfl), (Nat.le_of_ble_eq_true rfl)⟩ (Nat.le_of_ble_eq_true rfl) rfl dX2_traceAfloat_58 (fun r57 S57 H locs hp57 hQ _ => ?_)
        obtain ⟨rfl, b57⟩ := hp57
        refine lv_istore_n (lv' := [(3, .int r57), (4, .int x31_4), (0, .ref (ad 95)), (1, .int a1), (2, .ref (ad 100))]) hx hb dX2_traceAfloat_61 rfl hl (by decide) rfl (fun ls hl => ?_)
        refine lv_aload_n hx hb dX2_traceAfloat_62 rfl (lv_at hl 2 rfl) ?_
        refine xget E hQ 95 (by decide) c48 rfl 0 (by decide) q379 rfl dX2_traceAfloat_63 ?_
        refine lv_iload_n hx hb dX2_traceAfloat_66 rfl (lv_at hl 0 rfl) ?_
        refine xcVi E hs hQ hml hl.1 2 (gX1_isBeach_2 l g ad hD S46 hI r57) mX1_isBeach q807 (by decide) c55 rfl rfl ⟨(Nat.le_of_ble_eq_true rfl), (Nat.le_of_ble_eq_true rfl)⟩ ⟨(Nat.le_of_ble_eq_true rfl), (Nat.le_of_ble_eq_true rfl)⟩ (Nat.le_of_ble_eq_true rfl) rfl dX2_traceAfloat_67 (fun r58 S58 H locs hp58 hQ _ => ?_)
        obtain ⟨rfl, b58⟩ := hp58
        refine lv_if_eq (tgt := 74) hx hb dX2_traceAfloat_70 (by decide) (fun k59 => ?_) (fun k59 => ?_)
        · have h60 := ib_eq k59
          have b61 : Bd r58 (0) (0) := ⟨(b58).1, ((rf_eq b58 (by decide : Bd 0 (0) (0)) h60).1).2⟩
          obtain ⟨z62, e63⟩ : ∃ z : Int32, z = x31_4 + 1 := ⟨_, rfl⟩
          have t64 := ib_add e63 b42 (by decide : Bd 1 (1) (1)) (by decide) (by decide)
          have b65 : Bd z62 (1) (401) := ib_addb t64 b42 (by decide : Bd 1 (1) (1))
          have t64 : z62.toInt = x31_4.toInt + 1 := fold_add t64 rfl (by decide)
          refine lv_iinc (v := z62) (lv' := [(4, .int z62), (3, .int r57), (0, .ref (ad 95)), (1, .int a1), (2, .ref (ad 100))]) hx hb dX2_traceAfloat_74 hl (k := 1) rfl (by rw [e63]; rfl) (by decide) rfl (fun ls hl => ?_)
          refine lv_goto (tgt := 31) hx hb dX2_traceAfloat_77 (by decide) ?_
          exact ih31 _ _ _ _ r57 z62 b57 (ib_wk b65 (by decide) (by decide)) (by omega) hI (up_o hf31 eS46 (by decide)) hQ (lv_sub hl [0, 1, 2, 3, 4] rfl)
        · have h66 := ib_ne k59
          have b67 : Bd r58 (1) (1) := rf_nlo b58 (by decide : Bd 0 (0) (0)) h66
          exact xrv E hr hlk hQ (⟨hI, (up_o (o_trans (o_trans (up_o o_refl eS17 (by decide)) o19 (by decide)) hf31 (by decide)) eS46 (by decide))⟩) dX2_traceAfloat_73
  obtain ⟨n31, hn31⟩ := fu_n ((-1) * z35.toInt + 401)
  exact loop31 n31 _ _ _ _ z29 z35 b31 (ib_wk b37 (by decide) (by decide)) (by omega) hI o_refl hQ (lv_sub hl [0, 1, 2, 3, 4] rfl)
set_option maxHeartbeats 4000000 in
set_option maxRecDepth 100000 in
theorem gX2_firstMeeting_95 (l : Launch) (g : GG) (ad : Nat → Nat) (hD : Dj ad 122) (S : SS) (hI : InvX g ad S) (a1 : Int32) (a2 : Int32) (ba1 : Bd a1 (0) (7)) (ba2 : Bd a2 (0) (7)) (hq1 : 0 ≤ fld (S 2) 1 + (-1)) : Met l yX2_firstMeeting (wG (.code yX2_firstMeeting cX2_firstMeeting 4 (some .int))) (Rm 4) (XPre g ad 122 S [.ref (ad 95), .int a1, .int a2]) (va_Qi (fun r S' => InvX g ad S' ∧ (∀ j, j ∉ ([98, 99, 100] : List Nat) → S' j = S j) ∧ Bd r (-1) (400)) (QB g ad 122) (FA ad 122)) 0 0 (FA ad 122) := by
  refine xmet cX2_firstMeeting "EbbWreck$Drift" (by decide) rfl (Nat.le_of_ble_eq_true rfl) (fun p e s m below meth c E hr hlk hml hQ ls hl => ?_)
  have hx := E.1
  have hb := E.2.1
  have hs : Sp ad 122 (FA ad 122) := Sp.fa hD
  have hl : lv_has ls 4 [(0, .ref (ad 95)), (1, .int a1), (2, .int a2)] := hl
  obtain ⟨v1, v3, v5, v6, v7, v9, c11, b2, b4, b8, b10⟩ := invX_2 hI
  have c11 : S 2 = .inr (1, [.int v1, .int v3, .int v5, .ref (ad 3), .ref (ad 5), .ref (ad 6), .int v6, .int v7, .ref (ad 7), .ref (ad 8), .ref (ad 9), .ref (ad 10), .int v9, .ref (ad 15), .ref (ad 16)]) := c11
  have q12 : fld (S 2) 1 = v3.toInt := fld_of c11 rfl
  have b13 : Bd v3 (1) (12) := ⟨by omega, by omega⟩
  refine lv_aload_n hx hb dX2_firstMeeting_0 rfl (lv_at hl 0 rfl) ?_
  refine lv_iload_n hx hb dX2_firstMeeting_1 rfl (lv_at hl 1 rfl) ?_
  refine lv_aload_n hx hb dX2_firstMeeting_2 rfl (lv_at hl 0 rfl) ?_
  obtain ⟨v14, v15, c17, b16⟩ := invX_95 hI
  have c17 : S 95 = .inr (2, [.ref (ad 2), .ref (ad 96), .ref (ad 97), .ref (ad 98), .ref (ad 99), .ref (ad 100), .ref (ad 101), .int v14, .int v15]) := c17
  refine xget E hQ 95 (by decide) c17 rfl 4 (by decide) q385 rfl dX2_firstMeeting_3 ?_
  refine xcVv E hs hQ hml hl.1 95 (gX2_traceAfloat_95_99 l g ad hD S hI a1 ba1 (by omega)) mX2_traceAfloat q992 (by decide) c17 rfl rfl ⟨(Nat.le_of_ble_eq_true rfl), (Nat.le_of_ble_eq_true rfl)⟩ ⟨(Nat.le_of_ble_eq_true rfl), (Nat.le_of_ble_eq_true rfl)⟩ (Nat.le_of_ble_eq_true rfl) rfl dX2_firstMeeting_6 (fun S18 H locs hp18 hQ _ => ?_)
  obtain ⟨hI, o18⟩ := hp18
  refine lv_aload_n hx hb dX2_firstMeeting_9 rfl (lv_at hl 0 rfl) ?_
  refine lv_iload_n hx hb dX2_firstMeeting_10 rfl (lv_at hl 2 rfl) ?_
  refine lv_aload_n hx hb dX2_firstMeeting_11 rfl (lv_at hl 0 rfl) ?_
  have c19 : S18 95 = .inr (2, [.ref (ad 2), .ref (ad 96), .ref (ad 97), .ref (ad 98), .ref (ad 99), .ref (ad 100), .ref (ad 101), .int v14, .int v15]) := ((o18 95 (by decide)).trans c17)
  refine xget E hQ 95 (by decide) c19 rfl 5 (by decide) q386 rfl dX2_firstMeeting_12 ?_
  have c20 : S18 2 = .inr (1, [.int v1, .int v3, .int v5, .ref (ad 3), .ref (ad 5), .ref (ad 6), .int v6, .int v7, .ref (ad 7), .ref (ad 8), .ref (ad 9), .ref (ad 10), .int v9, .ref (ad 15), .ref (ad 16)]) := ((o18 2 (by decide)).trans c11)
  have q21 : fld (S18 2) 1 = v3.toInt := fld_of c20 rfl
  refine xcVv E hs hQ hml hl.1 95 (gX2_traceAfloat_95_100 l g ad hD S18 hI a2 ba2 (by omega)) mX2_traceAfloat q992 (by decide) c19 rfl rfl ⟨(Nat.le_of_ble_eq_true rfl), (Nat.le_of_ble_eq_true rfl)⟩ ⟨(Nat.le_of_ble_eq_true rfl), (Nat.le_of_ble_eq_true rfl)⟩ (Nat.le_of_ble_eq_true rfl) rfl dX2_firstMeeting_15 (fun S22 H locs hp22 hQ _ => ?_)
  obtain ⟨hI, o22⟩ := hp22
  refine lv_iconst (v := 0) hx hb dX2_firstMeeting_18 (by decide) ?_
  refine lv_istore_n (lv' := [(3, .int 0), (0, .ref (ad 95)), (1, .int a1), (2, .int a2)]) hx hb dX2_firstMeeting_19 rfl hl (by decide) rfl (fun ls hl => ?_)
  have loop20 : ∀ (n : Nat) (H : Heap) (locs : List Loc) (ls : Array Slot) (x20_3 : Int32), Bd x20_3 (0) (401) → (-1) * x20_3.toInt + 401 < ((n : Nat) : Int) → Hp g ad 122 S22 (FA ad 122) s.heap H locs → lv_has ls 4 [(3, .int x20_3), (0, .ref (ad 95)), (1, .int a1), (2, .int a2)] → W p l e (Rm 4) s m [.ref (ad 95), .int a1, .int a2].toArray below meth c H locs 0 0 (MQ below (va_Qi (fun r S' => InvX g ad S' ∧ (∀ j, j ∉ ([98, 99, 100] : List Nat) → S' j = S j) ∧ Bd r (-1) (400)) (QB g ad 122) (FA ad 122)) [.ref (ad 95), .int a1, .int a2].toArray s 0 0 (FA ad 122)) (F0 m 20 ls []) := by
    intro n
    induction n with
    | zero => intro H locs ls x20_3 Bx20_3 hn20_ hQ hl; exfalso; have := (Bx20_3).2; omega
    | succ n20_ ih20 =>
      intro H locs ls x20_3 Bx20_3 hn20_ hQ hl
      refine lv_iload_n hx hb dX2_firstMeeting_20 rfl (lv_at hl 0 rfl) ?_
      refine lv_sipush (v := 400) hx hb dX2_firstMeeting_21 (by decide) ?_
      refine lv_icmp_gt (tgt := 60) hx hb dX2_firstMeeting_24 (by decide) (fun k23 => ?_) (fun k23 => ?_)
      · have h24 := ib_lt k23
        have b25 : Bd x20_3 (401) (401) := ⟨((rf_lt (by decide : Bd 400 (400) (400)) Bx20_3 h24).2).1, (Bx20_3).2⟩
        refine lv_iconst (v := (-1)) hx hb dX2_firstMeeting_60 (by decide) ?_
        exact xri E hr hlk hQ (⟨hI, (o_trans (o_trans o_refl o18 (by decide)) o22 (by decide)), (ib_wk (by decide : Bd (-1) (-1) (-1)) (by decide) (by decide))⟩) dX2_firstMeeting_61
      · have h26 := ib_nlt k23
        have b27 : Bd x20_3 (0) (400) := ⟨(Bx20_3).1, ((rf_le Bx20_3 (by decide : Bd 400 (400) (400)) h26).1).2⟩
        refine lv_aload_n hx hb dX2_firstMeeting_27 rfl (lv_at hl 1 rfl) ?_
        have c28 : S22 95 = .inr (2, [.ref (ad 2), .ref (ad 96), .ref (ad 97), .ref (ad 98), .ref (ad 99), .ref (ad 100), .ref (ad 101), .int v14, .int v15]) := ((o22 95 (by decide)).trans c19)
        refine xget E hQ 95 (by decide) c28 rfl 4 (by decide) q385 rfl dX2_firstMeeting_28 ?_
        refine lv_iload_n hx hb dX2_firstMeeting_31 rfl (lv_at hl 0 rfl) ?_
        obtain ⟨f29, c30⟩ := invX_99 hI
        refine xiald E hQ 99 (by decide) c30 (ib_in b27 (by decide) (by decide)) dX2_firstMeeting_32 ?_
        refine lv_topi (fun z32 e33 => ?_)
        refine lv_iconst (v := (-1)) hx hb dX2_firstMeeting_33 (by decide) ?_
        refine lv_icmp_eq (tgt := 54) hx hb dX2_firstMeeting_34 (by decide) (fun k34 => ?_) (fun k34 => ?_)
        · have h35 := ib_eq k34
          have b36 : Bd z32 (-1) (-1) := ⟨((rf_eq (ib_full z32) (by decide : Bd (-1) (-1) (-1)) h35).1).1, ((rf_eq (ib_full z32) (by decide : Bd (-1) (-1) (-1)) h35).1).2⟩
          obtain ⟨z37, e38⟩ : ∃ z : Int32, z = x20_3 + 1 := ⟨_, rfl⟩
          have t39 := ib_add e38 b27 (by decide : Bd 1 (1) (1)) (by decide) (by decide)
          have b40 : Bd z37 (1) (401) := ib_addb t39 b27 (by decide : Bd 1 (1) (1))
          have t39 : z37.toInt = x20_3.toInt + 1 := fold_add t39 rfl (by decide)
          refine lv_iinc (v := z37) (lv' := [(3, .int z37), (0, .ref (ad 95)), (1, .int a1), (2, .int a2)]) hx hb dX2_firstMeeting_54 hl (k := 0) rfl (by rw [e38]; rfl) (by decide) rfl (fun ls hl => ?_)
          refine lv_goto (tgt := 20) hx hb dX2_firstMeeting_57 (by decide) ?_
          exact ih20 _ _ _ z37 (ib_wk b40 (by decide) (by decide)) (by omega) hQ (lv_sub hl [0, 1, 2, 3] rfl)
        · have h41 := ib_ne k34
          refine lv_aload_n hx hb dX2_firstMeeting_37 rfl (lv_at hl 1 rfl) ?_
          refine xget E hQ 95 (by decide) c28 rfl 4 (by decide) q385 rfl dX2_firstMeeting_38 ?_
          refine lv_iload_n hx hb dX2_firstMeeting_41 rfl (lv_at hl 0 rfl) ?_
          refine xiald E hQ 99 (by decide) c30 (ib_in b27 (by decide) (by decide)) dX2_firstMeeting_42 ?_
          refine lv_topi (fun z42 e43 => ?_)
          have t44 : z42.toInt = z32.toInt := by rw [e43, e33]
          refine lv_aload_n hx hb dX2_firstMeeting_43 rfl (lv_at hl 1 rfl) ?_
          refine xget E hQ 95 (by decide) c28 rfl 5 (by decide) q386 rfl dX2_firstMeeting_44 ?_
          refine lv_iload_n hx hb dX2_firstMeeting_47 rfl (lv_at hl 0 rfl) ?_
          obtain ⟨f45, c46⟩ := invX_100 hI
          refine xiald E hQ 100 (by decide) c46 (ib_in b27 (by decide) (by decide)) dX2_firstMeeting_48 ?_
          refine lv_topi (fun z48 e49 => ?_)
          refine lv_icmp_ne (tgt := 54) hx hb dX2_firstMeeting_49 (by decide) (fun k50 => ?_) (fun k50 => ?_)
          · have h51 := ib_ne k50
            obtain ⟨z52, e53⟩ : ∃ z : Int32, z = x20_3 + 1 := ⟨_, rfl⟩
            have t54 := ib_add e53 b27 (by decide : Bd 1 (1) (1)) (by decide) (by decide)
            have b55 : Bd z52 (1) (401) := ib_addb t54 b27 (by decide : Bd 1 (1) (1))
            have t54 : z52.toInt = x20_3.toInt + 1 := fold_add t54 rfl (by decide)
            refine lv_iinc (v := z52) (lv' := [(3, .int z52), (0, .ref (ad 95)), (1, .int a1), (2, .int a2)]) hx hb dX2_firstMeeting_54 hl (k := 0) rfl (by rw [e53]; rfl) (by decide) rfl (fun ls hl => ?_)
            refine lv_goto (tgt := 20) hx hb dX2_firstMeeting_57 (by decide) ?_
            exact ih20 _ _ _ z52 (ib_wk b55 (by decide) (by decide)) (by omega) hQ (lv_sub hl [0, 1, 2, 3] rfl)
          · have h56 := ib_eq k50
            refine lv_iload_n hx hb dX2_firstMeeting_52 rfl (lv_at hl 0 rfl) ?_
            exact xri E hr hlk hQ (⟨hI, (o_trans (o_trans o_refl o18 (by decide)) o22 (by decide)), (ib_wk b27 (by decide) (by decide))⟩) dX2_firstMeeting_53
  obtain ⟨n20, hn20⟩ := fu_n (401)
  exact loop20 n20 _ _ _ 0 (ib_wk (by decide : Bd 0 (0) (0)) (by decide) (by decide)) (by have : (0 : Int32).toInt = 0 := (by decide); omega) hQ (lv_sub hl [0, 1, 2, 3] rfl)
set_option maxHeartbeats 4000000 in
set_option maxRecDepth 100000 in
theorem gX2_commonestBeach_95 (l : Launch) (g : GG) (ad : Nat → Nat) (hD : Dj ad 122) (S : SS) (hI : InvX g ad S) (a1 : Int32) (a2 : Int32) (a3 : Int32) (ba1 : Bd a1 (0) (7)) (hq1 : 0 ≤ fld (S 2) 1 + (-1)) : Met l yX2_commonestBeach (wG (.code yX2_commonestBeach cX2_commonestBeach 7 (some .int))) (Rm 4) (XPre g ad 122 S [.ref (ad 95), .int a1, .int a2, .int a3]) (va_Qi (fun r S' => InvX g ad S' ∧ (∀ j, j ∉ ([95, 98, 101] : List Nat) → S' j = S j) ∧ Bd r (-1) (11)) (QB g ad 122) (FA ad 122)) 0 0 (FA ad 122) := by
  refine xmet cX2_commonestBeach "EbbWreck$Drift" (by decide) rfl (Nat.le_of_ble_eq_true rfl) (fun p e s m below meth c E hr hlk hml hQ ls hl => ?_)
  have hx := E.1
  have hb := E.2.1
  have hs : Sp ad 122 (FA ad 122) := Sp.fa hD
  have hl : lv_has ls 7 [(0, .ref (ad 95)), (1, .int a1), (2, .int a2), (3, .int a3)] := hl
  obtain ⟨v1, v3, v5, v6, v7, v9, c11, b2, b4, b8, b10⟩ := invX_2 hI
  have c11 : S 2 = .inr (1, [.int v1, .int v3, .int v5, .ref (ad 3), .ref (ad 5), .ref (ad 6), .int v6, .int v7, .ref (ad 7), .ref (ad 8), .ref (ad 9), .ref (ad 10), .int v9, .ref (ad 15), .ref (ad 16)]) := c11
  have q12 : fld (S 2) 1 = v3.toInt := fld_of c11 rfl
  have b13 : Bd v3 (1) (12) := ⟨by omega, by omega⟩
  refine lv_aload_n hx hb dX2_commonestBeach_0 rfl (lv_at hl 0 rfl) ?_
  obtain ⟨v14, v15, c17, b16⟩ := invX_95 hI
  have c17 : S 95 = .inr (2, [.ref (ad 2), .ref (ad 96), .ref (ad 97), .ref (ad 98), .ref (ad 99), .ref (ad 100), .ref (ad 101), .int v14, .int v15]) := c17
  refine xget E hQ 95 (by decide) c17 rfl 6 (by decide) q387 rfl dX2_commonestBeach_1 ?_
  refine lv_iconst (v := 0) hx hb dX2_commonestBeach_4 (by decide) ?_
  obtain ⟨f18, c19⟩ := invX_101 hI
  refine xcSv E hs hQ hml hl.1 (uFillI l g ad 122 hD S 101 (by decide) 12 (by decide) f18 0 c19) mJ7_fill_53178 q996 rfl ⟨(Nat.le_of_ble_eq_true rfl), (Nat.le_of_ble_eq_true rfl)⟩ ⟨(Nat.le_of_ble_eq_true rfl), (Nat.le_of_ble_eq_true rfl)⟩ (Nat.le_of_ble_eq_true rfl) rfl dX2_commonestBeach_5 (fun S21 H locs eS21 hQ => ?_)
  have hI := invX_up_101 hI eS21 ⟨_, rfl⟩
  have c22 : S21 101 = .inl (g.2 0, 12, .inl (fillF 0 12 f18)) := up_at eS21 rfl
  refine lv_iconst (v := 0) hx hb dX2_commonestBeach_8 (by decide) ?_
  refine lv_istore (lv' := [(4, .int 0), (0, .ref (ad 95)), (1, .int a1), (2, .int a2), (3, .int a3)]) hx hb dX2_commonestBeach_9 hl (by decide) rfl (fun ls hl => ?_)
  have c23 : S21 95 = .inr (2, [.ref (ad 2), .ref (ad 96), .ref (ad 97), .ref (ad 98), .ref (ad 99), .ref (ad 100), .ref (ad 101), .int v14, .int v15]) := (up_ne eS21 (by decide) c17)
  have loop11 : ∀ (n : Nat) (S_11 : SS) (H : Heap) (locs : List Loc) (ls : Array Slot) (x11_4 : Int32) (y11_95_7 : Int32) (y11_95_8 : Int32), Bd x11_4 (0) (2147483647) → Bd y11_95_8 (0) (11) → (-1) * x11_4.toInt + 2147483647 < ((n : Nat) : Int) → InvX g ad S_11 → (∀ j, j ∉ ([95, 98, 101] : List Nat) → S_11 j = S21 j) → S_11 95 = .inr (2, [.ref (ad 2), .ref (ad 96), .ref (ad 97), .ref (ad 98), .ref (ad 99), .ref (ad 100), .ref (ad 101), .int y11_95_7, .int y11_95_8]) → Hp g ad 122 S_11 (FA ad 122) s.heap H locs → lv_has ls 7 [(4, .int x11_4), (0, .ref (ad 95)), (1, .int a1), (2, .int a2), (3, .int a3)] → W p l e (Rm 4) s m [.ref (ad 95), .int a1, .int a2, .int a3].toArray below meth c H locs 0 0 (MQ below (va_Qi (fun r S' => InvX g ad S' ∧ (∀ j, j ∉ ([95, 98, 101] : List Nat) → S' j = S j) ∧ Bd r (-1) (11)) (QB g ad 122) (FA ad 122)) [.ref (ad 95), .int a1, .int a2, .int a3].toArray s 0 0 (FA ad 122)) (F0 m 11 ls []) := by
    intro n
    induction n with
    | zero => intro S_11 H locs ls x11_4 y11_95_7 y11_95_8 Bx11_4 By11_95_8 hn11_ hI hf11 cl11_95 hQ hl; exfalso; have := (Bx11_4).2; omega
    | succ n11_ ih11 =>
      intro S_11 H locs ls x11_4 y11_95_7 y11_95_8 Bx11_4 By11_95_8 hn11_ hI hf11 cl11_95 hQ hl
      refine lv_iload hx hb dX2_commonestBeach_11 (lv_at hl 0 rfl) ?_
      refine lv_iload_n hx hb dX2_commonestBeach_13 rfl (lv_at hl 4 rfl) ?_
      refine lv_icmp_ge (tgt := 56) hx hb dX2_commonestBeach_14 (by decide) (fun k24 => ?_) (fun k24 => ?_)
      · have h25 := ib_le k24
        refine lv_iconst (v := (-1)) hx hb dX2_commonestBeach_56 (by decide) ?_
        refine lv_istore (lv' := [(4, .int (-1)), (0, .ref (ad 95)), (1, .int a1), (2, .int a2), (3, .int a3)]) hx hb dX2_commonestBeach_57 hl (by decide) rfl (fun ls hl => ?_)
        refine lv_iconst (v := 0) hx hb dX2_commonestBeach_59 (by decide) ?_
        refine lv_istore (lv' := [(5, .int 0), (4, .int (-1)), (0, .ref (ad 95)), (1, .int a1), (2, .int a2), (3, .int a3)]) hx hb dX2_commonestBeach_60 hl (by decide) rfl (fun ls hl => ?_)
        refine lv_iconst (v := 0) hx hb dX2_commonestBeach_62 (by decide) ?_
        refine lv_istore (lv' := [(6, .int 0), (5, .int 0), (4, .int (-1)), (0, .ref (ad 95)), (1, .int a1), (2, .int a2), (3, .int a3)]) hx hb dX2_commonestBeach_63 hl (by decide) rfl (fun ls hl => ?_)
        have loop65 : ∀ (n : Nat) (H : Heap) (locs : List Loc) (ls : Array Slot) (x65_4 : Int32) (x65_5 : Int32) (x65_6 : Int32), Bd x65_4 (-1) (11) → Bd x65_5 (0) (2147483647) → Bd x65_6 (0) (12) → (-1) * x65_6.toInt + 12 < ((n : Nat) : Int) → Hp g ad 122 S_11 (FA ad 122) s.heap H locs → lv_has ls 7 [(6, .int x65_6), (5, .int x65_5), (4, .int x65_4), (0, .ref (ad 95)), (1, .int a1), (2, .int a2), (3, .int a3)] → W p l e (Rm 4) s m [.ref (ad 95), .int a1, .int a2, .int a3].toArray below meth c H locs 0 0 (MQ below (va_Qi (fun r S' => InvX g ad S' ∧ (∀ j, j ∉ ([95, 98, 101] : List Nat) → S' j = S j) ∧ Bd r (-1) (11)) (QB g ad 122) (FA ad 122)) [.ref (ad 95), .int a1, .int a2, .int a3].toArray s 0 0 (FA ad 122)) (F0 m 65 ls []) := by
          intro n
          induction n with
          | zero => intro H locs ls x65_4 x65_5 x65_6 Bx65_4 Bx65_5 Bx65_6 hn65_ hQ hl; exfalso; have := (Bx65_6).2; omega
          | succ n65_ ih65 =>
            intro H locs ls x65_4 x65_5 x65_6 Bx65_4 Bx65_5 Bx65_6 hn65_ hQ hl
            refine lv_iload hx hb dX2_commonestBeach_65 (lv_at hl 0 rfl) ?_
            refine lv_aload_n hx hb dX2_commonestBeach_67 rfl (lv_at hl 3 rfl) ?_
            refine xget E hQ 95 (by decide) cl11_95 rfl 0 (by decide) q379 rfl dX2_commonestBeach_68 ?_
            have c26 : S_11 2 = .inr (1, [.int v1, .int v3, .int v5, .ref (ad 3), .ref (ad 5), .ref (ad 6), .int v6, .int v7, .ref (ad 7), .ref (ad 8), .ref (ad 9), .ref (ad 10), .int v9, .ref (ad 15), .ref (ad 16)]) := ((hf11 2 (by decide)).trans (up_ne eS21 (by decide) c11))
            refine xget E hQ 2 (by decide) c26 rfl 1 (by decide) q246 rfl dX2_commonestBeach_71 ?_
            refine lv_icmp_ge (tgt := 108) hx hb dX2_commonestBeach_74 (by decide) (fun k27 => ?_) (fun k27 => ?_)
            · have h28 := ib_le k27
              have b29 : Bd x65_6 (1) (12) := ⟨((rf_le b13 Bx65_6 h28).2).1, (Bx65_6).2⟩
              refine lv_iload hx hb dX2_commonestBeach_108 (lv_at hl 2 rfl) ?_
              exact xri E hr hlk hQ (⟨hI, (o_trans (up_o o_refl eS21 (by decide)) hf11 (by decide)), Bx65_4⟩) dX2_commonestBeach_110
            · have h30 := ib_nle k27
              have b31 : Bd x65_6 (0) (11) := ⟨(Bx65_6).1, ((rf_lt Bx65_6 b13 h30).1).2⟩
              refine lv_aload_n hx hb dX2_commonestBeach_77 rfl (lv_at hl 3 rfl) ?_
              refine xget E hQ 95 (by decide) cl11_95 rfl 6 (by decide) q387 rfl dX2_commonestBeach_78 ?_
              refine lv_iload hx hb dX2_commonestBeach_81 (lv_at hl 0 rfl) ?_
              obtain ⟨f32, c33⟩ := invX_101 hI
              refine xiald E hQ 101 (by decide) c33 (ib_in b31 (by decide) (by decide)) dX2_commonestBeach_83 ?_
              refine lv_topi (fun z35 e36 => ?_)
              refine lv_iload hx hb dX2_commonestBeach_84 (lv_at hl 1 rfl) ?_
              refine lv_icmp_le (tgt := 102) hx hb dX2_commonestBeach_86 (by decide) (fun k37 => ?_) (fun k37 => ?_)
              · have h38 := ib_le k37
                obtain ⟨z39, e40⟩ : ∃ z : Int32, z = x65_6 + 1 := ⟨_, rfl⟩
                have t41 := ib_add e40 b31 (by decide : Bd 1 (1) (1)) (by decide) (by decide)
                have b42 : Bd z39 (1) (12) := ib_addb t41 b31 (by decide : Bd 1 (1) (1))
                have t41 : z39.toInt = x65_6.toInt + 1 := fold_add t41 rfl (by decide)
                refine lv_iinc (v := z39) (lv' := [(6, .int z39), (5, .int x65_5), (4, .int x65_4), (0, .ref (ad 95)), (1, .int a1), (2, .int a2), (3, .int a3)]) hx hb dX2_commonestBeach_102 hl (k := 0) rfl (by rw [e40]; rfl) (by decide) rfl (fun ls hl => ?_)
                refine lv_goto (tgt := 65) hx hb dX2_commonestBeach_105 (by decide) ?_
                exact ih65 _ _ _ x65_4 x65_5 z39 Bx65_4 Bx65_5 (ib_wk b42 (by decide) (by decide)) (by omega) hQ (lv_sub hl [0, 1, 2, 3, 4, 5, 6] rfl)
              · have h43 := ib_nle k37
                have b44 : Bd x65_5 (0) (2147483646) := ⟨(Bx65_5).1, ((rf_lt Bx65_5 (ib_full z35) h43).1).2⟩
                have b45 : Bd z35 (1) (2147483647) := ⟨((rf_lt Bx65_5 (ib_full z35) h43).2).1, ((ib_full z35)).2⟩
                refine lv_aload_n hx hb dX2_commonestBeach_89 rfl (lv_at hl 3 rfl) ?_
                refine xget E hQ 95 (by decide) cl11_95 rfl 6 (by decide) q387 rfl dX2_commonestBeach_90 ?_
                refine lv_iload hx hb dX2_commonestBeach_93 (lv_at hl 0 rfl) ?_
                refine xiald E hQ 101 (by decide) c33 (ib_in b31 (by decide) (by decide)) dX2_commonestBeach_95 ?_
                refine lv_topi (fun z46 e47 => ?_)
                have t48 : z46.toInt = z35.toInt := by rw [e47, e36]
                have b49 : Bd z46 (1) (2147483647) := (by rw [Bd, t48]; exact b45)
                refine lv_istore (lv' := [(5, .int z46), (6, .int x65_6), (4, .int x65_4), (0, .ref (ad 95)), (1, .int a1), (2, .int a2), (3, .int a3)]) hx hb dX2_commonestBeach_96 hl (by decide) rfl (fun ls hl => ?_)
                refine lv_iload hx hb dX2_commonestBeach_98 (lv_at hl 1 rfl) ?_
                refine lv_istore (lv' := [(4, .int x65_6), (5, .int z46), (6, .int x65_6), (0, .ref (ad 95)), (1, .int a1), (2, .int a2), (3, .int a3)]) hx hb dX2_commonestBeach_100 hl (by decide) rfl (fun ls hl => ?_)
                obtain ⟨z50, e51⟩ : ∃ z : Int32, z = x65_6 + 1 := ⟨_, rfl⟩
                have t52 := ib_add e51 b31 (by decide : Bd 1 (1) (1)) (by decide) (by decide)
                have b53 : Bd z50 (1) (12) := ib_addb t52 b31 (by decide : Bd 1 (1) (1))
                have t52 : z50.toInt = x65_6.toInt + 1 := fold_add t52 rfl (by decide)
                refine lv_iinc (v := z50) (lv' := [(6, .int z50), (4, .int x65_6), (5, .int z46), (0, .ref (ad 95)), (1, .int a1), (2, .int a2), (3, .int a3)]) hx hb dX2_commonestBeach_102 hl (k := 2) rfl (by rw [e51]; rfl) (by decide) rfl (fun ls hl => ?_)
                refine lv_goto (tgt := 65) hx hb dX2_commonestBeach_105 (by decide) ?_
                exact ih65 _ _ _ x65_6 z46 z50 (ib_wk b31 (by decide) (by decide)) (ib_wk b49 (by decide) (by decide)) (ib_wk b53 (by decide) (by decide)) (by omega) hQ (lv_sub hl [0, 2, 1, 3, 4, 5, 6] rfl)
        obtain ⟨n65, hn65⟩ := fu_n (12)
        exact loop65 n65 _ _ _ (-1) 0 0 (ib_wk (by decide : Bd (-1) (-1) (-1)) (by decide) (by decide)) (ib_wk (by decide : Bd 0 (0) (0)) (by decide) (by decide)) (ib_wk (by decide : Bd 0 (0) (0)) (by decide) (by decide)) (by have : ((-1) : Int32).toInt = (-1) := (by decide); have : (0 : Int32).toInt = 0 := (by decide); omega) hQ (lv_sub hl [0, 1, 2, 3, 4, 5, 6] rfl)
      · have h54 := ib_nle k24
        have b55 : Bd x11_4 (0) (2147483646) := ⟨(Bx11_4).1, ((rf_lt Bx11_4 (ib_full a3) h54).1).2⟩
        have b56 : Bd a3 (1) (2147483647) := ⟨((rf_lt Bx11_4 (ib_full a3) h54).2).1, ((ib_full a3)).2⟩
        refine lv_aload_n hx hb dX2_commonestBeach_17 rfl (lv_at hl 1 rfl) ?_
        refine lv_iload_n hx hb dX2_commonestBeach_18 rfl (lv_at hl 2 rfl) ?_
        refine lv_sipush (v := 400) hx hb dX2_commonestBeach_19 (by decide) ?_
        refine lv_iload_n hx hb dX2_commonestBeach_22 rfl (lv_at hl 3 rfl) ?_
        refine lv_iload hx hb dX2_commonestBeach_23 (lv_at hl 0 rfl) ?_
        refine lv_iadd hx hb dX2_commonestBeach_25 ?_
        refine lv_topi (fun z57 e58 => ?_)
        have c59 : S_11 2 = .inr (1, [.int v1, .int v3, .int v5, .ref (ad 3), .ref (ad 5), .ref (ad 6), .int v6, .int v7, .ref (ad 7), .ref (ad 8), .ref (ad 9), .ref (ad 10), .int v9, .ref (ad 15), .ref (ad 16)]) := ((hf11 2 (by decide)).trans (up_ne eS21 (by decide) c11))
        have q60 : fld (S_11 2) 1 = v3.toInt := fld_of c59 rfl
        refine xcVv E hs hQ hml hl.1 95 (gX2_run_95 l g ad hD S_11 hI a1 400 z57 ba1 (ib_wk (by decide : Bd 400 (400) (400)) (by decide) (by decide)) (by omega)) mX2_run q770 (by decide) cl11_95 rfl rfl ⟨(Nat.le_of_ble_eq_true rfl), (Nat.le_of_ble_eq_true rfl)⟩ ⟨(Nat.le_of_ble_eq_true rfl), (Nat.le_of_ble_eq_true rfl)⟩ (Nat.le_of_ble_eq_true rfl) rfl dX2_commonestBeach_26 (fun S61 H locs hp61 hQ _ => ?_)
        obtain ⟨hI, o61⟩ := hp61
        refine lv_aload_n hx hb dX2_commonestBeach_29 rfl (lv_at hl 1 rfl) ?_
        obtain ⟨v62, v63, c65, b64⟩ := invX_95 hI
        have c65 : S61 95 = .inr (2, [.ref (ad 2), .ref (ad 96), .ref (ad 97), .ref (ad 98), .ref (ad 99), .ref (ad 100), .ref (ad 101), .int v62, .int v63]) := c65
        refine xget E hQ 95 (by decide) c65 rfl 7 (by decide) q388 rfl dX2_commonestBeach_30 ?_
        refine lv_iconst (v := (-1)) hx hb dX2_commonestBeach_33 (by decide) ?_
        refine lv_icmp_eq (tgt := 50) hx hb dX2_commonestBeach_34 (by decide) (fun k66 => ?_) (fun k66 => ?_)
        · have h67 := ib_eq k66
          have b68 : Bd v62 (-1) (-1) := ⟨((rf_eq (ib_full v62) (by decide : Bd (-1) (-1) (-1)) h67).1).1, ((rf_eq (ib_full v62) (by decide : Bd (-1) (-1) (-1)) h67).1).2⟩
          obtain ⟨z69, e70⟩ : ∃ z : Int32, z = x11_4 + 1 := ⟨_, rfl⟩
          have t71 := ib_add e70 b55 (by decide : Bd 1 (1) (1)) (by decide) (by decide)
          have b72 : Bd z69 (1) (2147483647) := ib_addb t71 b55 (by decide : Bd 1 (1) (1))
          have t71 : z69.toInt = x11_4.toInt + 1 := fold_add t71 rfl (by decide)
          refine lv_iinc (v := z69) (lv' := [(4, .int z69), (0, .ref (ad 95)), (1, .int a1), (2, .int a2), (3, .int a3)]) hx hb dX2_commonestBeach_50 hl (k := 0) rfl (by rw [e70]; rfl) (by decide) rfl (fun ls hl => ?_)
          refine lv_goto (tgt := 11) hx hb dX2_commonestBeach_53 (by decide) ?_
          exact ih11 _ _ _ _ z69 v62 v63 (ib_wk b72 (by decide) (by decide)) b64 (by omega) hI (o_trans hf11 o61 (by decide)) c65 hQ (lv_sub hl [0, 1, 2, 3, 4] rfl)
        · have h73 := ib_ne k66
          refine lv_aload_n hx hb dX2_commonestBeach_37 rfl (lv_at hl 1 rfl) ?_
          refine xget E hQ 95 (by decide) c65 rfl 6 (by decide) q387 rfl dX2_commonestBeach_38 ?_
          refine lv_aload_n hx hb dX2_commonestBeach_41 rfl (lv_at hl 1 rfl) ?_
          refine xget E hQ 95 (by decide) c65 rfl 8 (by decide) q390 rfl dX2_commonestBeach_42 ?_
          refine lv_dup2_11 hx hb dX2_commonestBeach_45 rfl rfl ?_
          obtain ⟨f74, c75⟩ := invX_101 hI
          refine xiald E hQ 101 (by decide) c75 (ib_in b64 (by decide) (by decide)) dX2_commonestBeach_46 ?_
          refine lv_topi (fun z77 e78 => ?_)
          refine lv_iconst (v := 1) hx hb dX2_commonestBeach_47 (by decide) ?_
          refine lv_iadd hx hb dX2_commonestBeach_48 ?_
          refine lv_topi (fun z79 e80 => ?_)
          refine xiast E hs hQ 101 (by decide) c75 (ib_in b64 (by decide) (by decide)) dX2_commonestBeach_49 (fun H locs S81 eS81 hQ => ?_)
          have hI := invX_up_101 hI eS81 ⟨_, rfl⟩
          have c82 : S81 101 = .inl (g.2 0, 12, .inl (upd f74 (v63 : Int32).toNatClampNeg z79)) := up_at eS81 rfl
          obtain ⟨z83, e84⟩ : ∃ z : Int32, z = x11_4 + 1 := ⟨_, rfl⟩
          have t85 := ib_add e84 b55 (by decide : Bd 1 (1) (1)) (by decide) (by decide)
          have b86 : Bd z83 (1) (2147483647) := ib_addb t85 b55 (by decide : Bd 1 (1) (1))
          have t85 : z83.toInt = x11_4.toInt + 1 := fold_add t85 rfl (by decide)
          refine lv_iinc (v := z83) (lv' := [(4, .int z83), (0, .ref (ad 95)), (1, .int a1), (2, .int a2), (3, .int a3)]) hx hb dX2_commonestBeach_50 hl (k := 0) rfl (by rw [e84]; rfl) (by decide) rfl (fun ls hl => ?_)
          refine lv_goto (tgt := 11) hx hb dX2_commonestBeach_53 (by decide) ?_
          have c87 : S81 95 = .inr (2, [.ref (ad 2), .ref (ad 96), .ref (ad 97), .ref (ad 98), .ref (ad 99), .ref (ad 100), .ref (ad 101), .int v62, .int v63]) := (up_ne eS81 (by decide) c65)
          exact ih11 _ _ _ _ z83 v62 v63 (ib_wk b86 (by decide) (by decide)) b64 (by omega) hI (up_o (o_trans hf11 o61 (by decide)) eS81 (by decide)) c87 hQ (lv_sub hl [0, 1, 2, 3, 4] rfl)
  obtain ⟨n11, hn11⟩ := fu_n (2147483647)
  exact loop11 n11 _ _ _ _ 0 v14 v15 (ib_wk (by decide : Bd 0 (0) (0)) (by decide) (by decide)) b16 (by have : (0 : Int32).toInt = 0 := (by decide); omega) hI o_refl c23 hQ (lv_sub hl [0, 1, 2, 3, 4] rfl)
set_option maxHeartbeats 4000000 in
set_option maxRecDepth 100000 in
theorem gX11_at_0 (l : Launch) (g : GG) (ad : Nat → Nat) (hD : Dj ad 122) (S : SS) (hI : InvX g ad S) (a1 : Int32) (a2 : Int32) (hq1 : 0 ≤ 1201 * fld (S 2) 1 + (-1) * fld (S 2) 0) (hq2 : 0 ≤ 8 * fld (S 2) 1 + (-1) * fld (S 2) 7) (hq3 : 0 ≤ 3 * fld (S 2) 1 + (-1) * fld (S 2) 12) : Met l yX11_at (wG (.code yX11_at cX11_at 3 (some .int))) (Rm 5) (XPre g ad 122 S [.ref (ad 0), .int a1, .int a2]) (va_Qi (fun r S' => InvX g ad S' ∧ (∀ j, j ∉ ([95, 98] : List Nat) → S' j = S j) ∧ Bd r (-2) (11)) (QB g ad 122) (FA ad 122)) 0 0 (FA ad 122) := by
  refine xmet cX11_at "EbbWreck" (by decide) rfl (Nat.le_of_ble_eq_true rfl) (fun p e s m below meth c E hr hlk hml hQ ls hl => ?_)
  have hx := E.1
  have hb := E.2.1
  have hs : Sp ad 122 (FA ad 122) := Sp.fa hD
  have hl : lv_has ls 3 [(0, .ref (ad 0)), (1, .int a1), (2, .int a2)] := hl
  obtain ⟨v1, v3, v5, v6, v7, v9, c11, b2, b4, b8, b10⟩ := invX_2 hI
  have c11 : S 2 = .inr (1, [.int v1, .int v3, .int v5, .ref (ad 3), .ref (ad 5), .ref (ad 6), .int v6, .int v7, .ref (ad 7), .ref (ad 8), .ref (ad 9), .ref (ad 10), .int v9, .ref (ad 15), .ref (ad 16)]) := c11
  have q12 : fld (S 2) 1 = v3.toInt := fld_of c11 rfl
  have q13 : fld (S 2) 0 = v1.toInt := fld_of c11 rfl
  have q14 : fld (S 2) 7 = v7.toInt := fld_of c11 rfl
  have q15 : fld (S 2) 12 = v9.toInt := fld_of c11 rfl
  refine lv_aload_n hx hb dX11_at_0 rfl (lv_at hl 0 rfl) ?_
  obtain ⟨v16, v18, v19, c20, b17⟩ := invX_0 hI
  have c20 : S 0 = .inr (11, [.ref (ad 1), .int v16, .int v18, .int v19, .ref (ad 2), .ref (ad 20), .ref (ad 38), .ref (ad 93), .ref (ad 94), .ref (ad 95), .ref (ad 102), .ref (ad 104), .ref (ad 107), .ref (ad 111), .ref (ad 119)]) := c20
  refine xget E hQ 0 (by decide) c20 rfl 4 (by decide) q520 rfl dX11_at_1 ?_
  refine lv_iload_n hx hb dX11_at_4 rfl (lv_at hl 1 rfl) ?_
  refine xcVi E hs hQ hml hl.1 2 (gX1_hasThing_2 l g ad hD S hI a1) mX1_hasThing q832 (by decide) c11 rfl rfl ⟨(Nat.le_of_ble_eq_true rfl), (Nat.le_of_ble_eq_true rfl)⟩ ⟨(Nat.le_of_ble_eq_true rfl), (Nat.le_of_ble_eq_true rfl)⟩ (Nat.le_of_ble_eq_true rfl) rfl dX11_at_5 (fun r21 S21 H locs hp21 hQ _ => ?_)
  obtain ⟨rfl, b21, g21_0⟩ := hp21
  refine lv_if_eq (tgt := 21) hx hb dX11_at_8 (by decide) (fun k22 => ?_) (fun k22 => ?_)
  · have h23 := ib_eq k22
    have b24 : Bd r21 (0) (0) := ⟨(b21).1, ((rf_eq b21 (by decide : Bd 0 (0) (0)) h23).1).2⟩
    clear g21_0
    refine lv_bipush (v := (-2)) hx hb dX11_at_21 (by decide) ?_
    exact xri E hr hlk hQ (⟨hI, o_refl, (ib_wk (by decide : Bd (-2) (-2) (-2)) (by decide) (by decide))⟩) dX11_at_23
  · have h25 := ib_ne k22
    have b26 : Bd r21 (1) (1) := rf_nlo b21 (by decide : Bd 0 (0) (0)) h25
    have g27 := g21_0.resolve_left (by omega)
    clear g21_0
    have b28 : Bd a1 (0) (7) := ⟨by omega, by omega⟩
    have b29 : Bd v7 (1) (8) := ⟨by omega, by omega⟩
    refine lv_iload_n hx hb dX11_at_11 rfl (lv_at hl 2 rfl) ?_
    refine lv_sipush (v := 400) hx hb dX11_at_12 (by decide) ?_
    refine xcSi E hs hQ hml hl.1 (gX11_isWithin l g ad hD S hI a2 400) mX11_isWithin q883 rfl ⟨(Nat.le_of_ble_eq_true rfl), (Nat.le_of_ble_eq_true rfl)⟩ ⟨(Nat.le_of_ble_eq_true rfl), (Nat.le_of_ble_eq_true rfl)⟩ (Nat.le_of_ble_eq_true rfl) rfl dX11_at_15 (fun r30 S30 H locs hp30 hQ => ?_)
    obtain ⟨rfl, b30, g30_0⟩ := hp30
    have q31 : (400 : Int32).toInt = 400 := by decide
    refine lv_if_ne (tgt := 24) hx hb dX11_at_18 (by decide) (fun k32 => ?_) (fun k32 => ?_)
    · have h33 := ib_ne k32
      have b34 : Bd r30 (1) (1) := rf_nlo b30 (by decide : Bd 0 (0) (0)) h33
      have g35 := g30_0.resolve_left (by omega)
      clear g30_0
      have b36 : Bd a2 (0) (400) := ⟨by omega, by omega⟩
      refine lv_aload_n hx hb dX11_at_24 rfl (lv_at hl 0 rfl) ?_
      refine xget E hQ 0 (by decide) c20 rfl 9 (by decide) q525 rfl dX11_at_25 ?_
      refine lv_iload_n hx hb dX11_at_28 rfl (lv_at hl 1 rfl) ?_
      refine lv_iload_n hx hb dX11_at_29 rfl (lv_at hl 2 rfl) ?_
      obtain ⟨v38, v39, c41, b40⟩ := invX_95 hI
      have c41 : S 95 = .inr (2, [.ref (ad 2), .ref (ad 96), .ref (ad 97), .ref (ad 98), .ref (ad 99), .ref (ad 100), .ref (ad 101), .int v38, .int v39]) := c41
      refine xcVi E hs hQ hml hl.1 95 (gX2_placeOf_95 l g ad hD S hI a1 a2 b28 b36 (by omega)) mX2_placeOf q927 (by decide) c41 rfl rfl ⟨(Nat.le_of_ble_eq_true rfl), (Nat.le_of_ble_eq_true rfl)⟩ ⟨(Nat.le_of_ble_eq_true rfl), (Nat.le_of_ble_eq_true rfl)⟩ (Nat.le_of_ble_eq_true rfl) rfl dX11_at_30 (fun r37 S37 H locs hp37 hQ _ => ?_)
      obtain ⟨hI, o37, b37⟩ := hp37
      exact xri E hr hlk hQ (⟨hI, (o_trans o_refl o37 (by decide)), (ib_wk b37 (by decide) (by decide))⟩) dX11_at_33
    · have h42 := ib_eq k32
      have b43 : Bd r30 (0) (0) := ⟨(b30).1, ((rf_eq b30 (by decide : Bd 0 (0) (0)) h42).1).2⟩
      clear g30_0
      refine lv_bipush (v := (-2)) hx hb dX11_at_21 (by decide) ?_
      exact xri E hr hlk hQ (⟨hI, o_refl, (ib_wk (by decide : Bd (-2) (-2) (-2)) (by decide) (by decide))⟩) dX11_at_23
set_option maxHeartbeats 4000000 in
set_option maxRecDepth 100000 in
theorem gX11_meet_0 (l : Launch) (g : GG) (ad : Nat → Nat) (hD : Dj ad 122) (S : SS) (hI : InvX g ad S) (a1 : Int32) (a2 : Int32) (hq1 : 0 ≤ 1201 * fld (S 2) 1 + (-1) * fld (S 2) 0) (hq2 : 0 ≤ 8 * fld (S 2) 1 + (-1) * fld (S 2) 7) (hq3 : 0 ≤ 3 * fld (S 2) 1 + (-1) * fld (S 2) 12) : Met l yX11_meet (wG (.code yX11_meet cX11_meet 3 (some .int))) (Rm 5) (XPre g ad 122 S [.ref (ad 0), .int a1, .int a2]) (va_Qi (fun r S' => InvX g ad S' ∧ (∀ j, j ∉ ([98, 99, 100] : List Nat) → S' j = S j) ∧ Bd r (-2) (400)) (QB g ad 122) (FA ad 122)) 0 0 (FA ad 122) := by
  refine xmet cX11_meet "EbbWreck" (by decide) rfl (Nat.le_of_ble_eq_true rfl) (fun p e s m below meth c E hr hlk hml hQ ls hl => ?_)
  have hx := E.1
  have hb := E.2.1
  have hs : Sp ad 122 (FA ad 122) := Sp.fa hD
  have hl : lv_has ls 3 [(0, .ref (ad 0)), (1, .int a1), (2, .int a2)] := hl
  obtain ⟨v1, v3, v5, v6, v7, v9, c11, b2, b4, b8, b10⟩ := invX_2 hI
  have c11 : S 2 = .inr (1, [.int v1, .int v3, .int v5, .ref (ad 3), .ref (ad 5), .ref (ad 6), .int v6, .int v7, .ref (ad 7), .ref (ad 8), .ref (ad 9), .ref (ad 10), .int v9, .ref (ad 15), .ref (ad 16)]) := c11
  have q12 : fld (S 2) 1 = v3.toInt := fld_of c11 rfl
  have q13 : fld (S 2) 0 = v1.toInt := fld_of c11 rfl
  have q14 : fld (S 2) 7 = v7.toInt := fld_of c11 rfl
  have q15 : fld (S 2) 12 = v9.toInt := fld_of c11 rfl
  refine lv_aload_n hx hb dX11_meet_0 rfl (lv_at hl 0 rfl) ?_
  obtain ⟨v16, v18, v19, c20, b17⟩ := invX_0 hI
  have c20 : S 0 = .inr (11, [.ref (ad 1), .int v16, .int v18, .int v19, .ref (ad 2), .ref (ad 20), .ref (ad 38), .ref (ad 93), .ref (ad 94), .ref (ad 95), .ref (ad 102), .ref (ad 104), .ref (ad 107), .ref (ad 111), .ref (ad 119)]) := c20
  refine xget E hQ 0 (by decide) c20 rfl 4 (by decide) q520 rfl dX11_meet_1 ?_
  refine lv_iload_n hx hb dX11_meet_4 rfl (lv_at hl 1 rfl) ?_
  refine xcVi E hs hQ hml hl.1 2 (gX1_hasThing_2 l g ad hD S hI a1) mX1_hasThing q832 (by decide) c11 rfl rfl ⟨(Nat.le_of_ble_eq_true rfl), (Nat.le_of_ble_eq_true rfl)⟩ ⟨(Nat.le_of_ble_eq_true rfl), (Nat.le_of_ble_eq_true rfl)⟩ (Nat.le_of_ble_eq_true rfl) rfl dX11_meet_5 (fun r21 S21 H locs hp21 hQ _ => ?_)
  obtain ⟨rfl, b21, g21_0⟩ := hp21
  refine lv_if_eq (tgt := 27) hx hb dX11_meet_8 (by decide) (fun k22 => ?_) (fun k22 => ?_)
  · have h23 := ib_eq k22
    have b24 : Bd r21 (0) (0) := ⟨(b21).1, ((rf_eq b21 (by decide : Bd 0 (0) (0)) h23).1).2⟩
    clear g21_0
    refine lv_bipush (v := (-2)) hx hb dX11_meet_27 (by decide) ?_
    exact xri E hr hlk hQ (⟨hI, o_refl, (ib_wk (by decide : Bd (-2) (-2) (-2)) (by decide) (by decide))⟩) dX11_meet_29
  · have h25 := ib_ne k22
    have b26 : Bd r21 (1) (1) := rf_nlo b21 (by decide : Bd 0 (0) (0)) h25
    have g27 := g21_0.resolve_left (by omega)
    clear g21_0
    have b28 : Bd a1 (0) (7) := ⟨by omega, by omega⟩
    have b29 : Bd v7 (1) (8) := ⟨by omega, by omega⟩
    refine lv_aload_n hx hb dX11_meet_11 rfl (lv_at hl 0 rfl) ?_
    refine xget E hQ 0 (by decide) c20 rfl 4 (by decide) q520 rfl dX11_meet_12 ?_
    refine lv_iload_n hx hb dX11_meet_15 rfl (lv_at hl 2 rfl) ?_
    refine xcVi E hs hQ hml hl.1 2 (gX1_hasThing_2 l g ad hD S hI a2) mX1_hasThing q832 (by decide) c11 rfl rfl ⟨(Nat.le_of_ble_eq_true rfl), (Nat.le_of_ble_eq_true rfl)⟩ ⟨(Nat.le_of_ble_eq_true rfl), (Nat.le_of_ble_eq_true rfl)⟩ (Nat.le_of_ble_eq_true rfl) rfl dX11_meet_16 (fun r30 S30 H locs hp30 hQ _ => ?_)
    obtain ⟨rfl, b30, g30_0⟩ := hp30
    refine lv_if_eq (tgt := 27) hx hb dX11_meet_19 (by decide) (fun k31 => ?_) (fun k31 => ?_)
    · have h32 := ib_eq k31
      have b33 : Bd r30 (0) (0) := ⟨(b30).1, ((rf_eq b30 (by decide : Bd 0 (0) (0)) h32).1).2⟩
      clear g30_0
      refine lv_bipush (v := (-2)) hx hb dX11_meet_27 (by decide) ?_
      exact xri E hr hlk hQ (⟨hI, o_refl, (ib_wk (by decide : Bd (-2) (-2) (-2)) (by decide) (by decide))⟩) dX11_meet_29
    · have h34 := ib_ne k31
      have b35 : Bd r30 (1) (1) := rf_nlo b30 (by decide : Bd 0 (0) (0)) h34
      have g36 := g30_0.resolve_left (by omega)
      clear g30_0
      have b37 : Bd a2 (0) (7) := ⟨by omega, by omega⟩
      refine lv_iload_n hx hb dX11_meet_22 rfl (lv_at hl 1 rfl) ?_
      refine lv_iload_n hx hb dX11_meet_23 rfl (lv_at hl 2 rfl) ?_
      refine lv_icmp_ne (tgt := 30) hx hb dX11_meet_24 (by decide) (fun k38 => ?_) (fun k38 => ?_)
      · have h39 := ib_ne k38
        refine lv_aload_n hx hb dX11_meet_30 rfl (lv_at hl 0 rfl) ?_
        refine xget E hQ 0 (by decide) c20 rfl 9 (by decide) q525 rfl dX11_meet_31 ?_
        refine lv_iload_n hx hb dX11_meet_34 rfl (lv_at hl 1 rfl) ?_
        refine lv_iload_n hx hb dX11_meet_35 rfl (lv_at hl 2 rfl) ?_
        obtain ⟨v41, v42, c44, b43⟩ := invX_95 hI
        have c44 : S 95 = .inr (2, [.ref (ad 2), .ref (ad 96), .ref (ad 97), .ref (ad 98), .ref (ad 99), .ref (ad 100), .ref (ad 101), .int v41, .int v42]) := c44
        refine xcVi E hs hQ hml hl.1 95 (gX2_firstMeeting_95 l g ad hD S hI a1 a2 b28 b37 (by omega)) mX2_firstMeeting q988 (by decide) c44 rfl rfl ⟨(Nat.le_of_ble_eq_true rfl), (Nat.le_of_ble_eq_true rfl)⟩ ⟨(Nat.le_of_ble_eq_true rfl), (Nat.le_of_ble_eq_true rfl)⟩ (Nat.le_of_ble_eq_true rfl) rfl dX11_meet_36 (fun r40 S40 H locs hp40 hQ _ => ?_)
        obtain ⟨hI, o40, b40⟩ := hp40
        exact xri E hr hlk hQ (⟨hI, (o_trans o_refl o40 (by decide)), (ib_wk b40 (by decide) (by decide))⟩) dX11_meet_39
      · have h45 := ib_eq k38
        refine lv_bipush (v := (-2)) hx hb dX11_meet_27 (by decide) ?_
        exact xri E hr hlk hQ (⟨hI, o_refl, (ib_wk (by decide : Bd (-2) (-2) (-2)) (by decide) (by decide))⟩) dX11_meet_29
set_option maxHeartbeats 4000000 in
set_option maxRecDepth 100000 in
theorem gX11_drawn_0 (l : Launch) (g : GG) (ad : Nat → Nat) (hD : Dj ad 122) (S : SS) (hI : InvX g ad S) (a1 : Int32) (a2 : Int32) (a3 : Int32) (hq1 : 0 ≤ 1201 * fld (S 2) 1 + (-1) * fld (S 2) 0) (hq2 : 0 ≤ 8 * fld (S 2) 1 + (-1) * fld (S 2) 7) (hq3 : 0 ≤ 3 * fld (S 2) 1 + (-1) * fld (S 2) 12) : Met l yX11_drawn (wG (.code yX11_drawn cX11_drawn 4 (some .int))) (Rm 4) (XPre g ad 122 S [.ref (ad 0), .int a1, .int a2, .int a3]) (va_Qi (fun _ S' => InvX g ad S' ∧ (∀ j, j ∉ ([95, 98] : List Nat) → S' j = S j)) (QB g ad 122) (FA ad 122)) 0 0 (FA ad 122) := by
  refine xmet cX11_drawn "EbbWreck" (by decide) rfl (Nat.le_of_ble_eq_true rfl) (fun p e s m below meth c E hr hlk hml hQ ls hl => ?_)
  have hx := E.1
  have hb := E.2.1
  have hs : Sp ad 122 (FA ad 122) := Sp.fa hD
  have hl : lv_has ls 4 [(0, .ref (ad 0)), (1, .int a1), (2, .int a2), (3, .int a3)] := hl
  obtain ⟨v1, v3, v5, v6, v7, v9, c11, b2, b4, b8, b10⟩ := invX_2 hI
  have c11 : S 2 = .inr (1, [.int v1, .int v3, .int v5, .ref (ad 3), .ref (ad 5), .ref (ad 6), .int v6, .int v7, .ref (ad 7), .ref (ad 8), .ref (ad 9), .ref (ad 10), .int v9, .ref (ad 15), .ref (ad 16)]) := c11
  have q12 : fld (S 2) 1 = v3.toInt := fld_of c11 rfl
  have q13 : fld (S 2) 0 = v1.toInt := fld_of c11 rfl
  have q14 : fld (S 2) 7 = v7.toInt := fld_of c11 rfl
  have q15 : fld (S 2) 12 = v9.toInt := fld_of c11 rfl
  refine lv_aload_n hx hb dX11_drawn_0 rfl (lv_at hl 0 rfl) ?_
  refine lv_iload_n hx hb dX11_drawn_1 rfl (lv_at hl 1 rfl) ?_
  refine lv_iload_n hx hb dX11_drawn_2 rfl (lv_at hl 2 rfl) ?_
  obtain ⟨v17, v19, v20, c21, b18⟩ := invX_0 hI
  have c21 : S 0 = .inr (11, [.ref (ad 1), .int v17, .int v19, .int v20, .ref (ad 2), .ref (ad 20), .ref (ad 38), .ref (ad 93), .ref (ad 94), .ref (ad 95), .ref (ad 102), .ref (ad 104), .ref (ad 107), .ref (ad 111), .ref (ad 119)]) := c21
  refine xcVi E hs hQ hml hl.1 0 (gX11_isGale_0 l g ad hD S hI a1 a2) mX11_isGale q1396 (by decide) c21 rfl rfl ⟨(Nat.le_of_ble_eq_true rfl), (Nat.le_of_ble_eq_true rfl)⟩ ⟨(Nat.le_of_ble_eq_true rfl), (Nat.le_of_ble_eq_true rfl)⟩ (Nat.le_of_ble_eq_true rfl) rfl dX11_drawn_3 (fun r16 S16 H locs hp16 hQ _ => ?_)
  obtain ⟨rfl, b16, g16_0⟩ := hp16
  refine lv_if_eq (tgt := 17) hx hb dX11_drawn_6 (by decide) (fun k22 => ?_) (fun k22 => ?_)
  · have h23 := ib_eq k22
    have b24 : Bd r16 (0) (0) := ⟨(b16).1, ((rf_eq b16 (by decide : Bd 0 (0) (0)) h23).1).2⟩
    clear g16_0
    refine lv_bipush (v := (-2)) hx hb dX11_drawn_17 (by decide) ?_
    exact xri E hr hlk hQ (⟨hI, o_refl⟩) dX11_drawn_19
  · have h25 := ib_ne k22
    have b26 : Bd r16 (1) (1) := rf_nlo b16 (by decide : Bd 0 (0) (0)) h25
    have g27 := g16_0.resolve_left (by omega)
    clear g16_0
    have b28 : Bd a2 (0) (7) := ⟨by omega, by omega⟩
    have b29 : Bd v7 (1) (8) := ⟨by omega, by omega⟩
    refine lv_iload_n hx hb dX11_drawn_9 rfl (lv_at hl 3 rfl) ?_
    refine lv_iconst (v := 2) hx hb dX11_drawn_10 (by decide) ?_
    refine xcSi E hs hQ hml hl.1 (gX11_isWithin l g ad hD S hI a3 2) mX11_isWithin q883 rfl ⟨(Nat.le_of_ble_eq_true rfl), (Nat.le_of_ble_eq_true rfl)⟩ ⟨(Nat.le_of_ble_eq_true rfl), (Nat.le_of_ble_eq_true rfl)⟩ (Nat.le_of_ble_eq_true rfl) rfl dX11_drawn_11 (fun r30 S30 H locs hp30 hQ => ?_)
    obtain ⟨rfl, b30, g30_0⟩ := hp30
    have q31 : (2 : Int32).toInt = 2 := by decide
    refine lv_if_ne (tgt := 20) hx hb dX11_drawn_14 (by decide) (fun k32 => ?_) (fun k32 => ?_)
    · have h33 := ib_ne k32
      have b34 : Bd r30 (1) (1) := rf_nlo b30 (by decide : Bd 0 (0) (0)) h33
      have g35 := g30_0.resolve_left (by omega)
      clear g30_0
      have b36 : Bd a3 (0) (2) := ⟨by omega, by omega⟩
      refine lv_aload_n hx hb dX11_drawn_20 rfl (lv_at hl 0 rfl) ?_
      refine xget E hQ 0 (by decide) c21 rfl 9 (by decide) q525 rfl dX11_drawn_21 ?_
      refine lv_iload_n hx hb dX11_drawn_24 rfl (lv_at hl 2 rfl) ?_
      refine lv_sipush (v := 400) hx hb dX11_drawn_25 (by decide) ?_
      refine lv_iload_n hx hb dX11_drawn_28 rfl (lv_at hl 1 rfl) ?_
      obtain ⟨v38, v39, c41, b40⟩ := invX_95 hI
      have c41 : S 95 = .inr (2, [.ref (ad 2), .ref (ad 96), .ref (ad 97), .ref (ad 98), .ref (ad 99), .ref (ad 100), .ref (ad 101), .int v38, .int v39]) := c41
      refine xcVv E hs hQ hml hl.1 95 (gX2_run_95 l g ad hD S hI a2 400 a1 b28 (ib_wk (by decide : Bd 400 (400) (400)) (by decide) (by decide)) (by omega)) mX2_run q1400 (by decide) c41 rfl rfl ⟨(Nat.le_of_ble_eq_true rfl), (Nat.le_of_ble_eq_true rfl)⟩ ⟨(Nat.le_of_ble_eq_true rfl), (Nat.le_of_ble_eq_true rfl)⟩ (Nat.le_of_ble_eq_true rfl) rfl dX11_drawn_29 (fun S37 H locs hp37 hQ _ => ?_)
      obtain ⟨hI, o37⟩ := hp37
      refine lv_iload_n hx hb dX11_drawn_32 rfl (lv_at hl 3 rfl) ?_
      refine lv_if_ne (tgt := 44) hx hb dX11_drawn_33 (by decide) (fun k42 => ?_) (fun k42 => ?_)
      · have h43 := ib_ne k42
        have b44 : Bd a3 (1) (2) := rf_nlo b36 (by decide : Bd 0 (0) (0)) h43
        refine lv_iload_n hx hb dX11_drawn_44 rfl (lv_at hl 3 rfl) ?_
        refine lv_iconst (v := 1) hx hb dX11_drawn_45 (by decide) ?_
        refine lv_icmp_ne (tgt := 59) hx hb dX11_drawn_46 (by decide) (fun k45 => ?_) (fun k45 => ?_)
        · have h46 := ib_ne k45
          have b47 : Bd a3 (2) (2) := rf_nlo b44 (by decide : Bd 1 (1) (1)) h46
          refine lv_aload_n hx hb dX11_drawn_59 rfl (lv_at hl 0 rfl) ?_
          have c48 : S37 0 = .inr (11, [.ref (ad 1), .int v17, .int v19, .int v20, .ref (ad 2), .ref (ad 20), .ref (ad 38), .ref (ad 93), .ref (ad 94), .ref (ad 95), .ref (ad 102), .ref (ad 104), .ref (ad 107), .ref (ad 111), .ref (ad 119)]) := ((o37 0 (by decide)).trans c21)
          refine xget E hQ 0 (by decide) c48 rfl 9 (by decide) q525 rfl dX11_drawn_60 ?_
          obtain ⟨v50, v51, c53, b52⟩ := invX_95 hI
          have c53 : S37 95 = .inr (2, [.ref (ad 2), .ref (ad 96), .ref (ad 97), .ref (ad 98), .ref (ad 99), .ref (ad 100), .ref (ad 101), .int v50, .int v51]) := c53
          refine xcVi E hs hQ hml hl.1 95 (gX2_runOwner_95 l g ad hD S37 hI ) mX2_runOwner q1402 (by decide) c53 rfl rfl ⟨(Nat.le_of_ble_eq_true rfl), (Nat.le_of_ble_eq_true rfl)⟩ ⟨(Nat.le_of_ble_eq_true rfl), (Nat.le_of_ble_eq_true rfl)⟩ (Nat.le_of_ble_eq_true rfl) rfl dX11_drawn_63 (fun r49 S49 H locs hp49 hQ _ => ?_)
          subst hp49
          exact xri E hr hlk hQ (⟨hI, (o_trans o_refl o37 (by decide))⟩) dX11_drawn_66
        · have h54 := ib_eq k45
          have b55 : Bd a3 (1) (1) := ⟨(b44).1, ((rf_eq b44 (by decide : Bd 1 (1) (1)) h54).1).2⟩
          refine lv_aload_n hx hb dX11_drawn_49 rfl (lv_at hl 0 rfl) ?_
          have c56 : S37 0 = .inr (11, [.ref (ad 1), .int v17, .int v19, .int v20, .ref (ad 2), .ref (ad 20), .ref (ad 38), .ref (ad 93), .ref (ad 94), .ref (ad 95), .ref (ad 102), .ref (ad 104), .ref (ad 107), .ref (ad 111), .ref (ad 119)]) := ((o37 0 (by decide)).trans c21)
          refine xget E hQ 0 (by decide) c56 rfl 9 (by decide) q525 rfl dX11_drawn_50 ?_
          obtain ⟨v58, v59, c61, b60⟩ := invX_95 hI
          have c61 : S37 95 = .inr (2, [.ref (ad 2), .ref (ad 96), .ref (ad 97), .ref (ad 98), .ref (ad 99), .ref (ad 100), .ref (ad 101), .int v58, .int v59]) := c61
          refine xcVi E hs hQ hml hl.1 95 (gX2_runBeach_95 l g ad hD S37 hI ) mX2_runBeach q1401 (by decide) c61 rfl rfl ⟨(Nat.le_of_ble_eq_true rfl), (Nat.le_of_ble_eq_true rfl)⟩ ⟨(Nat.le_of_ble_eq_true rfl), (Nat.le_of_ble_eq_true rfl)⟩ (Nat.le_of_ble_eq_true rfl) rfl dX11_drawn_53 (fun r57 S57 H locs hp57 hQ _ => ?_)
          obtain ⟨rfl, b57⟩ := hp57
          refine lv_goto (tgt := 66) hx hb dX11_drawn_56 (by decide) ?_
          exact xri E hr hlk hQ (⟨hI, (o_trans o_refl o37 (by decide))⟩) dX11_drawn_66
      · have h62 := ib_eq k42
        have b63 : Bd a3 (0) (0) := ⟨(b36).1, ((rf_eq b36 (by decide : Bd 0 (0) (0)) h62).1).2⟩
        refine lv_aload_n hx hb dX11_drawn_36 rfl (lv_at hl 0 rfl) ?_
        have c64 : S37 0 = .inr (11, [.ref (ad 1), .int v17, .int v19, .int v20, .ref (ad 2), .ref (ad 20), .ref (ad 38), .ref (ad 93), .ref (ad 94), .ref (ad 95), .ref (ad 102), .ref (ad 104), .ref (ad 107), .ref (ad 111), .ref (ad 119)]) := ((o37 0 (by decide)).trans c21)
        refine xget E hQ 0 (by decide) c64 rfl 9 (by decide) q525 rfl dX11_drawn_37 ?_
        obtain ⟨v65, v66, c68, b67⟩ := invX_95 hI
        have c68 : S37 95 = .inr (2, [.ref (ad 2), .ref (ad 96), .ref (ad 97), .ref (ad 98), .ref (ad 99), .ref (ad 100), .ref (ad 101), .int v65, .int v66]) := c68
        refine xget E hQ 95 (by decide) c68 rfl 7 (by decide) q389 rfl dX11_drawn_40 ?_
        exact xri E hr hlk hQ (⟨hI, (o_trans o_refl o37 (by decide))⟩) dX11_drawn_43
    · have h69 := ib_eq k32
      have b70 : Bd r30 (0) (0) := ⟨(b30).1, ((rf_eq b30 (by decide : Bd 0 (0) (0)) h69).1).2⟩
      clear g30_0
      refine lv_bipush (v := (-2)) hx hb dX11_drawn_17 (by decide) ?_
      exact xri E hr hlk hQ (⟨hI, o_refl⟩) dX11_drawn_19
set_option maxHeartbeats 4000000 in
set_option maxRecDepth 100000 in
theorem gX11_luck_0 (l : Launch) (g : GG) (ad : Nat → Nat) (hD : Dj ad 122) (S : SS) (hI : InvX g ad S) (a1 : Int32) (a2 : Int32) (a3 : Int32) (a4 : Int32) (hq1 : 0 ≤ 1201 * fld (S 2) 1 + (-1) * fld (S 2) 0) (hq2 : 0 ≤ 8 * fld (S 2) 1 + (-1) * fld (S 2) 7) (hq3 : 0 ≤ 3 * fld (S 2) 1 + (-1) * fld (S 2) 12) : Met l yX11_luck (wG (.code yX11_luck cX11_luck 7 (some .int))) (Rm 4) (XPre g ad 122 S [.ref (ad 0), .int a1, .int a2, .int a3, .int a4]) (va_Qi (fun _ S' => InvX g ad S' ∧ (∀ j, j ∉ ([95, 98] : List Nat) → S' j = S j)) (QB g ad 122) (FA ad 122)) 0 0 (FA ad 122) := by
  refine xmet cX11_luck "EbbWreck" (by decide) rfl (Nat.le_of_ble_eq_true rfl) (fun p e s m below meth c E hr hlk hml hQ ls hl => ?_)
  have hx := E.1
  have hb := E.2.1
  have hs : Sp ad 122 (FA ad 122) := Sp.fa hD
  have hl : lv_has ls 7 [(0, .ref (ad 0)), (1, .int a1), (2, .int a2), (3, .int a3), (4, .int a4)] := hl
  obtain ⟨v1, v3, v5, v6, v7, v9, c11, b2, b4, b8, b10⟩ := invX_2 hI
  have c11 : S 2 = .inr (1, [.int v1, .int v3, .int v5, .ref (ad 3), .ref (ad 5), .ref (ad 6), .int v6, .int v7, .ref (ad 7), .ref (ad 8), .ref (ad 9), .ref (ad 10), .int v9, .ref (ad 15), .ref (ad 16)]) := c11
  have q12 : fld (S 2) 1 = v3.toInt := fld_of c11 rfl
  have q13 : fld (S 2) 0 = v1.toInt := fld_of c11 rfl
  have q14 : fld (S 2) 7 = v7.toInt := fld_of c11 rfl
  have q15 : fld (S 2) 12 = v9.toInt := fld_of c11 rfl
  refine lv_aload_n hx hb dX11_luck_0 rfl (lv_at hl 0 rfl) ?_
  refine lv_iload_n hx hb dX11_luck_1 rfl (lv_at hl 1 rfl) ?_
  refine lv_iload_n hx hb dX11_luck_2 rfl (lv_at hl 3 rfl) ?_
  obtain ⟨v17, v19, v20, c21, b18⟩ := invX_0 hI
  have c21 : S 0 = .inr (11, [.ref (ad 1), .int v17, .int v19, .int v20, .ref (ad 2), .ref (ad 20), .ref (ad 38), .ref (ad 93), .ref (ad 94), .ref (ad 95), .ref (ad 102), .ref (ad 104), .ref (ad 107), .ref (ad 111), .ref (ad 119)]) := c21
  refine xcVi E hs hQ hml hl.1 0 (gX11_isGale_0 l g ad hD S hI a1 a3) mX11_isGale q1396 (by decide) c21 rfl rfl ⟨(Nat.le_of_ble_eq_true rfl), (Nat.le_of_ble_eq_true rfl)⟩ ⟨(Nat.le_of_ble_eq_true rfl), (Nat.le_of_ble_eq_true rfl)⟩ (Nat.le_of_ble_eq_true rfl) rfl dX11_luck_3 (fun r16 S16 H locs hp16 hQ _ => ?_)
  obtain ⟨rfl, b16, g16_0⟩ := hp16
  refine lv_if_eq (tgt := 25) hx hb dX11_luck_6 (by decide) (fun k22 => ?_) (fun k22 => ?_)
  · have h23 := ib_eq k22
    have b24 : Bd r16 (0) (0) := ⟨(b16).1, ((rf_eq b16 (by decide : Bd 0 (0) (0)) h23).1).2⟩
    clear g16_0
    refine lv_bipush (v := (-2)) hx hb dX11_luck_25 (by decide) ?_
    exact xri E hr hlk hQ (⟨hI, o_refl⟩) dX11_luck_27
  · have h25 := ib_ne k22
    have b26 : Bd r16 (1) (1) := rf_nlo b16 (by decide : Bd 0 (0) (0)) h25
    have g27 := g16_0.resolve_left (by omega)
    clear g16_0
    have b28 : Bd a3 (0) (7) := ⟨by omega, by omega⟩
    have b29 : Bd v7 (1) (8) := ⟨by omega, by omega⟩
    refine lv_iload_n hx hb dX11_luck_9 rfl (lv_at hl 2 rfl) ?_
    refine xcSi E hs hQ hml hl.1 (gX11_isDrawnOften l g ad hD S hI a2) mX11_isDrawnOften q1410 rfl ⟨(Nat.le_of_ble_eq_true rfl), (Nat.le_of_ble_eq_true rfl)⟩ ⟨(Nat.le_of_ble_eq_true rfl), (Nat.le_of_ble_eq_true rfl)⟩ (Nat.le_of_ble_eq_true rfl) rfl dX11_luck_10 (fun r30 S30 H locs hp30 hQ => ?_)
    obtain ⟨rfl, b30⟩ := hp30
    refine lv_if_eq (tgt := 25) hx hb dX11_luck_13 (by decide) (fun k31 => ?_) (fun k31 => ?_)
    · have h32 := ib_eq k31
      have b33 : Bd r30 (0) (0) := ⟨(b30).1, ((rf_eq b30 (by decide : Bd 0 (0) (0)) h32).1).2⟩
      refine lv_bipush (v := (-2)) hx hb dX11_luck_25 (by decide) ?_
      exact xri E hr hlk hQ (⟨hI, o_refl⟩) dX11_luck_27
    · have h34 := ib_ne k31
      have b35 : Bd r30 (1) (1) := rf_nlo b30 (by decide : Bd 0 (0) (0)) h34
      refine lv_aload_n hx hb dX11_luck_16 rfl (lv_at hl 0 rfl) ?_
      refine lv_iload hx hb dX11_luck_17 (lv_at hl 4 rfl) ?_
      refine xcVi E hs hQ hml hl.1 0 (gX11_isAskedParty_0 l g ad hD S hI a4) mX11_isAskedParty q963 (by decide) c21 rfl rfl ⟨(Nat.le_of_ble_eq_true rfl), (Nat.le_of_ble_eq_true rfl)⟩ ⟨(Nat.le_of_ble_eq_true rfl), (Nat.le_of_ble_eq_true rfl)⟩ (Nat.le_of_ble_eq_true rfl) rfl dX11_luck_19 (fun r36 S36 H locs hp36 hQ _ => ?_)
      obtain ⟨rfl, b36, g36_0⟩ := hp36
      refine lv_if_ne (tgt := 28) hx hb dX11_luck_22 (by decide) (fun k37 => ?_) (fun k37 => ?_)
      · have h38 := ib_ne k37
        have b39 : Bd r36 (1) (1) := rf_nlo b36 (by decide : Bd 0 (0) (0)) h38
        have g40 := g36_0.resolve_left (by omega)
        clear g36_0
        have b41 : Bd v1 (1) (1201) := ⟨by omega, by omega⟩
        refine lv_iconst (v := 0) hx hb dX11_luck_28 (by decide) ?_
        refine lv_istore (lv' := [(5, .int 0), (0, .ref (ad 0)), (1, .int a1), (2, .int a2), (3, .int a3), (4, .int a4)]) hx hb dX11_luck_29 hl (by decide) rfl (fun ls hl => ?_)
        refine lv_iconst (v := 0) hx hb dX11_luck_31 (by decide) ?_
        refine lv_istore (lv' := [(6, .int 0), (5, .int 0), (0, .ref (ad 0)), (1, .int a1), (2, .int a2), (3, .int a3), (4, .int a4)]) hx hb dX11_luck_32 hl (by decide) rfl (fun ls hl => ?_)
        obtain ⟨v42, v43, c45, b44⟩ := invX_95 hI
        have c45 : S 95 = .inr (2, [.ref (ad 2), .ref (ad 96), .ref (ad 97), .ref (ad 98), .ref (ad 99), .ref (ad 100), .ref (ad 101), .int v42, .int v43]) := c45
        have loop34 : ∀ (n : Nat) (S_34 : SS) (H : Heap) (locs : List Loc) (ls : Array Slot) (x34_5 : Int32) (x34_6 : Int32) (y34_95_7 : Int32) (y34_95_8 : Int32), Bd x34_6 (0) (2147483647) → Bd y34_95_8 (0) (11) → (-1) * x34_6.toInt + 2147483647 < ((n : Nat) : Int) → InvX g ad S_34 → (∀ j, j ∉ ([95, 98] : List Nat) → S_34 j = S j) → S_34 95 = .inr (2, [.ref (ad 2), .ref (ad 96), .ref (ad 97), .ref (ad 98), .ref (ad 99), .ref (ad 100), .ref (ad 101), .int y34_95_7, .int y34_95_8]) → Hp g ad 122 S_34 (FA ad 122) s.heap H locs → lv_has ls 7 [(6, .int x34_6), (5, .int x34_5), (0, .ref (ad 0)), (1, .int a1), (2, .int a2), (3, .int a3), (4, .int a4)] → W p l e (Rm 4) s m [.ref (ad 0), .int a1, .int a2, .int a3, .int a4].toArray below meth c H locs 0 0 (MQ below (va_Qi (fun _ S' => InvX g ad S' ∧ (∀ j, j ∉ ([95, 98] : List Nat) → S' j = S j)) (QB g ad 122) (FA ad 122)) [.ref (ad 0), .int a1, .int a2, .int a3, .int a4].toArray s 0 0 (FA ad 122)) (F0 m 34 ls []) := by
          intro n
          induction n with
          | zero => intro S_34 H locs ls x34_5 x34_6 y34_95_7 y34_95_8 Bx34_6 By34_95_8 hn34_ hI hf34 cl34_95 hQ hl; exfalso; have := (Bx34_6).2; omega
          | succ n34_ ih34 =>
            intro S_34 H locs ls x34_5 x34_6 y34_95_7 y34_95_8 Bx34_6 By34_95_8 hn34_ hI hf34 cl34_95 hQ hl
            refine lv_iload hx hb dX11_luck_34 (lv_at hl 0 rfl) ?_
            refine lv_iload_n hx hb dX11_luck_36 rfl (lv_at hl 4 rfl) ?_
            refine lv_icmp_ge (tgt := 76) hx hb dX11_luck_37 (by decide) (fun k46 => ?_) (fun k46 => ?_)
            · have h47 := ib_le k46
              refine lv_iload hx hb dX11_luck_76 (lv_at hl 1 rfl) ?_
              exact xri E hr hlk hQ (⟨hI, (o_trans o_refl hf34 (by decide))⟩) dX11_luck_78
            · have h48 := ib_nle k46
              have b49 : Bd x34_6 (0) (2147483646) := ⟨(Bx34_6).1, ((rf_lt Bx34_6 (ib_full a2) h48).1).2⟩
              have b50 : Bd a2 (1) (2147483647) := ⟨((rf_lt Bx34_6 (ib_full a2) h48).2).1, ((ib_full a2)).2⟩
              refine lv_aload_n hx hb dX11_luck_40 rfl (lv_at hl 2 rfl) ?_
              have c51 : S_34 0 = .inr (11, [.ref (ad 1), .int v17, .int v19, .int v20, .ref (ad 2), .ref (ad 20), .ref (ad 38), .ref (ad 93), .ref (ad 94), .ref (ad 95), .ref (ad 102), .ref (ad 104), .ref (ad 107), .ref (ad 111), .ref (ad 119)]) := ((hf34 0 (by decide)).trans c21)
              refine xget E hQ 0 (by decide) c51 rfl 9 (by decide) q525 rfl dX11_luck_41 ?_
              refine lv_iload_n hx hb dX11_luck_44 rfl (lv_at hl 5 rfl) ?_
              refine lv_sipush (v := 400) hx hb dX11_luck_45 (by decide) ?_
              refine lv_iload_n hx hb dX11_luck_48 rfl (lv_at hl 3 rfl) ?_
              refine lv_iload hx hb dX11_luck_49 (lv_at hl 0 rfl) ?_
              refine lv_iadd hx hb dX11_luck_51 ?_
              refine lv_topi (fun z52 e53 => ?_)
              have c54 : S_34 2 = .inr (1, [.int v1, .int v3, .int v5, .ref (ad 3), .ref (ad 5), .ref (ad 6), .int v6, .int v7, .ref (ad 7), .ref (ad 8), .ref (ad 9), .ref (ad 10), .int v9, .ref (ad 15), .ref (ad 16)]) := ((hf34 2 (by decide)).trans c11)
              have q55 : fld (S_34 2) 1 = v3.toInt := fld_of c54 rfl
              refine xcVv E hs hQ hml hl.1 95 (gX2_run_95 l g ad hD S_34 hI a3 400 z52 b28 (ib_wk (by decide : Bd 400 (400) (400)) (by decide) (by decide)) (by omega)) mX2_run q1400 (by decide) cl34_95 rfl rfl ⟨(Nat.le_of_ble_eq_true rfl), (Nat.le_of_ble_eq_true rfl)⟩ ⟨(Nat.le_of_ble_eq_true rfl), (Nat.le_of_ble_eq_true rfl)⟩ (Nat.le_of_ble_eq_true rfl) rfl dX11_luck_52 (fun S56 H locs hp56 hQ _ => ?_)
              obtain ⟨hI, o56⟩ := hp56
              refine lv_aload_n hx hb dX11_luck_55 rfl (lv_at hl 2 rfl) ?_
              have c57 : S56 0 = .inr (11, [.ref (ad 1), .int v17, .int v19, .int v20, .ref (ad 2), .ref (ad 20), .ref (ad 38), .ref (ad 93), .ref (ad 94), .ref (ad 95), .ref (ad 102), .ref (ad 104), .ref (ad 107), .ref (ad 111), .ref (ad 119)]) := ((o56 0 (by decide)).trans c51)
              refine xget E hQ 0 (by decide) c57 rfl 9 (by decide) q525 rfl dX11_luck_56 ?_
              obtain ⟨v59, v60, c62, b61⟩ := invX_95 hI
              have c62 : S56 95 = .inr (2, [.ref (ad 2), .ref (ad 96), .ref (ad 97), .ref (ad 98), .ref (ad 99), .ref (ad 100), .ref (ad 101), .int v59, .int v60]) := c62
              refine xcVi E hs hQ hml hl.1 95 (gX2_runOwner_95 l g ad hD S56 hI ) mX2_runOwner q1402 (by decide) c62 rfl rfl ⟨(Nat.le_of_ble_eq_true rfl), (Nat.le_of_ble_eq_true rfl)⟩ ⟨(Nat.le_of_ble_eq_true rfl), (Nat.le_of_ble_eq_true rfl)⟩ (Nat.le_of_ble_eq_true rfl) rfl dX11_luck_59 (fun r58 S58 H locs hp58 hQ _ => ?_)
              subst hp58
              refine lv_iload hx hb dX11_luck_62 (lv_at hl 6 rfl) ?_
              refine lv_icmp_ne (tgt := 70) hx hb dX11_luck_64 (by decide) (fun k63 => ?_) (fun k63 => ?_)
              · have h64 := ib_ne k63
                obtain ⟨z65, e66⟩ : ∃ z : Int32, z = x34_6 + 1 := ⟨_, rfl⟩
                have t67 := ib_add e66 b49 (by decide : Bd 1 (1) (1)) (by decide) (by decide)
                have b68 : Bd z65 (1) (2147483647) := ib_addb t67 b49 (by decide : Bd 1 (1) (1))
                have t67 : z65.toInt = x34_6.toInt + 1 := fold_add t67 rfl (by decide)
                refine lv_iinc (v := z65) (lv' := [(6, .int z65), (5, .int x34_5), (0, .ref (ad 0)), (1, .int a1), (2, .int a2), (3, .int a3), (4, .int a4)]) hx hb dX11_luck_70 hl (k := 0) rfl (by rw [e66]; rfl) (by decide) rfl (fun ls hl => ?_)
                refine lv_goto (tgt := 34) hx hb dX11_luck_73 (by decide) ?_
                exact ih34 _ _ _ _ x34_5 z65 v59 v60 (ib_wk b68 (by decide) (by decide)) b61 (by omega) hI (o_trans hf34 o56 (by decide)) c62 hQ (lv_sub hl [0, 1, 2, 3, 4, 5, 6] rfl)
              · have h69 := ib_eq k63
                obtain ⟨z70, e71⟩ : ∃ z : Int32, z = x34_5 + 1 := ⟨_, rfl⟩
                refine lv_iinc (v := z70) (lv' := [(5, .int z70), (6, .int x34_6), (0, .ref (ad 0)), (1, .int a1), (2, .int a2), (3, .int a3), (4, .int a4)]) hx hb dX11_luck_67 hl (k := 1) rfl (by rw [e71]; rfl) (by decide) rfl (fun ls hl => ?_)
                obtain ⟨z72, e73⟩ : ∃ z : Int32, z = x34_6 + 1 := ⟨_, rfl⟩
                have t74 := ib_add e73 b49 (by decide : Bd 1 (1) (1)) (by decide) (by decide)
                have b75 : Bd z72 (1) (2147483647) := ib_addb t74 b49 (by decide : Bd 1 (1) (1))
                have t74 : z72.toInt = x34_6.toInt + 1 := fold_add t74 rfl (by decide)
                refine lv_iinc (v := z72) (lv' := [(6, .int z72), (5, .int z70), (0, .ref (ad 0)), (1, .int a1), (2, .int a2), (3, .int a3), (4, .int a4)]) hx hb dX11_luck_70 hl (k := 1) rfl (by rw [e73]; rfl) (by decide) rfl (fun ls hl => ?_)
                refine lv_goto (tgt := 34) hx hb dX11_luck_73 (by decide) ?_
                exact ih34 _ _ _ _ z70 z72 v59 v60 (ib_wk b75 (by decide) (by decide)) b61 (by omega) hI (o_trans hf34 o56 (by decide)) c62 hQ (lv_sub hl [0, 1, 2, 3, 4, 5, 6] rfl)
        obtain ⟨n34, hn34⟩ := fu_n (2147483647)
        exact loop34 n34 _ _ _ _ 0 0 v42 v43 (ib_wk (by decide : Bd 0 (0) (0)) (by decide) (by decide)) b44 (by have : (0 : Int32).toInt = 0 := (by decide); omega) hI o_refl c45 hQ (lv_sub hl [0, 1, 2, 3, 4, 5, 6] rfl)
      · have h76 := ib_eq k37
        have b77 : Bd r36 (0) (0) := ⟨(b36).1, ((rf_eq b36 (by decide : Bd 0 (0) (0)) h76).1).2⟩
        clear g36_0
        refine lv_bipush (v := (-2)) hx hb dX11_luck_25 (by decide) ?_
        exact xri E hr hlk hQ (⟨hI, o_refl⟩) dX11_luck_27
set_option maxHeartbeats 4000000 in
set_option maxRecDepth 100000 in
theorem gX11_waits_0 (l : Launch) (g : GG) (ad : Nat → Nat) (hD : Dj ad 122) (S : SS) (hI : InvX g ad S) (a1 : Int32) (a2 : Int32) (a3 : Int32) (hq1 : 0 ≤ 1201 * fld (S 2) 1 + (-1) * fld (S 2) 0) (hq2 : 0 ≤ 8 * fld (S 2) 1 + (-1) * fld (S 2) 7) (hq3 : 0 ≤ 3 * fld (S 2) 1 + (-1) * fld (S 2) 12) : Met l yX11_waits (wG (.code yX11_waits cX11_waits 4 (some .int))) (Rm 5) (XPre g ad 122 S [.ref (ad 0), .int a1, .int a2, .int a3]) (va_Qi (fun r S' => InvX g ad S' ∧ (∀ j, j ∉ ([95, 98, 101] : List Nat) → S' j = S j) ∧ Bd r (-2) (11)) (QB g ad 122) (FA ad 122)) 0 0 (FA ad 122) := by
  refine xmet cX11_waits "EbbWreck" (by decide) rfl (Nat.le_of_ble_eq_true rfl) (fun p e s m below meth c E hr hlk hml hQ ls hl => ?_)
  have hx := E.1
  have hb := E.2.1
  have hs : Sp ad 122 (FA ad 122) := Sp.fa hD
  have hl : lv_has ls 4 [(0, .ref (ad 0)), (1, .int a1), (2, .int a2), (3, .int a3)] := hl
  obtain ⟨v1, v3, v5, v6, v7, v9, c11, b2, b4, b8, b10⟩ := invX_2 hI
  have c11 : S 2 = .inr (1, [.int v1, .int v3, .int v5, .ref (ad 3), .ref (ad 5), .ref (ad 6), .int v6, .int v7, .ref (ad 7), .ref (ad 8), .ref (ad 9), .ref (ad 10), .int v9, .ref (ad 15), .ref (ad 16)]) := c11
  have q12 : fld (S 2) 1 = v3.toInt := fld_of c11 rfl
  have q13 : fld (S 2) 0 = v1.toInt := fld_of c11 rfl
  have q14 : fld (S 2) 7 = v7.toInt := fld_of c11 rfl
  have q15 : fld (S 2) 12 = v9.toInt := fld_of c11 rfl
  refine lv_aload_n hx hb dX11_waits_0 rfl (lv_at hl 0 rfl) ?_
  refine lv_iload_n hx hb dX11_waits_1 rfl (lv_at hl 1 rfl) ?_
  refine lv_iload_n hx hb dX11_waits_2 rfl (lv_at hl 3 rfl) ?_
  obtain ⟨v17, v19, v20, c21, b18⟩ := invX_0 hI
  have c21 : S 0 = .inr (11, [.ref (ad 1), .int v17, .int v19, .int v20, .ref (ad 2), .ref (ad 20), .ref (ad 38), .ref (ad 93), .ref (ad 94), .ref (ad 95), .ref (ad 102), .ref (ad 104), .ref (ad 107), .ref (ad 111), .ref (ad 119)]) := c21
  refine xcVi E hs hQ hml hl.1 0 (gX11_isGale_0 l g ad hD S hI a1 a3) mX11_isGale q1396 (by decide) c21 rfl rfl ⟨(Nat.le_of_ble_eq_true rfl), (Nat.le_of_ble_eq_true rfl)⟩ ⟨(Nat.le_of_ble_eq_true rfl), (Nat.le_of_ble_eq_true rfl)⟩ (Nat.le_of_ble_eq_true rfl) rfl dX11_waits_3 (fun r16 S16 H locs hp16 hQ _ => ?_)
  obtain ⟨rfl, b16, g16_0⟩ := hp16
  refine lv_if_eq (tgt := 16) hx hb dX11_waits_6 (by decide) (fun k22 => ?_) (fun k22 => ?_)
  · have h23 := ib_eq k22
    have b24 : Bd r16 (0) (0) := ⟨(b16).1, ((rf_eq b16 (by decide : Bd 0 (0) (0)) h23).1).2⟩
    clear g16_0
    refine lv_bipush (v := (-2)) hx hb dX11_waits_16 (by decide) ?_
    exact xri E hr hlk hQ (⟨hI, o_refl, (ib_wk (by decide : Bd (-2) (-2) (-2)) (by decide) (by decide))⟩) dX11_waits_18
  · have h25 := ib_ne k22
    have b26 : Bd r16 (1) (1) := rf_nlo b16 (by decide : Bd 0 (0) (0)) h25
    have g27 := g16_0.resolve_left (by omega)
    clear g16_0
    have b28 : Bd a3 (0) (7) := ⟨by omega, by omega⟩
    have b29 : Bd v7 (1) (8) := ⟨by omega, by omega⟩
    refine lv_iload_n hx hb dX11_waits_9 rfl (lv_at hl 2 rfl) ?_
    refine xcSi E hs hQ hml hl.1 (gX11_isDrawnOften l g ad hD S hI a2) mX11_isDrawnOften q1410 rfl ⟨(Nat.le_of_ble_eq_true rfl), (Nat.le_of_ble_eq_true rfl)⟩ ⟨(Nat.le_of_ble_eq_true rfl), (Nat.le_of_ble_eq_true rfl)⟩ (Nat.le_of_ble_eq_true rfl) rfl dX11_waits_10 (fun r30 S30 H locs hp30 hQ => ?_)
    obtain ⟨rfl, b30⟩ := hp30
    refine lv_if_ne (tgt := 19) hx hb dX11_waits_13 (by decide) (fun k31 => ?_) (fun k31 => ?_)
    · have h32 := ib_ne k31
      have b33 : Bd r30 (1) (1) := rf_nlo b30 (by decide : Bd 0 (0) (0)) h32
      refine lv_aload_n hx hb dX11_waits_19 rfl (lv_at hl 0 rfl) ?_
      refine xget E hQ 0 (by decide) c21 rfl 9 (by decide) q525 rfl dX11_waits_20 ?_
      refine lv_iload_n hx hb dX11_waits_23 rfl (lv_at hl 3 rfl) ?_
      refine lv_iload_n hx hb dX11_waits_24 rfl (lv_at hl 1 rfl) ?_
      refine lv_iload_n hx hb dX11_waits_25 rfl (lv_at hl 2 rfl) ?_
      obtain ⟨v35, v36, c38, b37⟩ := invX_95 hI
      have c38 : S 95 = .inr (2, [.ref (ad 2), .ref (ad 96), .ref (ad 97), .ref (ad 98), .ref (ad 99), .ref (ad 100), .ref (ad 101), .int v35, .int v36]) := c38
      refine xcVi E hs hQ hml hl.1 95 (gX2_commonestBeach_95 l g ad hD S hI a3 a1 a2 b28 (by omega)) mX2_commonestBeach q1417 (by decide) c38 rfl rfl ⟨(Nat.le_of_ble_eq_true rfl), (Nat.le_of_ble_eq_true rfl)⟩ ⟨(Nat.le_of_ble_eq_true rfl), (Nat.le_of_ble_eq_true rfl)⟩ (Nat.le_of_ble_eq_true rfl) rfl dX11_waits_26 (fun r34 S34 H locs hp34 hQ _ => ?_)
      obtain ⟨hI, o34, b34⟩ := hp34
      exact xri E hr hlk hQ (⟨hI, (o_trans o_refl o34 (by decide)), (ib_wk b34 (by decide) (by decide))⟩) dX11_waits_29
    · have h39 := ib_eq k31
      have b40 : Bd r30 (0) (0) := ⟨(b30).1, ((rf_eq b30 (by decide : Bd 0 (0) (0)) h39).1).2⟩
      refine lv_bipush (v := (-2)) hx hb dX11_waits_16 (by decide) ?_
      exact xri E hr hlk hQ (⟨hI, o_refl, (ib_wk (by decide : Bd (-2) (-2) (-2)) (by decide) (by decide))⟩) dX11_waits_18
set_option maxHeartbeats 4000000 in
set_option maxRecDepth 100000 in
theorem gX3_floodOf (l : Launch) (g : GG) (ad : Nat → Nat) (hD : Dj ad 122) (S : SS) (hI : InvX g ad S) (a1 : Int32) : Met l yX3_floodOf (wG (.code yX3_floodOf cX3_floodOf 1 (some .int))) (Rm 0) (XPre g ad 122 S [.int a1]) (va_Qi (fun _ S' => S = S') (QB g ad 122) (FA ad 122)) 0 0 (FA ad 122) := by
  refine xmet cX3_floodOf "EbbWreck$Floats" (by decide) rfl (Nat.le_of_ble_eq_true rfl) (fun p e s m below meth c E hr hlk hml hQ ls hl => ?_)
  have hx := E.1
  have hb := E.2.1
  have hs : Sp ad 122 (FA ad 122) := Sp.fa hD
  have hl : lv_has ls 1 [(0, .int a1)] := hl
  refine lv_iload_n hx hb dX3_floodOf_0 rfl (lv_at hl 0 rfl) ?_
  refine lv_bipush (v := 7) hx hb dX3_floodOf_1 (by decide) ?_
  refine lv_idiv hx hb dX3_floodOf_3 (ib_ne0 (by decide : Bd 7 (7) (7)) (by decide)) ?_
  refine lv_topi (fun z1 e2 => ?_)
  refine lv_iconst (v := 3) hx hb dX3_floodOf_4 (by decide) ?_
  refine lv_isub hx hb dX3_floodOf_5 ?_
  refine lv_topi (fun z3 e4 => ?_)
  exact xri E hr hlk hQ (rfl) dX3_floodOf_6
set_option maxHeartbeats 4000000 in
set_option maxRecDepth 100000 in
theorem gX3_ebbOf (l : Launch) (g : GG) (ad : Nat → Nat) (hD : Dj ad 122) (S : SS) (hI : InvX g ad S) (a1 : Int32) : Met l yX3_ebbOf (wG (.code yX3_ebbOf cX3_ebbOf 1 (some .int))) (Rm 0) (XPre g ad 122 S [.int a1]) (va_Qi (fun r S' => S = S' ∧ Bd r (-9) (3)) (QB g ad 122) (FA ad 122)) 0 0 (FA ad 122) := by
  refine xmet cX3_ebbOf "EbbWreck$Floats" (by decide) rfl (Nat.le_of_ble_eq_true rfl) (fun p e s m below meth c E hr hlk hml hQ ls hl => ?_)
  have hx := E.1
  have hb := E.2.1
  have hs : Sp ad 122 (FA ad 122) := Sp.fa hD
  have hl : lv_has ls 1 [(0, .int a1)] := hl
  refine lv_iload_n hx hb dX3_ebbOf_0 rfl (lv_at hl 0 rfl) ?_
  refine lv_bipush (v := 7) hx hb dX3_ebbOf_1 (by decide) ?_
  refine lv_irem hx hb dX3_ebbOf_3 (ib_ne0 (by decide : Bd 7 (7) (7)) (by decide)) ?_
  refine lv_topi (fun z1 e2 => ?_)
  have rx3 := ib_remx e2 (ib_full a1) (by decide : Bd 7 (7) (7)) (by decide)
  have b4 : Bd z1 (-6) (6) := ib_remb e2 (ib_full a1) (by decide : Bd 7 (7) (7)) (by decide)
  refine lv_iconst (v := 3) hx hb dX3_ebbOf_4 (by decide) ?_
  refine lv_isub hx hb dX3_ebbOf_5 ?_
  refine lv_topi (fun z5 e6 => ?_)
  have t7 := ib_sub e6 b4 (by decide : Bd 3 (3) (3)) (by decide) (by decide)
  have b8 : Bd z5 (-9) (3) := ib_subb t7 b4 (by decide : Bd 3 (3) (3))
  have t7 : z5.toInt = z1.toInt - 3 := fold_sub t7 rfl (by decide)
  exact xri E hr hlk hQ (⟨rfl, b8⟩) dX3_ebbOf_6
set_option maxHeartbeats 4000000 in
set_option maxRecDepth 100000 in
theorem gX3_stepsIn (l : Launch) (g : GG) (ad : Nat → Nat) (hD : Dj ad 122) (S : SS) (hI : InvX g ad S) (a1 : Int32) (a2 : Int32) : Met l yX3_stepsIn (wG (.code yX3_stepsIn cX3_stepsIn 2 (some .int))) (Rm 1) (XPre g ad 122 S [.int a1, .int a2]) (va_Qi (fun _ S' => S = S') (QB g ad 122) (FA ad 122)) 0 0 (FA ad 122) := by
  refine xmet cX3_stepsIn "EbbWreck$Floats" (by decide) rfl (Nat.le_of_ble_eq_true rfl) (fun p e s m below meth c E hr hlk hml hQ ls hl => ?_)
  have hx := E.1
  have hb := E.2.1
  have hs : Sp ad 122 (FA ad 122) := Sp.fa hD
  have hl : lv_has ls 2 [(0, .int a1), (1, .int a2)] := hl
  refine lv_iload_n hx hb dX3_stepsIn_0 rfl (lv_at hl 0 rfl) ?_
  refine lv_iconst (v := 1) hx hb dX3_stepsIn_1 (by decide) ?_
  refine lv_icmp_ne (tgt := 7) hx hb dX3_stepsIn_2 (by decide) (fun k1 => ?_) (fun k1 => ?_)
  · have h2 := ib_ne k1
    refine lv_iload_n hx hb dX3_stepsIn_7 rfl (lv_at hl 0 rfl) ?_
    refine lv_if_ne (tgt := 18) hx hb dX3_stepsIn_8 (by decide) (fun k3 => ?_) (fun k3 => ?_)
    · have h4 := ib_ne k3
      refine lv_iload_n hx hb dX3_stepsIn_18 rfl (lv_at hl 1 rfl) ?_
      refine xcSi E hs hQ hml hl.1 (gX3_ebbOf l g ad hD S hI a2) mX3_ebbOf q1233 rfl ⟨(Nat.le_of_ble_eq_true rfl), (Nat.le_of_ble_eq_true rfl)⟩ ⟨(Nat.le_of_ble_eq_true rfl), (Nat.le_of_ble_eq_true rfl)⟩ (Nat.le_of_ble_eq_true rfl) rfl dX3_stepsIn_19 (fun r5 S5 H locs hp5 hQ => ?_)
      obtain ⟨rfl, b5⟩ := hp5
      exact xri E hr hlk hQ (rfl) dX3_stepsIn_22
    · have h6 := ib_eq k3
      have b7 : Bd a1 (0) (0) := ⟨((rf_eq (ib_full a1) (by decide : Bd 0 (0) (0)) h6).1).1, ((rf_eq (ib_full a1) (by decide : Bd 0 (0) (0)) h6).1).2⟩
      refine lv_iload_n hx hb dX3_stepsIn_11 rfl (lv_at hl 1 rfl) ?_
      refine xcSi E hs hQ hml hl.1 (gX3_floodOf l g ad hD S hI a2) mX3_floodOf q1230 rfl ⟨(Nat.le_of_ble_eq_true rfl), (Nat.le_of_ble_eq_true rfl)⟩ ⟨(Nat.le_of_ble_eq_true rfl), (Nat.le_of_ble_eq_true rfl)⟩ (Nat.le_of_ble_eq_true rfl) rfl dX3_stepsIn_12 (fun r8 S8 H locs hp8 hQ => ?_)
      subst hp8
      refine lv_goto (tgt := 22) hx hb dX3_stepsIn_15 (by decide) ?_
      exact xri E hr hlk hQ (rfl) dX3_stepsIn_22
  · have h9 := ib_eq k1
    have b10 : Bd a1 (1) (1) := ⟨((rf_eq (ib_full a1) (by decide : Bd 1 (1) (1)) h9).1).1, ((rf_eq (ib_full a1) (by decide : Bd 1 (1) (1)) h9).1).2⟩
    refine lv_iconst (v := 0) hx hb dX3_stepsIn_5 (by decide) ?_
    exact xri E hr hlk hQ (rfl) dX3_stepsIn_6
set_option maxHeartbeats 4000000 in
set_option maxRecDepth 100000 in
theorem gX3_stepsOf (l : Launch) (g : GG) (ad : Nat → Nat) (hD : Dj ad 122) (S : SS) (hI : InvX g ad S) (a1 : Int32) : Met l yX3_stepsOf (wG (.code yX3_stepsOf cX3_stepsOf 1 (some .int))) (Rm 1) (XPre g ad 122 S [.int a1]) (va_Qi (fun _ S' => S = S') (QB g ad 122) (FA ad 122)) 0 0 (FA ad 122) := by
  refine xmet cX3_stepsOf "EbbWreck$Floats" (by decide) rfl (Nat.le_of_ble_eq_true rfl) (fun p e s m below meth c E hr hlk hml hQ ls hl => ?_)
  have hx := E.1
  have hb := E.2.1
  have hs : Sp ad 122 (FA ad 122) := Sp.fa hD
  have hl : lv_has ls 1 [(0, .int a1)] := hl
  refine lv_iload_n hx hb dX3_stepsOf_0 rfl (lv_at hl 0 rfl) ?_
  refine xcSi E hs hQ hml hl.1 (gX3_floodOf l g ad hD S hI a1) mX3_floodOf q1230 rfl ⟨(Nat.le_of_ble_eq_true rfl), (Nat.le_of_ble_eq_true rfl)⟩ ⟨(Nat.le_of_ble_eq_true rfl), (Nat.le_of_ble_eq_true rfl)⟩ (Nat.le_of_ble_eq_true rfl) rfl dX3_stepsOf_1 (fun r1 S1 H locs hp1 hQ => ?_)
  subst hp1
  refine va_mabs hx hb (hml.trans hl.1.symm) E.2.2.1 (E.2.2.2.1 _ q1248) (E.2.2.2.1 _ q1249) (E.2.2.2.1 _ q128) (E.2.2.2.1 _ q1250) (Nat.le_of_ble_eq_true rfl) (Nat.le_of_ble_eq_true rfl) (Nat.le_of_ble_eq_true rfl) (Nat.le_of_ble_eq_true rfl) dX3_stepsOf_4 ?_
  refine lv_topi (fun z2 e3 => ?_)
  refine lv_iload_n hx hb dX3_stepsOf_7 rfl (lv_at hl 0 rfl) ?_
  refine xcSi E hs hQ hml hl.1 (gX3_ebbOf l g ad hD S hI a1) mX3_ebbOf q1233 rfl ⟨(Nat.le_of_ble_eq_true rfl), (Nat.le_of_ble_eq_true rfl)⟩ ⟨(Nat.le_of_ble_eq_true rfl), (Nat.le_of_ble_eq_true rfl)⟩ (Nat.le_of_ble_eq_true rfl) rfl dX3_stepsOf_8 (fun r4 S4 H locs hp4 hQ => ?_)
  obtain ⟨rfl, b4⟩ := hp4
  refine va_mabs hx hb (hml.trans hl.1.symm) E.2.2.1 (E.2.2.2.1 _ q1248) (E.2.2.2.1 _ q1249) (E.2.2.2.1 _ q128) (E.2.2.2.1 _ q1250) (Nat.le_of_ble_eq_true rfl) (Nat.le_of_ble_eq_true rfl) (Nat.le_of_ble_eq_true rfl) (Nat.le_of_ble_eq_true rfl) dX3_stepsOf_11 ?_
  refine lv_topi (fun z5 e6 => ?_)
  refine lv_iadd hx hb dX3_stepsOf_14 ?_
  refine lv_topi (fun z7 e8 => ?_)
  exact xri E hr hlk hQ (rfl) dX3_stepsOf_15
set_option maxHeartbeats 4000000 in
set_option maxRecDepth 100000 in
theorem gX3_isCell_119 (l : Launch) (g : GG) (ad : Nat → Nat) (hD : Dj ad 122) (S : SS) (hI : InvX g ad S) (wa1 : Int64) : Met l yX3_isCell (wG (.code yX3_isCell cX3_isCell 3 (some .boolean))) (Rm 0) (XPre g ad 122 S [.ref (ad 119), .long wa1]) (va_Qi (fun r S' => S = S' ∧ Bd r (0) (1)) (QB g ad 122) (FA ad 122)) 0 0 (FA ad 122) := by
  refine xmet cX3_isCell "EbbWreck$Floats" (by decide) rfl (Nat.le_of_ble_eq_true rfl) (fun p e s m below meth c E hr hlk hml hQ ls hl => ?_)
  have hx := E.1
  have hb := E.2.1
  have hs : Sp ad 122 (FA ad 122) := Sp.fa hD
  have hl : lv_has ls 3 [(0, .ref (ad 119)), (1, .long wa1)] := hl
  refine lv_lload_n hx hb dX3_isCell_0 rfl (lv_at hl 1 rfl) ?_
  refine lv_lconst (v := 0) hx hb dX3_isCell_1 (by decide) ?_
  refine W.lcmp hx hb dX3_isCell_2 ?_
  refine lv_if_lt (tgt := 23) hx hb dX3_isCell_3 (by decide) (fun k1 => ?_) (fun k1 => ?_)
  · have h2 := lc_lt k1
    have b3 : BdL wa1 (-9223372036854775808) (-1) := ⟨((ib_fullL wa1)).1, ((rf_ltL (ib_fullL wa1) (by decide : BdL 0 (0) (0)) h2).1).2⟩
    refine lv_iconst (v := 0) hx hb dX3_isCell_23 (by decide) ?_
    exact xrz E hr hlk hQ rfl (⟨rfl, (ib_wk (by decide : Bd 0 (0) (0)) (by decide) (by decide))⟩) dX3_isCell_24
  · have h4 := lc_nlt k1
    have b5 : BdL wa1 (0) (9223372036854775807) := ⟨((rf_leL (by decide : BdL 0 (0) (0)) (ib_fullL wa1) h4).2).1, ((ib_fullL wa1)).2⟩
    refine lv_lload_n hx hb dX3_isCell_6 rfl (lv_at hl 1 rfl) ?_
    refine lv_aload_n hx hb dX3_isCell_7 rfl (lv_at hl 0 rfl) ?_
    obtain ⟨v6, c8, b7⟩ := invX_119 hI
    have c8 : S 119 = .inr (3, [.ref (ad 2), .ref (ad 111), .ref (ad 120), .int v6, .ref (ad 121)]) := c8
    refine xget E hQ 119 (by decide) c8 rfl 0 (by decide) q500 rfl dX3_isCell_8 ?_
    obtain ⟨v9, v11, v13, v14, v15, v17, c19, b10, b12, b16, b18⟩ := invX_2 hI
    have c19 : S 2 = .inr (1, [.int v9, .int v11, .int v13, .ref (ad 3), .ref (ad 5), .ref (ad 6), .int v14, .int v15, .ref (ad 7), .ref (ad 8), .ref (ad 9), .ref (ad 10), .int v17, .ref (ad 15), .ref (ad 16)]) := c19
    refine xget E hQ 2 (by decide) c19 rfl 1 (by decide) q243 rfl dX3_isCell_11 ?_
    refine lv_i2l hx hb dX3_isCell_14 rfl ?_
    refine lv_topl (fun w20 e21 => ?_)
    have t22 : w20.toInt = v11.toInt := by rw [e21]; exact w64 _
    have b23 : BdL w20 (0) (12) := (by have h1 := (b12).1; have h2 := (b12).2; exact ⟨by omega, by omega⟩)
    refine W.lcmp hx hb dX3_isCell_15 ?_
    refine lv_if_ge (tgt := 23) hx hb dX3_isCell_16 (by decide) (fun k24 => ?_) (fun k24 => ?_)
    · have h25 := lc_ge k24
      refine lv_iconst (v := 0) hx hb dX3_isCell_23 (by decide) ?_
      exact xrz E hr hlk hQ rfl (⟨rfl, (ib_wk (by decide : Bd 0 (0) (0)) (by decide) (by decide))⟩) dX3_isCell_24
    · have h26 := lc_nge k24
      have b27 : BdL wa1 (0) (11) := ⟨(b5).1, ((rf_ltL b5 b23 h26).1).2⟩
      have b28 : BdL w20 (1) (12) := ⟨((rf_ltL b5 b23 h26).2).1, (b23).2⟩
      have b29 : Bd v11 (1) (12) := ⟨by omega, by omega⟩
      refine lv_iconst (v := 1) hx hb dX3_isCell_19 (by decide) ?_
      refine lv_goto (tgt := 24) hx hb dX3_isCell_20 (by decide) ?_
      exact xrz E hr hlk hQ rfl (⟨rfl, (ib_wk (by decide : Bd 1 (1) (1)) (by decide) (by decide))⟩) dX3_isCell_24
set_option maxHeartbeats 4000000 in
set_option maxRecDepth 100000 in
theorem gX3_isHour (l : Launch) (g : GG) (ad : Nat → Nat) (hD : Dj ad 122) (S : SS) (hI : InvX g ad S) (wa1 : Int64) : Met l yX3_isHour (wG (.code yX3_isHour cX3_isHour 2 (some .boolean))) (Rm 0) (XPre g ad 122 S [.long wa1]) (va_Qi (fun r S' => S = S' ∧ Bd r (0) (1)) (QB g ad 122) (FA ad 122)) 0 0 (FA ad 122) := by
  refine xmet cX3_isHour "EbbWreck$Floats" (by decide) rfl (Nat.le_of_ble_eq_true rfl) (fun p e s m below meth c E hr hlk hml hQ ls hl => ?_)
  have hx := E.1
  have hb := E.2.1
  have hs : Sp ad 122 (FA ad 122) := Sp.fa hD
  have hl : lv_has ls 2 [(0, .long wa1)] := hl
  refine lv_lload_n hx hb dX3_isHour_0 rfl (lv_at hl 0 rfl) ?_
  refine lv_lconst (v := 0) hx hb dX3_isHour_1 (by decide) ?_
  refine W.lcmp hx hb dX3_isHour_2 ?_
  refine lv_if_lt (tgt := 18) hx hb dX3_isHour_3 (by decide) (fun k1 => ?_) (fun k1 => ?_)
  · have h2 := lc_lt k1
    have b3 : BdL wa1 (-9223372036854775808) (-1) := ⟨((ib_fullL wa1)).1, ((rf_ltL (ib_fullL wa1) (by decide : BdL 0 (0) (0)) h2).1).2⟩
    refine lv_iconst (v := 0) hx hb dX3_isHour_18 (by decide) ?_
    exact xrz E hr hlk hQ rfl (⟨rfl, (ib_wk (by decide : Bd 0 (0) (0)) (by decide) (by decide))⟩) dX3_isHour_19
  · have h4 := lc_nlt k1
    have b5 : BdL wa1 (0) (9223372036854775807) := ⟨((rf_leL (by decide : BdL 0 (0) (0)) (ib_fullL wa1) h4).2).1, ((ib_fullL wa1)).2⟩
    refine lv_lload_n hx hb dX3_isHour_6 rfl (lv_at hl 0 rfl) ?_
    refine lv_ldc2 (v := 400) hx hb E.2.2.1 (E.2.2.2.1 _ q1215) dX3_isHour_7 ?_
    refine W.lcmp hx hb dX3_isHour_10 ?_
    refine lv_if_gt (tgt := 18) hx hb dX3_isHour_11 (by decide) (fun k6 => ?_) (fun k6 => ?_)
    · have h7 := lc_gt k6
      have b8 : BdL wa1 (401) (9223372036854775807) := ⟨((rf_ltL (by decide : BdL 400 (400) (400)) b5 h7).2).1, (b5).2⟩
      refine lv_iconst (v := 0) hx hb dX3_isHour_18 (by decide) ?_
      exact xrz E hr hlk hQ rfl (⟨rfl, (ib_wk (by decide : Bd 0 (0) (0)) (by decide) (by decide))⟩) dX3_isHour_19
    · have h9 := lc_ngt k6
      have b10 : BdL wa1 (0) (400) := ⟨(b5).1, ((rf_leL b5 (by decide : BdL 400 (400) (400)) h9).1).2⟩
      refine lv_iconst (v := 1) hx hb dX3_isHour_14 (by decide) ?_
      refine lv_goto (tgt := 19) hx hb dX3_isHour_15 (by decide) ?_
      exact xrz E hr hlk hQ rfl (⟨rfl, (ib_wk (by decide : Bd 1 (1) (1)) (by decide) (by decide))⟩) dX3_isHour_19
set_option maxHeartbeats 4000000 in
set_option maxRecDepth 100000 in
theorem gX3_areAllSuch_119_113 (l : Launch) (g : GG) (ad : Nat → Nat) (hD : Dj ad 122) (S : SS) (hI : InvX g ad S) (a2 : Int32) (ba2 : Bd a2 (-1) (60)) : Met l yX3_areAllSuch (wG (.code yX3_areAllSuch cX3_areAllSuch 4 (some .boolean))) (Rm 1) (XPre g ad 122 S [.ref (ad 119), .ref (ad 113), .int a2]) (va_Qi (fun r S' => S = S' ∧ Bd r (0) (1)) (QB g ad 122) (FA ad 122)) 0 0 (FA ad 122) := by
  refine xmet cX3_areAllSuch "EbbWreck$Floats" (by decide) rfl (Nat.le_of_ble_eq_true rfl) (fun p e s m below meth c E hr hlk hml hQ ls hl => ?_)
  have hx := E.1
  have hb := E.2.1
  have hs : Sp ad 122 (FA ad 122) := Sp.fa hD
  have hl : lv_has ls 4 [(0, .ref (ad 119)), (1, .ref (ad 113)), (2, .int a2)] := hl
  refine lv_iconst (v := 0) hx hb dX3_areAllSuch_0 (by decide) ?_
  refine lv_istore_n (lv' := [(3, .int 0), (0, .ref (ad 119)), (1, .ref (ad 113)), (2, .int a2)]) hx hb dX3_areAllSuch_1 rfl hl (by decide) rfl (fun ls hl => ?_)
  have loop2 : ∀ (n : Nat) (H : Heap) (locs : List Loc) (ls : Array Slot) (x2_3 : Int32), Bd x2_3 (0) (60) → (-1) * x2_3.toInt + 60 < ((n : Nat) : Int) → Hp g ad 122 S (FA ad 122) s.heap H locs → lv_has ls 4 [(3, .int x2_3), (0, .ref (ad 119)), (1, .ref (ad 113)), (2, .int a2)] → W p l e (Rm 1) s m [.ref (ad 119), .ref (ad 113), .int a2].toArray below meth c H locs 0 0 (MQ below (va_Qi (fun r S' => S = S' ∧ Bd r (0) (1)) (QB g ad 122) (FA ad 122)) [.ref (ad 119), .ref (ad 113), .int a2].toArray s 0 0 (FA ad 122)) (F0 m 2 ls []) := by
    intro n
    induction n with
    | zero => intro H locs ls x2_3 Bx2_3 hn2_ hQ hl; exfalso; have := (Bx2_3).2; omega
    | succ n2_ ih2 =>
      intro H locs ls x2_3 Bx2_3 hn2_ hQ hl
      refine lv_iload_n hx hb dX3_areAllSuch_2 rfl (lv_at hl 0 rfl) ?_
      refine lv_iconst (v := 4) hx hb dX3_areAllSuch_3 (by decide) ?_
      refine lv_iadd hx hb dX3_areAllSuch_4 ?_
      refine lv_topi (fun z1 e2 => ?_)
      have t3 := ib_add e2 Bx2_3 (by decide : Bd 4 (4) (4)) (by decide) (by decide)
      have b4 : Bd z1 (4) (64) := ib_addb t3 Bx2_3 (by decide : Bd 4 (4) (4))
      have t3 : z1.toInt = x2_3.toInt + 4 := fold_add t3 rfl (by decide)
      refine lv_iload_n hx hb dX3_areAllSuch_5 rfl (lv_at hl 3 rfl) ?_
      refine lv_icmp_gt (tgt := 75) hx hb dX3_areAllSuch_6 (by decide) (fun k5 => ?_) (fun k5 => ?_)
      · have h6 := ib_lt k5
        refine lv_iconst (v := 1) hx hb dX3_areAllSuch_75 (by decide) ?_
        exact xrz E hr hlk hQ rfl (⟨rfl, (ib_wk (by decide : Bd 1 (1) (1)) (by decide) (by decide))⟩) dX3_areAllSuch_76
      · have h7 := ib_nlt k5
        have b8 : Bd z1 (4) (60) := ⟨(b4).1, ((rf_le b4 ba2 h7).1).2⟩
        have b9 : Bd a2 (4) (60) := ⟨((rf_le b4 ba2 h7).2).1, (ba2).2⟩
        have b10 : Bd x2_3 (0) (56) := ⟨by omega, by omega⟩
        refine lv_aload_n hx hb dX3_areAllSuch_9 rfl (lv_at hl 1 rfl) ?_
        refine lv_aload_n hx hb dX3_areAllSuch_10 rfl (lv_at hl 2 rfl) ?_
        refine lv_iload_n hx hb dX3_areAllSuch_11 rfl (lv_at hl 0 rfl) ?_
        obtain ⟨f11, c12⟩ := invX_113 hI
        refine xlald E hQ 113 (by decide) c12 (ib_in b10 (by decide) (by decide)) dX3_areAllSuch_12 ?_
        refine lv_topl (fun w14 e15 => ?_)
        obtain ⟨v17, c19, b18⟩ := invX_119 hI
        have c19 : S 119 = .inr (3, [.ref (ad 2), .ref (ad 111), .ref (ad 120), .int v17, .ref (ad 121)]) := c19
        refine xcVi E hs hQ hml hl.1 119 (gX3_isCell_119 l g ad hD S hI w14) mX3_isCell q1208 (by decide) c19 rfl rfl ⟨(Nat.le_of_ble_eq_true rfl), (Nat.le_of_ble_eq_true rfl)⟩ ⟨(Nat.le_of_ble_eq_true rfl), (Nat.le_of_ble_eq_true rfl)⟩ (Nat.le_of_ble_eq_true rfl) rfl dX3_areAllSuch_13 (fun r16 S16 H locs hp16 hQ _ => ?_)
        obtain ⟨rfl, b16⟩ := hp16
        refine lv_if_eq (tgt := 67) hx hb dX3_areAllSuch_16 (by decide) (fun k20 => ?_) (fun k20 => ?_)
        · have h21 := ib_eq k20
          have b22 : Bd r16 (0) (0) := ⟨(b16).1, ((rf_eq b16 (by decide : Bd 0 (0) (0)) h21).1).2⟩
          refine lv_iconst (v := 0) hx hb dX3_areAllSuch_67 (by decide) ?_
          exact xrz E hr hlk hQ rfl (⟨rfl, (ib_wk (by decide : Bd 0 (0) (0)) (by decide) (by decide))⟩) dX3_areAllSuch_68
        · have h23 := ib_ne k20
          have b24 : Bd r16 (1) (1) := rf_nlo b16 (by decide : Bd 0 (0) (0)) h23
          refine lv_aload_n hx hb dX3_areAllSuch_19 rfl (lv_at hl 2 rfl) ?_
          refine lv_iload_n hx hb dX3_areAllSuch_20 rfl (lv_at hl 0 rfl) ?_
          refine lv_iconst (v := 1) hx hb dX3_areAllSuch_21 (by decide) ?_
          refine lv_iadd hx hb dX3_areAllSuch_22 ?_
          refine lv_topi (fun z25 e26 => ?_)
          have t27 := ib_add e26 b10 (by decide : Bd 1 (1) (1)) (by decide) (by decide)
          have b28 : Bd z25 (1) (57) := ib_addb t27 b10 (by decide : Bd 1 (1) (1))
          have t27 : z25.toInt = x2_3.toInt + 1 := fold_add t27 rfl (by decide)
          refine xlald E hQ 113 (by decide) c12 (ib_in b28 (by decide) (by decide)) dX3_areAllSuch_23 ?_
          refine lv_topl (fun w29 e30 => ?_)
          refine xcSi E hs hQ hml hl.1 (gX3_isHour l g ad hD S hI w29) mX3_isHour q1212 rfl ⟨(Nat.le_of_ble_eq_true rfl), (Nat.le_of_ble_eq_true rfl)⟩ ⟨(Nat.le_of_ble_eq_true rfl), (Nat.le_of_ble_eq_true rfl)⟩ (Nat.le_of_ble_eq_true rfl) rfl dX3_areAllSuch_24 (fun r31 S31 H locs hp31 hQ => ?_)
          obtain ⟨rfl, b31⟩ := hp31
          refine lv_if_eq (tgt := 67) hx hb dX3_areAllSuch_27 (by decide) (fun k32 => ?_) (fun k32 => ?_)
          · have h33 := ib_eq k32
            have b34 : Bd r31 (0) (0) := ⟨(b31).1, ((rf_eq b31 (by decide : Bd 0 (0) (0)) h33).1).2⟩
            refine lv_iconst (v := 0) hx hb dX3_areAllSuch_67 (by decide) ?_
            exact xrz E hr hlk hQ rfl (⟨rfl, (ib_wk (by decide : Bd 0 (0) (0)) (by decide) (by decide))⟩) dX3_areAllSuch_68
          · have h35 := ib_ne k32
            have b36 : Bd r31 (1) (1) := rf_nlo b31 (by decide : Bd 0 (0) (0)) h35
            refine lv_aload_n hx hb dX3_areAllSuch_30 rfl (lv_at hl 2 rfl) ?_
            refine lv_iload_n hx hb dX3_areAllSuch_31 rfl (lv_at hl 0 rfl) ?_
            refine lv_iconst (v := 2) hx hb dX3_areAllSuch_32 (by decide) ?_
            refine lv_iadd hx hb dX3_areAllSuch_33 ?_
            refine lv_topi (fun z37 e38 => ?_)
            have t39 := ib_add e38 b10 (by decide : Bd 2 (2) (2)) (by decide) (by decide)
            have b40 : Bd z37 (2) (58) := ib_addb t39 b10 (by decide : Bd 2 (2) (2))
            have t39 : z37.toInt = x2_3.toInt + 2 := fold_add t39 rfl (by decide)
            refine xlald E hQ 113 (by decide) c12 (ib_in b40 (by decide) (by decide)) dX3_areAllSuch_34 ?_
            refine lv_topl (fun w41 e42 => ?_)
            refine xcSi E hs hQ hml hl.1 (gX3_isHour l g ad hD S hI w41) mX3_isHour q1212 rfl ⟨(Nat.le_of_ble_eq_true rfl), (Nat.le_of_ble_eq_true rfl)⟩ ⟨(Nat.le_of_ble_eq_true rfl), (Nat.le_of_ble_eq_true rfl)⟩ (Nat.le_of_ble_eq_true rfl) rfl dX3_areAllSuch_35 (fun r43 S43 H locs hp43 hQ => ?_)
            obtain ⟨rfl, b43⟩ := hp43
            refine lv_if_eq (tgt := 67) hx hb dX3_areAllSuch_38 (by decide) (fun k44 => ?_) (fun k44 => ?_)
            · have h45 := ib_eq k44
              have b46 : Bd r43 (0) (0) := ⟨(b43).1, ((rf_eq b43 (by decide : Bd 0 (0) (0)) h45).1).2⟩
              refine lv_iconst (v := 0) hx hb dX3_areAllSuch_67 (by decide) ?_
              exact xrz E hr hlk hQ rfl (⟨rfl, (ib_wk (by decide : Bd 0 (0) (0)) (by decide) (by decide))⟩) dX3_areAllSuch_68
            · have h47 := ib_ne k44
              have b48 : Bd r43 (1) (1) := rf_nlo b43 (by decide : Bd 0 (0) (0)) h47
              refine lv_aload_n hx hb dX3_areAllSuch_41 rfl (lv_at hl 1 rfl) ?_
              refine lv_aload_n hx hb dX3_areAllSuch_42 rfl (lv_at hl 2 rfl) ?_
              refine lv_iload_n hx hb dX3_areAllSuch_43 rfl (lv_at hl 0 rfl) ?_
              refine lv_iconst (v := 3) hx hb dX3_areAllSuch_44 (by decide) ?_
              refine lv_iadd hx hb dX3_areAllSuch_45 ?_
              refine lv_topi (fun z49 e50 => ?_)
              have t51 := ib_add e50 b10 (by decide : Bd 3 (3) (3)) (by decide) (by decide)
              have b52 : Bd z49 (3) (59) := ib_addb t51 b10 (by decide : Bd 3 (3) (3))
              have t51 : z49.toInt = x2_3.toInt + 3 := fold_add t51 rfl (by decide)
              refine xlald E hQ 113 (by decide) c12 (ib_in b52 (by decide) (by decide)) dX3_areAllSuch_46 ?_
              refine lv_topl (fun w53 e54 => ?_)
              refine xcVi E hs hQ hml hl.1 119 (gX3_isCell_119 l g ad hD S hI w53) mX3_isCell q1208 (by decide) c19 rfl rfl ⟨(Nat.le_of_ble_eq_true rfl), (Nat.le_of_ble_eq_true rfl)⟩ ⟨(Nat.le_of_ble_eq_true rfl), (Nat.le_of_ble_eq_true rfl)⟩ (Nat.le_of_ble_eq_true rfl) rfl dX3_areAllSuch_47 (fun r55 S55 H locs hp55 hQ _ => ?_)
              obtain ⟨rfl, b55⟩ := hp55
              refine lv_if_eq (tgt := 67) hx hb dX3_areAllSuch_50 (by decide) (fun k56 => ?_) (fun k56 => ?_)
              · have h57 := ib_eq k56
                have b58 : Bd r55 (0) (0) := ⟨(b55).1, ((rf_eq b55 (by decide : Bd 0 (0) (0)) h57).1).2⟩
                refine lv_iconst (v := 0) hx hb dX3_areAllSuch_67 (by decide) ?_
                exact xrz E hr hlk hQ rfl (⟨rfl, (ib_wk (by decide : Bd 0 (0) (0)) (by decide) (by decide))⟩) dX3_areAllSuch_68
              · have h59 := ib_ne k56
                have b60 : Bd r55 (1) (1) := rf_nlo b55 (by decide : Bd 0 (0) (0)) h59
                refine lv_aload_n hx hb dX3_areAllSuch_53 rfl (lv_at hl 2 rfl) ?_
                refine lv_iload_n hx hb dX3_areAllSuch_54 rfl (lv_at hl 0 rfl) ?_
                refine lv_iconst (v := 2) hx hb dX3_areAllSuch_55 (by decide) ?_
                refine lv_iadd hx hb dX3_areAllSuch_56 ?_
                refine lv_topi (fun z61 e62 => ?_)
                have t63 := ib_add e62 b10 (by decide : Bd 2 (2) (2)) (by decide) (by decide)
                have b64 : Bd z61 (2) (58) := ib_addb t63 b10 (by decide : Bd 2 (2) (2))
                have t63 : z61.toInt = x2_3.toInt + 2 := fold_add t63 rfl (by decide)
                refine xlald E hQ 113 (by decide) c12 (ib_in b64 (by decide) (by decide)) dX3_areAllSuch_57 ?_
                refine lv_topl (fun w65 e66 => ?_)
                refine lv_aload_n hx hb dX3_areAllSuch_58 rfl (lv_at hl 2 rfl) ?_
                refine lv_iload_n hx hb dX3_areAllSuch_59 rfl (lv_at hl 0 rfl) ?_
                refine lv_iconst (v := 1) hx hb dX3_areAllSuch_60 (by decide) ?_
                refine lv_iadd hx hb dX3_areAllSuch_61 ?_
                refine lv_topi (fun z67 e68 => ?_)
                have t69 := ib_add e68 b10 (by decide : Bd 1 (1) (1)) (by decide) (by decide)
                have b70 : Bd z67 (1) (57) := ib_addb t69 b10 (by decide : Bd 1 (1) (1))
                have t69 : z67.toInt = x2_3.toInt + 1 := fold_add t69 rfl (by decide)
                refine xlald E hQ 113 (by decide) c12 (ib_in b70 (by decide) (by decide)) dX3_areAllSuch_62 ?_
                refine lv_topl (fun w71 e72 => ?_)
                refine W.lcmp hx hb dX3_areAllSuch_63 ?_
                refine lv_if_ge (tgt := 69) hx hb dX3_areAllSuch_64 (by decide) (fun k73 => ?_) (fun k73 => ?_)
                · have h74 := lc_ge k73
                  obtain ⟨z75, e76⟩ : ∃ z : Int32, z = x2_3 + 4 := ⟨_, rfl⟩
                  have t77 := ib_add e76 b10 (by decide : Bd 4 (4) (4)) (by decide) (by decide)
                  have b78 : Bd z75 (4) (60) := ib_addb t77 b10 (by decide : Bd 4 (4) (4))
                  have t77 : z75.toInt = x2_3.toInt + 4 := fold_add t77 rfl (by decide)
                  refine lv_iinc (v := z75) (lv' := [(3, .int z75), (0, .ref (ad 119)), (1, .ref (ad 113)), (2, .int a2)]) hx hb dX3_areAllSuch_69 hl (k := 0) rfl (by rw [e76]; rfl) (by decide) rfl (fun ls hl => ?_)
                  refine lv_goto (tgt := 2) hx hb dX3_areAllSuch_72 (by decide) ?_
                  exact ih2 _ _ _ z75 (ib_wk b78 (by decide) (by decide)) (by omega) hQ (lv_sub hl [0, 1, 2, 3] rfl)
                · have h79 := lc_nge k73
                  have b80 : BdL w65 (-9223372036854775808) (9223372036854775806) := ⟨((ib_fullL w65)).1, ((rf_ltL (ib_fullL w65) (ib_fullL w71) h79).1).2⟩
                  have b81 : BdL w71 (-9223372036854775807) (9223372036854775807) := ⟨((rf_ltL (ib_fullL w65) (ib_fullL w71) h79).2).1, ((ib_fullL w71)).2⟩
                  refine lv_iconst (v := 0) hx hb dX3_areAllSuch_67 (by decide) ?_
                  exact xrz E hr hlk hQ rfl (⟨rfl, (ib_wk (by decide : Bd 0 (0) (0)) (by decide) (by decide))⟩) dX3_areAllSuch_68
  obtain ⟨n2, hn2⟩ := fu_n (60)
  exact loop2 n2 _ _ _ 0 (ib_wk (by decide : Bd 0 (0) (0)) (by decide) (by decide)) (by have : (0 : Int32).toInt = 0 := (by decide); omega) hQ (lv_sub hl [0, 1, 2, 3] rfl)
set_option maxHeartbeats 4000000 in
set_option maxRecDepth 100000 in
theorem gX3_areAllSuch_119_114 (l : Launch) (g : GG) (ad : Nat → Nat) (hD : Dj ad 122) (S : SS) (hI : InvX g ad S) (a2 : Int32) (ba2 : Bd a2 (-1) (60)) : Met l yX3_areAllSuch (wG (.code yX3_areAllSuch cX3_areAllSuch 4 (some .boolean))) (Rm 1) (XPre g ad 122 S [.ref (ad 119), .ref (ad 114), .int a2]) (va_Qi (fun r S' => S = S' ∧ Bd r (0) (1)) (QB g ad 122) (FA ad 122)) 0 0 (FA ad 122) := by
  refine xmet cX3_areAllSuch "EbbWreck$Floats" (by decide) rfl (Nat.le_of_ble_eq_true rfl) (fun p e s m below meth c E hr hlk hml hQ ls hl => ?_)
  have hx := E.1
  have hb := E.2.1
  have hs : Sp ad 122 (FA ad 122) := Sp.fa hD
  have hl : lv_has ls 4 [(0, .ref (ad 119)), (1, .ref (ad 114)), (2, .int a2)] := hl
  refine lv_iconst (v := 0) hx hb dX3_areAllSuch_0 (by decide) ?_
  refine lv_istore_n (lv' := [(3, .int 0), (0, .ref (ad 119)), (1, .ref (ad 114)), (2, .int a2)]) hx hb dX3_areAllSuch_1 rfl hl (by decide) rfl (fun ls hl => ?_)
  have loop2 : ∀ (n : Nat) (H : Heap) (locs : List Loc) (ls : Array Slot) (x2_3 : Int32), Bd x2_3 (0) (60) → (-1) * x2_3.toInt + 60 < ((n : Nat) : Int) → Hp g ad 122 S (FA ad 122) s.heap H locs → lv_has ls 4 [(3, .int x2_3), (0, .ref (ad 119)), (1, .ref (ad 114)), (2, .int a2)] → W p l e (Rm 1) s m [.ref (ad 119), .ref (ad 114), .int a2].toArray below meth c H locs 0 0 (MQ below (va_Qi (fun r S' => S = S' ∧ Bd r (0) (1)) (QB g ad 122) (FA ad 122)) [.ref (ad 119), .ref (ad 114), .int a2].toArray s 0 0 (FA ad 122)) (F0 m 2 ls []) := by
    intro n
    induction n with
    | zero => intro H locs ls x2_3 Bx2_3 hn2_ hQ hl; exfalso; have := (Bx2_3).2; omega
    | succ n2_ ih2 =>
      intro H locs ls x2_3 Bx2_3 hn2_ hQ hl
      refine lv_iload_n hx hb dX3_areAllSuch_2 rfl (lv_at hl 0 rfl) ?_
      refine lv_iconst (v := 4) hx hb dX3_areAllSuch_3 (by decide) ?_
      refine lv_iadd hx hb dX3_areAllSuch_4 ?_
      refine lv_topi (fun z1 e2 => ?_)
      have t3 := ib_add e2 Bx2_3 (by decide : Bd 4 (4) (4)) (by decide) (by decide)
      have b4 : Bd z1 (4) (64) := ib_addb t3 Bx2_3 (by decide : Bd 4 (4) (4))
      have t3 : z1.toInt = x2_3.toInt + 4 := fold_add t3 rfl (by decide)
      refine lv_iload_n hx hb dX3_areAllSuch_5 rfl (lv_at hl 3 rfl) ?_
      refine lv_icmp_gt (tgt := 75) hx hb dX3_areAllSuch_6 (by decide) (fun k5 => ?_) (fun k5 => ?_)
      · have h6 := ib_lt k5
        refine lv_iconst (v := 1) hx hb dX3_areAllSuch_75 (by decide) ?_
        exact xrz E hr hlk hQ rfl (⟨rfl, (ib_wk (by decide : Bd 1 (1) (1)) (by decide) (by decide))⟩) dX3_areAllSuch_76
      · have h7 := ib_nlt k5
        have b8 : Bd z1 (4) (60) := ⟨(b4).1, ((rf_le b4 ba2 h7).1).2⟩
        have b9 : Bd a2 (4) (60) := ⟨((rf_le b4 ba2 h7).2).1, (ba2).2⟩
        have b10 : Bd x2_3 (0) (56) := ⟨by omega, by omega⟩
        refine lv_aload_n hx hb dX3_areAllSuch_9 rfl (lv_at hl 1 rfl) ?_
        refine lv_aload_n hx hb dX3_areAllSuch_10 rfl (lv_at hl 2 rfl) ?_
        refine lv_iload_n hx hb dX3_areAllSuch_11 rfl (lv_at hl 0 rfl) ?_
        obtain ⟨f11, c12⟩ := invX_114 hI
        refine xlald E hQ 114 (by decide) c12 (ib_in b10 (by decide) (by decide)) dX3_areAllSuch_12 ?_
        refine lv_topl (fun w14 e15 => ?_)
        obtain ⟨v17, c19, b18⟩ := invX_119 hI
        have c19 : S 119 = .inr (3, [.ref (ad 2), .ref (ad 111), .ref (ad 120), .int v17, .ref (ad 121)]) := c19
        refine xcVi E hs hQ hml hl.1 119 (gX3_isCell_119 l g ad hD S hI w14) mX3_isCell q1208 (by decide) c19 rfl rfl ⟨(Nat.le_of_ble_eq_true rfl), (Nat.le_of_ble_eq_true rfl)⟩ ⟨(Nat.le_of_ble_eq_true rfl), (Nat.le_of_ble_eq_true rfl)⟩ (Nat.le_of_ble_eq_true rfl) rfl dX3_areAllSuch_13 (fun r16 S16 H locs hp16 hQ _ => ?_)
        obtain ⟨rfl, b16⟩ := hp16
        refine lv_if_eq (tgt := 67) hx hb dX3_areAllSuch_16 (by decide) (fun k20 => ?_) (fun k20 => ?_)
        · have h21 := ib_eq k20
          have b22 : Bd r16 (0) (0) := ⟨(b16).1, ((rf_eq b16 (by decide : Bd 0 (0) (0)) h21).1).2⟩
          refine lv_iconst (v := 0) hx hb dX3_areAllSuch_67 (by decide) ?_
          exact xrz E hr hlk hQ rfl (⟨rfl, (ib_wk (by decide : Bd 0 (0) (0)) (by decide) (by decide))⟩) dX3_areAllSuch_68
        · have h23 := ib_ne k20
          have b24 : Bd r16 (1) (1) := rf_nlo b16 (by decide : Bd 0 (0) (0)) h23
          refine lv_aload_n hx hb dX3_areAllSuch_19 rfl (lv_at hl 2 rfl) ?_
          refine lv_iload_n hx hb dX3_areAllSuch_20 rfl (lv_at hl 0 rfl) ?_
          refine lv_iconst (v := 1) hx hb dX3_areAllSuch_21 (by decide) ?_
          refine lv_iadd hx hb dX3_areAllSuch_22 ?_
          refine lv_topi (fun z25 e26 => ?_)
          have t27 := ib_add e26 b10 (by decide : Bd 1 (1) (1)) (by decide) (by decide)
          have b28 : Bd z25 (1) (57) := ib_addb t27 b10 (by decide : Bd 1 (1) (1))
          have t27 : z25.toInt = x2_3.toInt + 1 := fold_add t27 rfl (by decide)
          refine xlald E hQ 114 (by decide) c12 (ib_in b28 (by decide) (by decide)) dX3_areAllSuch_23 ?_
          refine lv_topl (fun w29 e30 => ?_)
          refine xcSi E hs hQ hml hl.1 (gX3_isHour l g ad hD S hI w29) mX3_isHour q1212 rfl ⟨(Nat.le_of_ble_eq_true rfl), (Nat.le_of_ble_eq_true rfl)⟩ ⟨(Nat.le_of_ble_eq_true rfl), (Nat.le_of_ble_eq_true rfl)⟩ (Nat.le_of_ble_eq_true rfl) rfl dX3_areAllSuch_24 (fun r31 S31 H locs hp31 hQ => ?_)
          obtain ⟨rfl, b31⟩ := hp31
          refine lv_if_eq (tgt := 67) hx hb dX3_areAllSuch_27 (by decide) (fun k32 => ?_) (fun k32 => ?_)
          · have h33 := ib_eq k32
            have b34 : Bd r31 (0) (0) := ⟨(b31).1, ((rf_eq b31 (by decide : Bd 0 (0) (0)) h33).1).2⟩
            refine lv_iconst (v := 0) hx hb dX3_areAllSuch_67 (by decide) ?_
            exact xrz E hr hlk hQ rfl (⟨rfl, (ib_wk (by decide : Bd 0 (0) (0)) (by decide) (by decide))⟩) dX3_areAllSuch_68
          · have h35 := ib_ne k32
            have b36 : Bd r31 (1) (1) := rf_nlo b31 (by decide : Bd 0 (0) (0)) h35
            refine lv_aload_n hx hb dX3_areAllSuch_30 rfl (lv_at hl 2 rfl) ?_
            refine lv_iload_n hx hb dX3_areAllSuch_31 rfl (lv_at hl 0 rfl) ?_
            refine lv_iconst (v := 2) hx hb dX3_areAllSuch_32 (by decide) ?_
            refine lv_iadd hx hb dX3_areAllSuch_33 ?_
            refine lv_topi (fun z37 e38 => ?_)
            have t39 := ib_add e38 b10 (by decide : Bd 2 (2) (2)) (by decide) (by decide)
            have b40 : Bd z37 (2) (58) := ib_addb t39 b10 (by decide : Bd 2 (2) (2))
            have t39 : z37.toInt = x2_3.toInt + 2 := fold_add t39 rfl (by decide)
            refine xlald E hQ 114 (by decide) c12 (ib_in b40 (by decide) (by decide)) dX3_areAllSuch_34 ?_
            refine lv_topl (fun w41 e42 => ?_)
            refine xcSi E hs hQ hml hl.1 (gX3_isHour l g ad hD S hI w41) mX3_isHour q1212 rfl ⟨(Nat.le_of_ble_eq_true rfl), (Nat.le_of_ble_eq_true rfl)⟩ ⟨(Nat.le_of_ble_eq_true rfl), (Nat.le_of_ble_eq_true rfl)⟩ (Nat.le_of_ble_eq_true rfl) rfl dX3_areAllSuch_35 (fun r43 S43 H locs hp43 hQ => ?_)
            obtain ⟨rfl, b43⟩ := hp43
            refine lv_if_eq (tgt := 67) hx hb dX3_areAllSuch_38 (by decide) (fun k44 => ?_) (fun k44 => ?_)
            · have h45 := ib_eq k44
              have b46 : Bd r43 (0) (0) := ⟨(b43).1, ((rf_eq b43 (by decide : Bd 0 (0) (0)) h45).1).2⟩
              refine lv_iconst (v := 0) hx hb dX3_areAllSuch_67 (by decide) ?_
              exact xrz E hr hlk hQ rfl (⟨rfl, (ib_wk (by decide : Bd 0 (0) (0)) (by decide) (by decide))⟩) dX3_areAllSuch_68
            · have h47 := ib_ne k44
              have b48 : Bd r43 (1) (1) := rf_nlo b43 (by decide : Bd 0 (0) (0)) h47
              refine lv_aload_n hx hb dX3_areAllSuch_41 rfl (lv_at hl 1 rfl) ?_
              refine lv_aload_n hx hb dX3_areAllSuch_42 rfl (lv_at hl 2 rfl) ?_
              refine lv_iload_n hx hb dX3_areAllSuch_43 rfl (lv_at hl 0 rfl) ?_
              refine lv_iconst (v := 3) hx hb dX3_areAllSuch_44 (by decide) ?_
              refine lv_iadd hx hb dX3_areAllSuch_45 ?_
              refine lv_topi (fun z49 e50 => ?_)
              have t51 := ib_add e50 b10 (by decide : Bd 3 (3) (3)) (by decide) (by decide)
              have b52 : Bd z49 (3) (59) := ib_addb t51 b10 (by decide : Bd 3 (3) (3))
              have t51 : z49.toInt = x2_3.toInt + 3 := fold_add t51 rfl (by decide)
              refine xlald E hQ 114 (by decide) c12 (ib_in b52 (by decide) (by decide)) dX3_areAllSuch_46 ?_
              refine lv_topl (fun w53 e54 => ?_)
              refine xcVi E hs hQ hml hl.1 119 (gX3_isCell_119 l g ad hD S hI w53) mX3_isCell q1208 (by decide) c19 rfl rfl ⟨(Nat.le_of_ble_eq_true rfl), (Nat.le_of_ble_eq_true rfl)⟩ ⟨(Nat.le_of_ble_eq_true rfl), (Nat.le_of_ble_eq_true rfl)⟩ (Nat.le_of_ble_eq_true rfl) rfl dX3_areAllSuch_47 (fun r55 S55 H locs hp55 hQ _ => ?_)
              obtain ⟨rfl, b55⟩ := hp55
              refine lv_if_eq (tgt := 67) hx hb dX3_areAllSuch_50 (by decide) (fun k56 => ?_) (fun k56 => ?_)
              · have h57 := ib_eq k56
                have b58 : Bd r55 (0) (0) := ⟨(b55).1, ((rf_eq b55 (by decide : Bd 0 (0) (0)) h57).1).2⟩
                refine lv_iconst (v := 0) hx hb dX3_areAllSuch_67 (by decide) ?_
                exact xrz E hr hlk hQ rfl (⟨rfl, (ib_wk (by decide : Bd 0 (0) (0)) (by decide) (by decide))⟩) dX3_areAllSuch_68
              · have h59 := ib_ne k56
                have b60 : Bd r55 (1) (1) := rf_nlo b55 (by decide : Bd 0 (0) (0)) h59
                refine lv_aload_n hx hb dX3_areAllSuch_53 rfl (lv_at hl 2 rfl) ?_
                refine lv_iload_n hx hb dX3_areAllSuch_54 rfl (lv_at hl 0 rfl) ?_
                refine lv_iconst (v := 2) hx hb dX3_areAllSuch_55 (by decide) ?_
                refine lv_iadd hx hb dX3_areAllSuch_56 ?_
                refine lv_topi (fun z61 e62 => ?_)
                have t63 := ib_add e62 b10 (by decide : Bd 2 (2) (2)) (by decide) (by decide)
                have b64 : Bd z61 (2) (58) := ib_addb t63 b10 (by decide : Bd 2 (2) (2))
                have t63 : z61.toInt = x2_3.toInt + 2 := fold_add t63 rfl (by decide)
                refine xlald E hQ 114 (by decide) c12 (ib_in b64 (by decide) (by decide)) dX3_areAllSuch_57 ?_
                refine lv_topl (fun w65 e66 => ?_)
                refine lv_aload_n hx hb dX3_areAllSuch_58 rfl (lv_at hl 2 rfl) ?_
                refine lv_iload_n hx hb dX3_areAllSuch_59 rfl (lv_at hl 0 rfl) ?_
                refine lv_iconst (v := 1) hx hb dX3_areAllSuch_60 (by decide) ?_
                refine lv_iadd hx hb dX3_areAllSuch_61 ?_
                refine lv_topi (fun z67 e68 => ?_)
                have t69 := ib_add e68 b10 (by decide : Bd 1 (1) (1)) (by decide) (by decide)
                have b70 : Bd z67 (1) (57) := ib_addb t69 b10 (by decide : Bd 1 (1) (1))
                have t69 : z67.toInt = x2_3.toInt + 1 := fold_add t69 rfl (by decide)
                refine xlald E hQ 114 (by decide) c12 (ib_in b70 (by decide) (by decide)) dX3_areAllSuch_62 ?_
                refine lv_topl (fun w71 e72 => ?_)
                refine W.lcmp hx hb dX3_areAllSuch_63 ?_
                refine lv_if_ge (tgt := 69) hx hb dX3_areAllSuch_64 (by decide) (fun k73 => ?_) (fun k73 => ?_)
                · have h74 := lc_ge k73
                  obtain ⟨z75, e76⟩ : ∃ z : Int32, z = x2_3 + 4 := ⟨_, rfl⟩
                  have t77 := ib_add e76 b10 (by decide : Bd 4 (4) (4)) (by decide) (by decide)
                  have b78 : Bd z75 (4) (60) := ib_addb t77 b10 (by decide : Bd 4 (4) (4))
                  have t77 : z75.toInt = x2_3.toInt + 4 := fold_add t77 rfl (by decide)
                  refine lv_iinc (v := z75) (lv' := [(3, .int z75), (0, .ref (ad 119)), (1, .ref (ad 114)), (2, .int a2)]) hx hb dX3_areAllSuch_69 hl (k := 0) rfl (by rw [e76]; rfl) (by decide) rfl (fun ls hl => ?_)
                  refine lv_goto (tgt := 2) hx hb dX3_areAllSuch_72 (by decide) ?_
                  exact ih2 _ _ _ z75 (ib_wk b78 (by decide) (by decide)) (by omega) hQ (lv_sub hl [0, 1, 2, 3] rfl)
                · have h79 := lc_nge k73
                  have b80 : BdL w65 (-9223372036854775808) (9223372036854775806) := ⟨((ib_fullL w65)).1, ((rf_ltL (ib_fullL w65) (ib_fullL w71) h79).1).2⟩
                  have b81 : BdL w71 (-9223372036854775807) (9223372036854775807) := ⟨((rf_ltL (ib_fullL w65) (ib_fullL w71) h79).2).1, ((ib_fullL w71)).2⟩
                  refine lv_iconst (v := 0) hx hb dX3_areAllSuch_67 (by decide) ?_
                  exact xrz E hr hlk hQ rfl (⟨rfl, (ib_wk (by decide : Bd 0 (0) (0)) (by decide) (by decide))⟩) dX3_areAllSuch_68
  obtain ⟨n2, hn2⟩ := fu_n (60)
  exact loop2 n2 _ _ _ 0 (ib_wk (by decide : Bd 0 (0) (0)) (by decide) (by decide)) (by have : (0 : Int32).toInt = 0 := (by decide); omega) hQ (lv_sub hl [0, 1, 2, 3] rfl)
set_option maxHeartbeats 4000000 in
set_option maxRecDepth 100000 in
theorem gX3_areAllSuch_119_115 (l : Launch) (g : GG) (ad : Nat → Nat) (hD : Dj ad 122) (S : SS) (hI : InvX g ad S) (a2 : Int32) (ba2 : Bd a2 (-1) (60)) : Met l yX3_areAllSuch (wG (.code yX3_areAllSuch cX3_areAllSuch 4 (some .boolean))) (Rm 1) (XPre g ad 122 S [.ref (ad 119), .ref (ad 115), .int a2]) (va_Qi (fun r S' => S = S' ∧ Bd r (0) (1)) (QB g ad 122) (FA ad 122)) 0 0 (FA ad 122) := by
  refine xmet cX3_areAllSuch "EbbWreck$Floats" (by decide) rfl (Nat.le_of_ble_eq_true rfl) (fun p e s m below meth c E hr hlk hml hQ ls hl => ?_)
  have hx := E.1
  have hb := E.2.1
  have hs : Sp ad 122 (FA ad 122) := Sp.fa hD
  have hl : lv_has ls 4 [(0, .ref (ad 119)), (1, .ref (ad 115)), (2, .int a2)] := hl
  refine lv_iconst (v := 0) hx hb dX3_areAllSuch_0 (by decide) ?_
  refine lv_istore_n (lv' := [(3, .int 0), (0, .ref (ad 119)), (1, .ref (ad 115)), (2, .int a2)]) hx hb dX3_areAllSuch_1 rfl hl (by decide) rfl (fun ls hl => ?_)
  have loop2 : ∀ (n : Nat) (H : Heap) (locs : List Loc) (ls : Array Slot) (x2_3 : Int32), Bd x2_3 (0) (60) → (-1) * x2_3.toInt + 60 < ((n : Nat) : Int) → Hp g ad 122 S (FA ad 122) s.heap H locs → lv_has ls 4 [(3, .int x2_3), (0, .ref (ad 119)), (1, .ref (ad 115)), (2, .int a2)] → W p l e (Rm 1) s m [.ref (ad 119), .ref (ad 115), .int a2].toArray below meth c H locs 0 0 (MQ below (va_Qi (fun r S' => S = S' ∧ Bd r (0) (1)) (QB g ad 122) (FA ad 122)) [.ref (ad 119), .ref (ad 115), .int a2].toArray s 0 0 (FA ad 122)) (F0 m 2 ls []) := by
    intro n
    induction n with
    | zero => intro H locs ls x2_3 Bx2_3 hn2_ hQ hl; exfalso; have := (Bx2_3).2; omega
    | succ n2_ ih2 =>
      intro H locs ls x2_3 Bx2_3 hn2_ hQ hl
      refine lv_iload_n hx hb dX3_areAllSuch_2 rfl (lv_at hl 0 rfl) ?_
      refine lv_iconst (v := 4) hx hb dX3_areAllSuch_3 (by decide) ?_
      refine lv_iadd hx hb dX3_areAllSuch_4 ?_
      refine lv_topi (fun z1 e2 => ?_)
      have t3 := ib_add e2 Bx2_3 (by decide : Bd 4 (4) (4)) (by decide) (by decide)
      have b4 : Bd z1 (4) (64) := ib_addb t3 Bx2_3 (by decide : Bd 4 (4) (4))
      have t3 : z1.toInt = x2_3.toInt + 4 := fold_add t3 rfl (by decide)
      refine lv_iload_n hx hb dX3_areAllSuch_5 rfl (lv_at hl 3 rfl) ?_
      refine lv_icmp_gt (tgt := 75) hx hb dX3_areAllSuch_6 (by decide) (fun k5 => ?_) (fun k5 => ?_)
      · have h6 := ib_lt k5
        refine lv_iconst (v := 1) hx hb dX3_areAllSuch_75 (by decide) ?_
        exact xrz E hr hlk hQ rfl (⟨rfl, (ib_wk (by decide : Bd 1 (1) (1)) (by decide) (by decide))⟩) dX3_areAllSuch_76
      · have h7 := ib_nlt k5
        have b8 : Bd z1 (4) (60) := ⟨(b4).1, ((rf_le b4 ba2 h7).1).2⟩
        have b9 : Bd a2 (4) (60) := ⟨((rf_le b4 ba2 h7).2).1, (ba2).2⟩
        have b10 : Bd x2_3 (0) (56) := ⟨by omega, by omega⟩
        refine lv_aload_n hx hb dX3_areAllSuch_9 rfl (lv_at hl 1 rfl) ?_
        refine lv_aload_n hx hb dX3_areAllSuch_10 rfl (lv_at hl 2 rfl) ?_
        refine lv_iload_n hx hb dX3_areAllSuch_11 rfl (lv_at hl 0 rfl) ?_
        obtain ⟨f11, c12⟩ := invX_115 hI
        refine xlald E hQ 115 (by decide) c12 (ib_in b10 (by decide) (by decide)) dX3_areAllSuch_12 ?_
        refine lv_topl (fun w14 e15 => ?_)
        obtain ⟨v17, c19, b18⟩ := invX_119 hI
        have c19 : S 119 = .inr (3, [.ref (ad 2), .ref (ad 111), .ref (ad 120), .int v17, .ref (ad 121)]) := c19
        refine xcVi E hs hQ hml hl.1 119 (gX3_isCell_119 l g ad hD S hI w14) mX3_isCell q1208 (by decide) c19 rfl rfl ⟨(Nat.le_of_ble_eq_true rfl), (Nat.le_of_ble_eq_true rfl)⟩ ⟨(Nat.le_of_ble_eq_true rfl), (Nat.le_of_ble_eq_true rfl)⟩ (Nat.le_of_ble_eq_true rfl) rfl dX3_areAllSuch_13 (fun r16 S16 H locs hp16 hQ _ => ?_)
        obtain ⟨rfl, b16⟩ := hp16
        refine lv_if_eq (tgt := 67) hx hb dX3_areAllSuch_16 (by decide) (fun k20 => ?_) (fun k20 => ?_)
        · have h21 := ib_eq k20
          have b22 : Bd r16 (0) (0) := ⟨(b16).1, ((rf_eq b16 (by decide : Bd 0 (0) (0)) h21).1).2⟩
          refine lv_iconst (v := 0) hx hb dX3_areAllSuch_67 (by decide) ?_
          exact xrz E hr hlk hQ rfl (⟨rfl, (ib_wk (by decide : Bd 0 (0) (0)) (by decide) (by decide))⟩) dX3_areAllSuch_68
        · have h23 := ib_ne k20
          have b24 : Bd r16 (1) (1) := rf_nlo b16 (by decide : Bd 0 (0) (0)) h23
          refine lv_aload_n hx hb dX3_areAllSuch_19 rfl (lv_at hl 2 rfl) ?_
          refine lv_iload_n hx hb dX3_areAllSuch_20 rfl (lv_at hl 0 rfl) ?_
          refine lv_iconst (v := 1) hx hb dX3_areAllSuch_21 (by decide) ?_
          refine lv_iadd hx hb dX3_areAllSuch_22 ?_
          refine lv_topi (fun z25 e26 => ?_)
          have t27 := ib_add e26 b10 (by decide : Bd 1 (1) (1)) (by decide) (by decide)
          have b28 : Bd z25 (1) (57) := ib_addb t27 b10 (by decide : Bd 1 (1) (1))
          have t27 : z25.toInt = x2_3.toInt + 1 := fold_add t27 rfl (by decide)
          refine xlald E hQ 115 (by decide) c12 (ib_in b28 (by decide) (by decide)) dX3_areAllSuch_23 ?_
          refine lv_topl (fun w29 e30 => ?_)
          refine xcSi E hs hQ hml hl.1 (gX3_isHour l g ad hD S hI w29) mX3_isHour q1212 rfl ⟨(Nat.le_of_ble_eq_true rfl), (Nat.le_of_ble_eq_true rfl)⟩ ⟨(Nat.le_of_ble_eq_true rfl), (Nat.le_of_ble_eq_true rfl)⟩ (Nat.le_of_ble_eq_true rfl) rfl dX3_areAllSuch_24 (fun r31 S31 H locs hp31 hQ => ?_)
          obtain ⟨rfl, b31⟩ := hp31
          refine lv_if_eq (tgt := 67) hx hb dX3_areAllSuch_27 (by decide) (fun k32 => ?_) (fun k32 => ?_)
          · have h33 := ib_eq k32
            have b34 : Bd r31 (0) (0) := ⟨(b31).1, ((rf_eq b31 (by decide : Bd 0 (0) (0)) h33).1).2⟩
            refine lv_iconst (v := 0) hx hb dX3_areAllSuch_67 (by decide) ?_
            exact xrz E hr hlk hQ rfl (⟨rfl, (ib_wk (by decide : Bd 0 (0) (0)) (by decide) (by decide))⟩) dX3_areAllSuch_68
          · have h35 := ib_ne k32
            have b36 : Bd r31 (1) (1) := rf_nlo b31 (by decide : Bd 0 (0) (0)) h35
            refine lv_aload_n hx hb dX3_areAllSuch_30 rfl (lv_at hl 2 rfl) ?_
            refine lv_iload_n hx hb dX3_areAllSuch_31 rfl (lv_at hl 0 rfl) ?_
            refine lv_iconst (v := 2) hx hb dX3_areAllSuch_32 (by decide) ?_
            refine lv_iadd hx hb dX3_areAllSuch_33 ?_
            refine lv_topi (fun z37 e38 => ?_)
            have t39 := ib_add e38 b10 (by decide : Bd 2 (2) (2)) (by decide) (by decide)
            have b40 : Bd z37 (2) (58) := ib_addb t39 b10 (by decide : Bd 2 (2) (2))
            have t39 : z37.toInt = x2_3.toInt + 2 := fold_add t39 rfl (by decide)
            refine xlald E hQ 115 (by decide) c12 (ib_in b40 (by decide) (by decide)) dX3_areAllSuch_34 ?_
            refine lv_topl (fun w41 e42 => ?_)
            refine xcSi E hs hQ hml hl.1 (gX3_isHour l g ad hD S hI w41) mX3_isHour q1212 rfl ⟨(Nat.le_of_ble_eq_true rfl), (Nat.le_of_ble_eq_true rfl)⟩ ⟨(Nat.le_of_ble_eq_true rfl), (Nat.le_of_ble_eq_true rfl)⟩ (Nat.le_of_ble_eq_true rfl) rfl dX3_areAllSuch_35 (fun r43 S43 H locs hp43 hQ => ?_)
            obtain ⟨rfl, b43⟩ := hp43
            refine lv_if_eq (tgt := 67) hx hb dX3_areAllSuch_38 (by decide) (fun k44 => ?_) (fun k44 => ?_)
            · have h45 := ib_eq k44
              have b46 : Bd r43 (0) (0) := ⟨(b43).1, ((rf_eq b43 (by decide : Bd 0 (0) (0)) h45).1).2⟩
              refine lv_iconst (v := 0) hx hb dX3_areAllSuch_67 (by decide) ?_
              exact xrz E hr hlk hQ rfl (⟨rfl, (ib_wk (by decide : Bd 0 (0) (0)) (by decide) (by decide))⟩) dX3_areAllSuch_68
            · have h47 := ib_ne k44
              have b48 : Bd r43 (1) (1) := rf_nlo b43 (by decide : Bd 0 (0) (0)) h47
              refine lv_aload_n hx hb dX3_areAllSuch_41 rfl (lv_at hl 1 rfl) ?_
              refine lv_aload_n hx hb dX3_areAllSuch_42 rfl (lv_at hl 2 rfl) ?_
              refine lv_iload_n hx hb dX3_areAllSuch_43 rfl (lv_at hl 0 rfl) ?_
              refine lv_iconst (v := 3) hx hb dX3_areAllSuch_44 (by decide) ?_
              refine lv_iadd hx hb dX3_areAllSuch_45 ?_
              refine lv_topi (fun z49 e50 => ?_)
              have t51 := ib_add e50 b10 (by decide : Bd 3 (3) (3)) (by decide) (by decide)
              have b52 : Bd z49 (3) (59) := ib_addb t51 b10 (by decide : Bd 3 (3) (3))
              have t51 : z49.toInt = x2_3.toInt + 3 := fold_add t51 rfl (by decide)
              refine xlald E hQ 115 (by decide) c12 (ib_in b52 (by decide) (by decide)) dX3_areAllSuch_46 ?_
              refine lv_topl (fun w53 e54 => ?_)
              refine xcVi E hs hQ hml hl.1 119 (gX3_isCell_119 l g ad hD S hI w53) mX3_isCell q1208 (by decide) c19 rfl rfl ⟨(Nat.le_of_ble_eq_true rfl), (Nat.le_of_ble_eq_true rfl)⟩ ⟨(Nat.le_of_ble_eq_true rfl), (Nat.le_of_ble_eq_true rfl)⟩ (Nat.le_of_ble_eq_true rfl) rfl dX3_areAllSuch_47 (fun r55 S55 H locs hp55 hQ _ => ?_)
              obtain ⟨rfl, b55⟩ := hp55
              refine lv_if_eq (tgt := 67) hx hb dX3_areAllSuch_50 (by decide) (fun k56 => ?_) (fun k56 => ?_)
              · have h57 := ib_eq k56
                have b58 : Bd r55 (0) (0) := ⟨(b55).1, ((rf_eq b55 (by decide : Bd 0 (0) (0)) h57).1).2⟩
                refine lv_iconst (v := 0) hx hb dX3_areAllSuch_67 (by decide) ?_
                exact xrz E hr hlk hQ rfl (⟨rfl, (ib_wk (by decide : Bd 0 (0) (0)) (by decide) (by decide))⟩) dX3_areAllSuch_68
              · have h59 := ib_ne k56
                have b60 : Bd r55 (1) (1) := rf_nlo b55 (by decide : Bd 0 (0) (0)) h59
                refine lv_aload_n hx hb dX3_areAllSuch_53 rfl (lv_at hl 2 rfl) ?_
                refine lv_iload_n hx hb dX3_areAllSuch_54 rfl (lv_at hl 0 rfl) ?_
                refine lv_iconst (v := 2) hx hb dX3_areAllSuch_55 (by decide) ?_
                refine lv_iadd hx hb dX3_areAllSuch_56 ?_
                refine lv_topi (fun z61 e62 => ?_)
                have t63 := ib_add e62 b10 (by decide : Bd 2 (2) (2)) (by decide) (by decide)
                have b64 : Bd z61 (2) (58) := ib_addb t63 b10 (by decide : Bd 2 (2) (2))
                have t63 : z61.toInt = x2_3.toInt + 2 := fold_add t63 rfl (by decide)
                refine xlald E hQ 115 (by decide) c12 (ib_in b64 (by decide) (by decide)) dX3_areAllSuch_57 ?_
                refine lv_topl (fun w65 e66 => ?_)
                refine lv_aload_n hx hb dX3_areAllSuch_58 rfl (lv_at hl 2 rfl) ?_
                refine lv_iload_n hx hb dX3_areAllSuch_59 rfl (lv_at hl 0 rfl) ?_
                refine lv_iconst (v := 1) hx hb dX3_areAllSuch_60 (by decide) ?_
                refine lv_iadd hx hb dX3_areAllSuch_61 ?_
                refine lv_topi (fun z67 e68 => ?_)
                have t69 := ib_add e68 b10 (by decide : Bd 1 (1) (1)) (by decide) (by decide)
                have b70 : Bd z67 (1) (57) := ib_addb t69 b10 (by decide : Bd 1 (1) (1))
                have t69 : z67.toInt = x2_3.toInt + 1 := fold_add t69 rfl (by decide)
                refine xlald E hQ 115 (by decide) c12 (ib_in b70 (by decide) (by decide)) dX3_areAllSuch_62 ?_
                refine lv_topl (fun w71 e72 => ?_)
                refine W.lcmp hx hb dX3_areAllSuch_63 ?_
                refine lv_if_ge (tgt := 69) hx hb dX3_areAllSuch_64 (by decide) (fun k73 => ?_) (fun k73 => ?_)
                · have h74 := lc_ge k73
                  obtain ⟨z75, e76⟩ : ∃ z : Int32, z = x2_3 + 4 := ⟨_, rfl⟩
                  have t77 := ib_add e76 b10 (by decide : Bd 4 (4) (4)) (by decide) (by decide)
                  have b78 : Bd z75 (4) (60) := ib_addb t77 b10 (by decide : Bd 4 (4) (4))
                  have t77 : z75.toInt = x2_3.toInt + 4 := fold_add t77 rfl (by decide)
                  refine lv_iinc (v := z75) (lv' := [(3, .int z75), (0, .ref (ad 119)), (1, .ref (ad 115)), (2, .int a2)]) hx hb dX3_areAllSuch_69 hl (k := 0) rfl (by rw [e76]; rfl) (by decide) rfl (fun ls hl => ?_)
                  refine lv_goto (tgt := 2) hx hb dX3_areAllSuch_72 (by decide) ?_
                  exact ih2 _ _ _ z75 (ib_wk b78 (by decide) (by decide)) (by omega) hQ (lv_sub hl [0, 1, 2, 3] rfl)
                · have h79 := lc_nge k73
                  have b80 : BdL w65 (-9223372036854775808) (9223372036854775806) := ⟨((ib_fullL w65)).1, ((rf_ltL (ib_fullL w65) (ib_fullL w71) h79).1).2⟩
                  have b81 : BdL w71 (-9223372036854775807) (9223372036854775807) := ⟨((rf_ltL (ib_fullL w65) (ib_fullL w71) h79).2).1, ((ib_fullL w71)).2⟩
                  refine lv_iconst (v := 0) hx hb dX3_areAllSuch_67 (by decide) ?_
                  exact xrz E hr hlk hQ rfl (⟨rfl, (ib_wk (by decide : Bd 0 (0) (0)) (by decide) (by decide))⟩) dX3_areAllSuch_68
  obtain ⟨n2, hn2⟩ := fu_n (60)
  exact loop2 n2 _ _ _ 0 (ib_wk (by decide : Bd 0 (0) (0)) (by decide) (by decide)) (by have : (0 : Int32).toInt = 0 := (by decide); omega) hQ (lv_sub hl [0, 1, 2, 3] rfl)
set_option maxHeartbeats 4000000 in
set_option maxRecDepth 100000 in
theorem gX3_areAllSuch_119_116 (l : Launch) (g : GG) (ad : Nat → Nat) (hD : Dj ad 122) (S : SS) (hI : InvX g ad S) (a2 : Int32) (ba2 : Bd a2 (-1) (60)) : Met l yX3_areAllSuch (wG (.code yX3_areAllSuch cX3_areAllSuch 4 (some .boolean))) (Rm 1) (XPre g ad 122 S [.ref (ad 119), .ref (ad 116), .int a2]) (va_Qi (fun r S' => S = S' ∧ Bd r (0) (1)) (QB g ad 122) (FA ad 122)) 0 0 (FA ad 122) := by
  refine xmet cX3_areAllSuch "EbbWreck$Floats" (by decide) rfl (Nat.le_of_ble_eq_true rfl) (fun p e s m below meth c E hr hlk hml hQ ls hl => ?_)
  have hx := E.1
  have hb := E.2.1
  have hs : Sp ad 122 (FA ad 122) := Sp.fa hD
  have hl : lv_has ls 4 [(0, .ref (ad 119)), (1, .ref (ad 116)), (2, .int a2)] := hl
  refine lv_iconst (v := 0) hx hb dX3_areAllSuch_0 (by decide) ?_
  refine lv_istore_n (lv' := [(3, .int 0), (0, .ref (ad 119)), (1, .ref (ad 116)), (2, .int a2)]) hx hb dX3_areAllSuch_1 rfl hl (by decide) rfl (fun ls hl => ?_)
  have loop2 : ∀ (n : Nat) (H : Heap) (locs : List Loc) (ls : Array Slot) (x2_3 : Int32), Bd x2_3 (0) (60) → (-1) * x2_3.toInt + 60 < ((n : Nat) : Int) → Hp g ad 122 S (FA ad 122) s.heap H locs → lv_has ls 4 [(3, .int x2_3), (0, .ref (ad 119)), (1, .ref (ad 116)), (2, .int a2)] → W p l e (Rm 1) s m [.ref (ad 119), .ref (ad 116), .int a2].toArray below meth c H locs 0 0 (MQ below (va_Qi (fun r S' => S = S' ∧ Bd r (0) (1)) (QB g ad 122) (FA ad 122)) [.ref (ad 119), .ref (ad 116), .int a2].toArray s 0 0 (FA ad 122)) (F0 m 2 ls []) := by
    intro n
    induction n with
    | zero => intro H locs ls x2_3 Bx2_3 hn2_ hQ hl; exfalso; have := (Bx2_3).2; omega
    | succ n2_ ih2 =>
      intro H locs ls x2_3 Bx2_3 hn2_ hQ hl
      refine lv_iload_n hx hb dX3_areAllSuch_2 rfl (lv_at hl 0 rfl) ?_
      refine lv_iconst (v := 4) hx hb dX3_areAllSuch_3 (by decide) ?_
      refine lv_iadd hx hb dX3_areAllSuch_4 ?_
      refine lv_topi (fun z1 e2 => ?_)
      have t3 := ib_add e2 Bx2_3 (by decide : Bd 4 (4) (4)) (by decide) (by decide)
      have b4 : Bd z1 (4) (64) := ib_addb t3 Bx2_3 (by decide : Bd 4 (4) (4))
      have t3 : z1.toInt = x2_3.toInt + 4 := fold_add t3 rfl (by decide)
      refine lv_iload_n hx hb dX3_areAllSuch_5 rfl (lv_at hl 3 rfl) ?_
      refine lv_icmp_gt (tgt := 75) hx hb dX3_areAllSuch_6 (by decide) (fun k5 => ?_) (fun k5 => ?_)
      · have h6 := ib_lt k5
        refine lv_iconst (v := 1) hx hb dX3_areAllSuch_75 (by decide) ?_
        exact xrz E hr hlk hQ rfl (⟨rfl, (ib_wk (by decide : Bd 1 (1) (1)) (by decide) (by decide))⟩) dX3_areAllSuch_76
      · have h7 := ib_nlt k5
        have b8 : Bd z1 (4) (60) := ⟨(b4).1, ((rf_le b4 ba2 h7).1).2⟩
        have b9 : Bd a2 (4) (60) := ⟨((rf_le b4 ba2 h7).2).1, (ba2).2⟩
        have b10 : Bd x2_3 (0) (56) := ⟨by omega, by omega⟩
        refine lv_aload_n hx hb dX3_areAllSuch_9 rfl (lv_at hl 1 rfl) ?_
        refine lv_aload_n hx hb dX3_areAllSuch_10 rfl (lv_at hl 2 rfl) ?_
        refine lv_iload_n hx hb dX3_areAllSuch_11 rfl (lv_at hl 0 rfl) ?_
        obtain ⟨f11, c12⟩ := invX_116 hI
        refine xlald E hQ 116 (by decide) c12 (ib_in b10 (by decide) (by decide)) dX3_areAllSuch_12 ?_
        refine lv_topl (fun w14 e15 => ?_)
        obtain ⟨v17, c19, b18⟩ := invX_119 hI
        have c19 : S 119 = .inr (3, [.ref (ad 2), .ref (ad 111), .ref (ad 120), .int v17, .ref (ad 121)]) := c19
        refine xcVi E hs hQ hml hl.1 119 (gX3_isCell_119 l g ad hD S hI w14) mX3_isCell q1208 (by decide) c19 rfl rfl ⟨(Nat.le_of_ble_eq_true rfl), (Nat.le_of_ble_eq_true rfl)⟩ ⟨(Nat.le_of_ble_eq_true rfl), (Nat.le_of_ble_eq_true rfl)⟩ (Nat.le_of_ble_eq_true rfl) rfl dX3_areAllSuch_13 (fun r16 S16 H locs hp16 hQ _ => ?_)
        obtain ⟨rfl, b16⟩ := hp16
        refine lv_if_eq (tgt := 67) hx hb dX3_areAllSuch_16 (by decide) (fun k20 => ?_) (fun k20 => ?_)
        · have h21 := ib_eq k20
          have b22 : Bd r16 (0) (0) := ⟨(b16).1, ((rf_eq b16 (by decide : Bd 0 (0) (0)) h21).1).2⟩
          refine lv_iconst (v := 0) hx hb dX3_areAllSuch_67 (by decide) ?_
          exact xrz E hr hlk hQ rfl (⟨rfl, (ib_wk (by decide : Bd 0 (0) (0)) (by decide) (by decide))⟩) dX3_areAllSuch_68
        · have h23 := ib_ne k20
          have b24 : Bd r16 (1) (1) := rf_nlo b16 (by decide : Bd 0 (0) (0)) h23
          refine lv_aload_n hx hb dX3_areAllSuch_19 rfl (lv_at hl 2 rfl) ?_
          refine lv_iload_n hx hb dX3_areAllSuch_20 rfl (lv_at hl 0 rfl) ?_
          refine lv_iconst (v := 1) hx hb dX3_areAllSuch_21 (by decide) ?_
          refine lv_iadd hx hb dX3_areAllSuch_22 ?_
          refine lv_topi (fun z25 e26 => ?_)
          have t27 := ib_add e26 b10 (by decide : Bd 1 (1) (1)) (by decide) (by decide)
          have b28 : Bd z25 (1) (57) := ib_addb t27 b10 (by decide : Bd 1 (1) (1))
          have t27 : z25.toInt = x2_3.toInt + 1 := fold_add t27 rfl (by decide)
          refine xlald E hQ 116 (by decide) c12 (ib_in b28 (by decide) (by decide)) dX3_areAllSuch_23 ?_
          refine lv_topl (fun w29 e30 => ?_)
          refine xcSi E hs hQ hml hl.1 (gX3_isHour l g ad hD S hI w29) mX3_isHour q1212 rfl ⟨(Nat.le_of_ble_eq_true rfl), (Nat.le_of_ble_eq_true rfl)⟩ ⟨(Nat.le_of_ble_eq_true rfl), (Nat.le_of_ble_eq_true rfl)⟩ (Nat.le_of_ble_eq_true rfl) rfl dX3_areAllSuch_24 (fun r31 S31 H locs hp31 hQ => ?_)
          obtain ⟨rfl, b31⟩ := hp31
          refine lv_if_eq (tgt := 67) hx hb dX3_areAllSuch_27 (by decide) (fun k32 => ?_) (fun k32 => ?_)
          · have h33 := ib_eq k32
            have b34 : Bd r31 (0) (0) := ⟨(b31).1, ((rf_eq b31 (by decide : Bd 0 (0) (0)) h33).1).2⟩
            refine lv_iconst (v := 0) hx hb dX3_areAllSuch_67 (by decide) ?_
            exact xrz E hr hlk hQ rfl (⟨rfl, (ib_wk (by decide : Bd 0 (0) (0)) (by decide) (by decide))⟩) dX3_areAllSuch_68
          · have h35 := ib_ne k32
            have b36 : Bd r31 (1) (1) := rf_nlo b31 (by decide : Bd 0 (0) (0)) h35
            refine lv_aload_n hx hb dX3_areAllSuch_30 rfl (lv_at hl 2 rfl) ?_
            refine lv_iload_n hx hb dX3_areAllSuch_31 rfl (lv_at hl 0 rfl) ?_
            refine lv_iconst (v := 2) hx hb dX3_areAllSuch_32 (by decide) ?_
            refine lv_iadd hx hb dX3_areAllSuch_33 ?_
            refine lv_topi (fun z37 e38 => ?_)
            have t39 := ib_add e38 b10 (by decide : Bd 2 (2) (2)) (by decide) (by decide)
            have b40 : Bd z37 (2) (58) := ib_addb t39 b10 (by decide : Bd 2 (2) (2))
            have t39 : z37.toInt = x2_3.toInt + 2 := fold_add t39 rfl (by decide)
            refine xlald E hQ 116 (by decide) c12 (ib_in b40 (by decide) (by decide)) dX3_areAllSuch_34 ?_
            refine lv_topl (fun w41 e42 => ?_)
            refine xcSi E hs hQ hml hl.1 (gX3_isHour l g ad hD S hI w41) mX3_isHour q1212 rfl ⟨(Nat.le_of_ble_eq_true rfl), (Nat.le_of_ble_eq_true rfl)⟩ ⟨(Nat.le_of_ble_eq_true rfl), (Nat.le_of_ble_eq_true rfl)⟩ (Nat.le_of_ble_eq_true rfl) rfl dX3_areAllSuch_35 (fun r43 S43 H locs hp43 hQ => ?_)
            obtain ⟨rfl, b43⟩ := hp43
            refine lv_if_eq (tgt := 67) hx hb dX3_areAllSuch_38 (by decide) (fun k44 => ?_) (fun k44 => ?_)
            · have h45 := ib_eq k44
              have b46 : Bd r43 (0) (0) := ⟨(b43).1, ((rf_eq b43 (by decide : Bd 0 (0) (0)) h45).1).2⟩
              refine lv_iconst (v := 0) hx hb dX3_areAllSuch_67 (by decide) ?_
              exact xrz E hr hlk hQ rfl (⟨rfl, (ib_wk (by decide : Bd 0 (0) (0)) (by decide) (by decide))⟩) dX3_areAllSuch_68
            · have h47 := ib_ne k44
              have b48 : Bd r43 (1) (1) := rf_nlo b43 (by decide : Bd 0 (0) (0)) h47
              refine lv_aload_n hx hb dX3_areAllSuch_41 rfl (lv_at hl 1 rfl) ?_
              refine lv_aload_n hx hb dX3_areAllSuch_42 rfl (lv_at hl 2 rfl) ?_
              refine lv_iload_n hx hb dX3_areAllSuch_43 rfl (lv_at hl 0 rfl) ?_
              refine lv_iconst (v := 3) hx hb dX3_areAllSuch_44 (by decide) ?_
              refine lv_iadd hx hb dX3_areAllSuch_45 ?_
              refine lv_topi (fun z49 e50 => ?_)
              have t51 := ib_add e50 b10 (by decide : Bd 3 (3) (3)) (by decide) (by decide)
              have b52 : Bd z49 (3) (59) := ib_addb t51 b10 (by decide : Bd 3 (3) (3))
              have t51 : z49.toInt = x2_3.toInt + 3 := fold_add t51 rfl (by decide)
              refine xlald E hQ 116 (by decide) c12 (ib_in b52 (by decide) (by decide)) dX3_areAllSuch_46 ?_
              refine lv_topl (fun w53 e54 => ?_)
              refine xcVi E hs hQ hml hl.1 119 (gX3_isCell_119 l g ad hD S hI w53) mX3_isCell q1208 (by decide) c19 rfl rfl ⟨(Nat.le_of_ble_eq_true rfl), (Nat.le_of_ble_eq_true rfl)⟩ ⟨(Nat.le_of_ble_eq_true rfl), (Nat.le_of_ble_eq_true rfl)⟩ (Nat.le_of_ble_eq_true rfl) rfl dX3_areAllSuch_47 (fun r55 S55 H locs hp55 hQ _ => ?_)
              obtain ⟨rfl, b55⟩ := hp55
              refine lv_if_eq (tgt := 67) hx hb dX3_areAllSuch_50 (by decide) (fun k56 => ?_) (fun k56 => ?_)
              · have h57 := ib_eq k56
                have b58 : Bd r55 (0) (0) := ⟨(b55).1, ((rf_eq b55 (by decide : Bd 0 (0) (0)) h57).1).2⟩
                refine lv_iconst (v := 0) hx hb dX3_areAllSuch_67 (by decide) ?_
                exact xrz E hr hlk hQ rfl (⟨rfl, (ib_wk (by decide : Bd 0 (0) (0)) (by decide) (by decide))⟩) dX3_areAllSuch_68
              · have h59 := ib_ne k56
                have b60 : Bd r55 (1) (1) := rf_nlo b55 (by decide : Bd 0 (0) (0)) h59
                refine lv_aload_n hx hb dX3_areAllSuch_53 rfl (lv_at hl 2 rfl) ?_
                refine lv_iload_n hx hb dX3_areAllSuch_54 rfl (lv_at hl 0 rfl) ?_
                refine lv_iconst (v := 2) hx hb dX3_areAllSuch_55 (by decide) ?_
                refine lv_iadd hx hb dX3_areAllSuch_56 ?_
                refine lv_topi (fun z61 e62 => ?_)
                have t63 := ib_add e62 b10 (by decide : Bd 2 (2) (2)) (by decide) (by decide)
                have b64 : Bd z61 (2) (58) := ib_addb t63 b10 (by decide : Bd 2 (2) (2))
                have t63 : z61.toInt = x2_3.toInt + 2 := fold_add t63 rfl (by decide)
                refine xlald E hQ 116 (by decide) c12 (ib_in b64 (by decide) (by decide)) dX3_areAllSuch_57 ?_
                refine lv_topl (fun w65 e66 => ?_)
                refine lv_aload_n hx hb dX3_areAllSuch_58 rfl (lv_at hl 2 rfl) ?_
                refine lv_iload_n hx hb dX3_areAllSuch_59 rfl (lv_at hl 0 rfl) ?_
                refine lv_iconst (v := 1) hx hb dX3_areAllSuch_60 (by decide) ?_
                refine lv_iadd hx hb dX3_areAllSuch_61 ?_
                refine lv_topi (fun z67 e68 => ?_)
                have t69 := ib_add e68 b10 (by decide : Bd 1 (1) (1)) (by decide) (by decide)
                have b70 : Bd z67 (1) (57) := ib_addb t69 b10 (by decide : Bd 1 (1) (1))
                have t69 : z67.toInt = x2_3.toInt + 1 := fold_add t69 rfl (by decide)
                refine xlald E hQ 116 (by decide) c12 (ib_in b70 (by decide) (by decide)) dX3_areAllSuch_62 ?_
                refine lv_topl (fun w71 e72 => ?_)
                refine W.lcmp hx hb dX3_areAllSuch_63 ?_
                refine lv_if_ge (tgt := 69) hx hb dX3_areAllSuch_64 (by decide) (fun k73 => ?_) (fun k73 => ?_)
                · have h74 := lc_ge k73
                  obtain ⟨z75, e76⟩ : ∃ z : Int32, z = x2_3 + 4 := ⟨_, rfl⟩
                  have t77 := ib_add e76 b10 (by decide : Bd 4 (4) (4)) (by decide) (by decide)
                  have b78 : Bd z75 (4) (60) := ib_addb t77 b10 (by decide : Bd 4 (4) (4))
                  have t77 : z75.toInt = x2_3.toInt + 4 := fold_add t77 rfl (by decide)
                  refine lv_iinc (v := z75) (lv' := [(3, .int z75), (0, .ref (ad 119)), (1, .ref (ad 116)), (2, .int a2)]) hx hb dX3_areAllSuch_69 hl (k := 0) rfl (by rw [e76]; rfl) (by decide) rfl (fun ls hl => ?_)
                  refine lv_goto (tgt := 2) hx hb dX3_areAllSuch_72 (by decide) ?_
                  exact ih2 _ _ _ z75 (ib_wk b78 (by decide) (by decide)) (by omega) hQ (lv_sub hl [0, 1, 2, 3] rfl)
                · have h79 := lc_nge k73
                  have b80 : BdL w65 (-9223372036854775808) (9223372036854775806) := ⟨((ib_fullL w65)).1, ((rf_ltL (ib_fullL w65) (ib_fullL w71) h79).1).2⟩
                  have b81 : BdL w71 (-9223372036854775807) (9223372036854775807) := ⟨((rf_ltL (ib_fullL w65) (ib_fullL w71) h79).2).1, ((ib_fullL w71)).2⟩
                  refine lv_iconst (v := 0) hx hb dX3_areAllSuch_67 (by decide) ?_
                  exact xrz E hr hlk hQ rfl (⟨rfl, (ib_wk (by decide : Bd 0 (0) (0)) (by decide) (by decide))⟩) dX3_areAllSuch_68
  obtain ⟨n2, hn2⟩ := fu_n (60)
  exact loop2 n2 _ _ _ 0 (ib_wk (by decide : Bd 0 (0) (0)) (by decide) (by decide)) (by have : (0 : Int32).toInt = 0 := (by decide); omega) hQ (lv_sub hl [0, 1, 2, 3] rfl)
set_option maxHeartbeats 4000000 in
set_option maxRecDepth 100000 in
theorem gX3_carried_119 (l : Launch) (g : GG) (ad : Nat → Nat) (hD : Dj ad 122) (S : SS) (hI : InvX g ad S) (a1 : Int32) (a2 : Int32) (a3 : Int32) (a4 : Int32) (ba1 : Bd a1 (0) (11)) (hq1 : 0 ≤ fld (S 2) 1 + (-1)) : Met l yX3_carried (wG (.code yX3_carried cX3_carried 9 (some .int))) (Rm 2) (XPre g ad 122 S [.ref (ad 119), .int a1, .int a2, .int a3, .int a4]) (va_Qi (fun r S' => S = S' ∧ Bd r (0) (11)) (QB g ad 122) (FA ad 122)) 0 0 (FA ad 122) := by
  refine xmet cX3_carried "EbbWreck$Floats" (by decide) rfl (Nat.le_of_ble_eq_true rfl) (fun p e s m below meth c E hr hlk hml hQ ls hl => ?_)
  have hx := E.1
  have hb := E.2.1
  have hs : Sp ad 122 (FA ad 122) := Sp.fa hD
  have hl : lv_has ls 9 [(0, .ref (ad 119)), (1, .int a1), (2, .int a2), (3, .int a3), (4, .int a4)] := hl
  obtain ⟨v1, v3, v5, v6, v7, v9, c11, b2, b4, b8, b10⟩ := invX_2 hI
  have c11 : S 2 = .inr (1, [.int v1, .int v3, .int v5, .ref (ad 3), .ref (ad 5), .ref (ad 6), .int v6, .int v7, .ref (ad 7), .ref (ad 8), .ref (ad 9), .ref (ad 10), .int v9, .ref (ad 15), .ref (ad 16)]) := c11
  have q12 : fld (S 2) 1 = v3.toInt := fld_of c11 rfl
  have b13 : Bd v3 (1) (12) := ⟨by omega, by omega⟩
  refine lv_iload_n hx hb dX3_carried_0 rfl (lv_at hl 1 rfl) ?_
  refine lv_istore (lv' := [(5, .int a1), (0, .ref (ad 119)), (1, .int a1), (2, .int a2), (3, .int a3), (4, .int a4)]) hx hb dX3_carried_1 hl (by decide) rfl (fun ls hl => ?_)
  refine lv_iload_n hx hb dX3_carried_3 rfl (lv_at hl 3 rfl) ?_
  refine lv_istore (lv' := [(6, .int a2), (5, .int a1), (0, .ref (ad 119)), (1, .int a1), (2, .int a2), (3, .int a3), (4, .int a4)]) hx hb dX3_carried_4 hl (by decide) rfl (fun ls hl => ?_)
  refine lv_iconst (v := 0) hx hb dX3_carried_6 (by decide) ?_
  refine lv_istore (lv' := [(7, .int 0), (6, .int a2), (5, .int a1), (0, .ref (ad 119)), (1, .int a1), (2, .int a2), (3, .int a3), (4, .int a4)]) hx hb dX3_carried_7 hl (by decide) rfl (fun ls hl => ?_)
  have loop9 : ∀ (n : Nat) (H : Heap) (locs : List Loc) (ls : Array Slot) (x9_5 : Int32) (x9_6 : Int32) (x9_7 : Int32), Bd x9_5 (0) (11) → Bd x9_7 (0) (401) → (-1) * x9_7.toInt + 401 < ((n : Nat) : Int) → Hp g ad 122 S (FA ad 122) s.heap H locs → lv_has ls 9 [(7, .int x9_7), (6, .int x9_6), (5, .int x9_5), (0, .ref (ad 119)), (1, .int a1), (2, .int a2), (3, .int a3), (4, .int a4)] → W p l e (Rm 2) s m [.ref (ad 119), .int a1, .int a2, .int a3, .int a4].toArray below meth c H locs 0 0 (MQ below (va_Qi (fun r S' => S = S' ∧ Bd r (0) (11)) (QB g ad 122) (FA ad 122)) [.ref (ad 119), .int a1, .int a2, .int a3, .int a4].toArray s 0 0 (FA ad 122)) (F0 m 9 ls []) := by
    intro n
    induction n with
    | zero => intro H locs ls x9_5 x9_6 x9_7 Bx9_5 Bx9_7 hn9_ hQ hl; exfalso; have := (Bx9_7).2; omega
    | succ n9_ ih9 =>
      intro H locs ls x9_5 x9_6 x9_7 Bx9_5 Bx9_7 hn9_ hQ hl
      refine lv_iload hx hb dX3_carried_9 (lv_at hl 0 rfl) ?_
      refine lv_sipush (v := 400) hx hb dX3_carried_11 (by decide) ?_
      refine lv_icmp_gt (tgt := 88) hx hb dX3_carried_14 (by decide) (fun k14 => ?_) (fun k14 => ?_)
      · have h15 := ib_lt k14
        have b16 : Bd x9_7 (401) (401) := ⟨((rf_lt (by decide : Bd 400 (400) (400)) Bx9_7 h15).2).1, (Bx9_7).2⟩
        refine lv_iload hx hb dX3_carried_88 (lv_at hl 2 rfl) ?_
        exact xri E hr hlk hQ (⟨rfl, Bx9_5⟩) dX3_carried_90
      · have h17 := ib_nlt k14
        have b18 : Bd x9_7 (0) (400) := ⟨(Bx9_7).1, ((rf_le Bx9_7 (by decide : Bd 400 (400) (400)) h17).1).2⟩
        refine lv_iload hx hb dX3_carried_17 (lv_at hl 1 rfl) ?_
        refine lv_iload_n hx hb dX3_carried_19 rfl (lv_at hl 6 rfl) ?_
        refine lv_icmp_ge (tgt := 88) hx hb dX3_carried_20 (by decide) (fun k19 => ?_) (fun k19 => ?_)
        · have h20 := ib_le k19
          refine lv_iload hx hb dX3_carried_88 (lv_at hl 2 rfl) ?_
          exact xri E hr hlk hQ (⟨rfl, Bx9_5⟩) dX3_carried_90
        · have h21 := ib_nle k19
          have b22 : Bd x9_6 (-2147483648) (2147483646) := ⟨((ib_full x9_6)).1, ((rf_lt (ib_full x9_6) (ib_full a3) h21).1).2⟩
          have b23 : Bd a3 (-2147483647) (2147483647) := ⟨((rf_lt (ib_full x9_6) (ib_full a3) h21).2).1, ((ib_full a3)).2⟩
          refine lv_aload_n hx hb dX3_carried_23 rfl (lv_at hl 3 rfl) ?_
          obtain ⟨v24, c26, b25⟩ := invX_119 hI
          have c26 : S 119 = .inr (3, [.ref (ad 2), .ref (ad 111), .ref (ad 120), .int v24, .ref (ad 121)]) := c26
          refine xget E hQ 119 (by decide) c26 rfl 0 (by decide) q500 rfl dX3_carried_24 ?_
          refine xget E hQ 2 (by decide) c11 rfl 3 (by decide) q253 rfl dX3_carried_27 ?_
          refine lv_iload hx hb dX3_carried_30 (lv_at hl 1 rfl) ?_
          obtain ⟨v28, v30, v32, v34, c36, b29, b31, b33, b35⟩ := invX_3 hI
          have c36 : S 3 = .inr (10, [.int v28, .int v30, .int v32, .int v34, .ref (ad 4)]) := c36
          refine xcVi E hs hQ hml hl.1 3 (gX10_hoursLeft_3 l g ad hD S hI x9_6) mX10_hoursLeft q1224 (by decide) c36 rfl rfl ⟨(Nat.le_of_ble_eq_true rfl), (Nat.le_of_ble_eq_true rfl)⟩ ⟨(Nat.le_of_ble_eq_true rfl), (Nat.le_of_ble_eq_true rfl)⟩ (Nat.le_of_ble_eq_true rfl) rfl dX3_carried_32 (fun r27 S27 H locs hp27 hQ _ => ?_)
          obtain ⟨rfl, b27⟩ := hp27
          refine lv_iload_n hx hb dX3_carried_35 rfl (lv_at hl 6 rfl) ?_
          refine lv_iload hx hb dX3_carried_36 (lv_at hl 1 rfl) ?_
          refine lv_isub hx hb dX3_carried_38 ?_
          refine lv_topi (fun z37 e38 => ?_)
          refine va_mmin hx hb (hml.trans hl.1.symm) E.2.2.1 (E.2.2.2.1 _ q1225) (E.2.2.2.1 _ q583) (E.2.2.2.1 _ q128) (E.2.2.2.1 _ q584) (Nat.le_of_ble_eq_true rfl) (Nat.le_of_ble_eq_true rfl) (Nat.le_of_ble_eq_true rfl) (Nat.le_of_ble_eq_true rfl) dX3_carried_39 ?_
          refine lv_topi (fun z39 e40 => ?_)
          have b41 : Bd z39 (-2147483648) (47) := ib_min e40 b27 (ib_full z37) (by decide) (by decide) (by decide) (by decide)
          have t42 := ib_minx (p := r27.toInt) (q := z37.toInt) e40 rfl rfl
          refine lv_istore (lv' := [(8, .int z39), (7, .int x9_7), (6, .int x9_6), (5, .int x9_5), (0, .ref (ad 119)), (1, .int a1), (2, .int a2), (3, .int a3), (4, .int a4)]) hx hb dX3_carried_42 hl (by decide) rfl (fun ls hl => ?_)
          refine lv_aload_n hx hb dX3_carried_44 rfl (lv_at hl 4 rfl) ?_
          refine xget E hQ 119 (by decide) c26 rfl 0 (by decide) q500 rfl dX3_carried_45 ?_
          refine lv_iload hx hb dX3_carried_48 (lv_at hl 3 rfl) ?_
          refine lv_aload_n hx hb dX3_carried_50 rfl (lv_at hl 4 rfl) ?_
          refine xget E hQ 119 (by decide) c26 rfl 0 (by decide) q500 rfl dX3_carried_51 ?_
          refine xget E hQ 2 (by decide) c11 rfl 3 (by decide) q253 rfl dX3_carried_54 ?_
          refine lv_iload hx hb dX3_carried_57 (lv_at hl 2 rfl) ?_
          refine xcVi E hs hQ hml hl.1 3 (gX10_phaseOf_3 l g ad hD S hI x9_6) mX10_phaseOf q1226 (by decide) c36 rfl rfl ⟨(Nat.le_of_ble_eq_true rfl), (Nat.le_of_ble_eq_true rfl)⟩ ⟨(Nat.le_of_ble_eq_true rfl), (Nat.le_of_ble_eq_true rfl)⟩ (Nat.le_of_ble_eq_true rfl) rfl dX3_carried_59 (fun r43 S43 H locs hp43 hQ _ => ?_)
          subst hp43
          refine lv_iload hx hb dX3_carried_62 (lv_at hl 8 rfl) ?_
          refine xcSi E hs hQ hml hl.1 (gX3_stepsIn l g ad hD S hI r43 a4) mX3_stepsIn q1227 rfl ⟨(Nat.le_of_ble_eq_true rfl), (Nat.le_of_ble_eq_true rfl)⟩ ⟨(Nat.le_of_ble_eq_true rfl), (Nat.le_of_ble_eq_true rfl)⟩ (Nat.le_of_ble_eq_true rfl) rfl dX3_carried_64 (fun r44 S44 H locs hp44 hQ => ?_)
          subst hp44
          refine lv_iload hx hb dX3_carried_67 (lv_at hl 0 rfl) ?_
          refine lv_imul hx hb dX3_carried_69 ?_
          refine lv_topi (fun z45 e46 => ?_)
          refine xcVi E hs hQ hml hl.1 2 (gX1_shifted_2 l g ad hD S hI x9_5 z45 (by omega)) mX1_shifted q1236 (by decide) c11 rfl rfl ⟨(Nat.le_of_ble_eq_true rfl), (Nat.le_of_ble_eq_true rfl)⟩ ⟨(Nat.le_of_ble_eq_true rfl), (Nat.le_of_ble_eq_true rfl)⟩ (Nat.le_of_ble_eq_true rfl) rfl dX3_carried_70 (fun r47 S47 H locs hp47 hQ _ => ?_)
          obtain ⟨rfl, b47⟩ := hp47
          refine lv_istore (lv' := [(5, .int r47), (8, .int z39), (7, .int x9_7), (6, .int x9_6), (0, .ref (ad 119)), (1, .int a1), (2, .int a2), (3, .int a3), (4, .int a4)]) hx hb dX3_carried_73 hl (by decide) rfl (fun ls hl => ?_)
          refine lv_iload hx hb dX3_carried_75 (lv_at hl 3 rfl) ?_
          refine lv_iload hx hb dX3_carried_77 (lv_at hl 1 rfl) ?_
          refine lv_iadd hx hb dX3_carried_79 ?_
          refine lv_topi (fun z48 e49 => ?_)
          refine lv_istore (lv' := [(6, .int z48), (5, .int r47), (8, .int z39), (7, .int x9_7), (0, .ref (ad 119)), (1, .int a1), (2, .int a2), (3, .int a3), (4, .int a4)]) hx hb dX3_carried_80 hl (by decide) rfl (fun ls hl => ?_)
          obtain ⟨z50, e51⟩ : ∃ z : Int32, z = x9_7 + 1 := ⟨_, rfl⟩
          have t52 := ib_add e51 b18 (by decide : Bd 1 (1) (1)) (by decide) (by decide)
          have b53 : Bd z50 (1) (401) := ib_addb t52 b18 (by decide : Bd 1 (1) (1))
          have t52 : z50.toInt = x9_7.toInt + 1 := fold_add t52 rfl (by decide)
          refine lv_iinc (v := z50) (lv' := [(7, .int z50), (6, .int z48), (5, .int r47), (8, .int z39), (0, .ref (ad 119)), (1, .int a1), (2, .int a2), (3, .int a3), (4, .int a4)]) hx hb dX3_carried_82 hl (k := 3) rfl (by rw [e51]; rfl) (by decide) rfl (fun ls hl => ?_)
          refine lv_goto (tgt := 9) hx hb dX3_carried_85 (by decide) ?_
          exact ih9 _ _ _ r47 z48 z50 b47 (ib_wk b53 (by decide) (by decide)) (by omega) hQ (lv_sub hl [0, 1, 2, 4, 5, 6, 7, 8] rfl)
  obtain ⟨n9, hn9⟩ := fu_n (401)
  exact loop9 n9 _ _ _ a1 a2 0 ba1 (ib_wk (by decide : Bd 0 (0) (0)) (by decide) (by decide)) (by have : (0 : Int32).toInt = 0 := (by decide); omega) hQ (lv_sub hl [0, 1, 2, 3, 4, 5, 6, 7] rfl)
set_option maxHeartbeats 4000000 in
set_option maxRecDepth 100000 in
theorem gX3_carried_any (l : Launch) (g : GG) (ad : Nat → Nat) (hD : Dj ad 122) (S : SS) (hI : InvX g ad S) (a1 : Int32) (a2 : Int32) (a3 : Int32) (a4 : Int32) (hq1 : 0 ≤ fld (S 2) 1 + (-1)) : Met l yX3_carried (wG (.code yX3_carried cX3_carried 9 (some .int))) (Rm 2) (XPre g ad 122 S [.ref (ad 119), .int a1, .int a2, .int a3, .int a4]) (va_Qi (fun _ S' => S = S') (QB g ad 122) (FA ad 122)) 0 0 (FA ad 122) := by
  refine xmet cX3_carried "EbbWreck$Floats" (by decide) rfl (Nat.le_of_ble_eq_true rfl) (fun p e s m below meth c E hr hlk hml hQ ls hl => ?_)
  have hx := E.1
  have hb := E.2.1
  have hs : Sp ad 122 (FA ad 122) := Sp.fa hD
  have hl : lv_has ls 9 [(0, .ref (ad 119)), (1, .int a1), (2, .int a2), (3, .int a3), (4, .int a4)] := hl
  obtain ⟨v1, v3, v5, v6, v7, v9, c11, b2, b4, b8, b10⟩ := invX_2 hI
  have c11 : S 2 = .inr (1, [.int v1, .int v3, .int v5, .ref (ad 3), .ref (ad 5), .ref (ad 6), .int v6, .int v7, .ref (ad 7), .ref (ad 8), .ref (ad 9), .ref (ad 10), .int v9, .ref (ad 15), .ref (ad 16)]) := c11
  have q12 : fld (S 2) 1 = v3.toInt := fld_of c11 rfl
  have b13 : Bd v3 (1) (12) := ⟨by omega, by omega⟩
  refine lv_iload_n hx hb dX3_carried_0 rfl (lv_at hl 1 rfl) ?_
  refine lv_istore (lv' := [(5, .int a1), (0, .ref (ad 119)), (1, .int a1), (2, .int a2), (3, .int a3), (4, .int a4)]) hx hb dX3_carried_1 hl (by decide) rfl (fun ls hl => ?_)
  refine lv_iload_n hx hb dX3_carried_3 rfl (lv_at hl 3 rfl) ?_
  refine lv_istore (lv' := [(6, .int a2), (5, .int a1), (0, .ref (ad 119)), (1, .int a1), (2, .int a2), (3, .int a3), (4, .int a4)]) hx hb dX3_carried_4 hl (by decide) rfl (fun ls hl => ?_)
  refine lv_iconst (v := 0) hx hb dX3_carried_6 (by decide) ?_
  refine lv_istore (lv' := [(7, .int 0), (6, .int a2), (5, .int a1), (0, .ref (ad 119)), (1, .int a1), (2, .int a2), (3, .int a3), (4, .int a4)]) hx hb dX3_carried_7 hl (by decide) rfl (fun ls hl => ?_)
  have loop9 : ∀ (n : Nat) (H : Heap) (locs : List Loc) (ls : Array Slot) (x9_5 : Int32) (x9_6 : Int32) (x9_7 : Int32), Bd x9_7 (0) (401) → (-1) * x9_7.toInt + 401 < ((n : Nat) : Int) → Hp g ad 122 S (FA ad 122) s.heap H locs → lv_has ls 9 [(7, .int x9_7), (6, .int x9_6), (5, .int x9_5), (0, .ref (ad 119)), (1, .int a1), (2, .int a2), (3, .int a3), (4, .int a4)] → W p l e (Rm 2) s m [.ref (ad 119), .int a1, .int a2, .int a3, .int a4].toArray below meth c H locs 0 0 (MQ below (va_Qi (fun _ S' => S = S') (QB g ad 122) (FA ad 122)) [.ref (ad 119), .int a1, .int a2, .int a3, .int a4].toArray s 0 0 (FA ad 122)) (F0 m 9 ls []) := by
    intro n
    induction n with
    | zero => intro H locs ls x9_5 x9_6 x9_7 Bx9_7 hn9_ hQ hl; exfalso; have := (Bx9_7).2; omega
    | succ n9_ ih9 =>
      intro H locs ls x9_5 x9_6 x9_7 Bx9_7 hn9_ hQ hl
      refine lv_iload hx hb dX3_carried_9 (lv_at hl 0 rfl) ?_
      refine lv_sipush (v := 400) hx hb dX3_carried_11 (by decide) ?_
      refine lv_icmp_gt (tgt := 88) hx hb dX3_carried_14 (by decide) (fun k14 => ?_) (fun k14 => ?_)
      · have h15 := ib_lt k14
        have b16 : Bd x9_7 (401) (401) := ⟨((rf_lt (by decide : Bd 400 (400) (400)) Bx9_7 h15).2).1, (Bx9_7).2⟩
        refine lv_iload hx hb dX3_carried_88 (lv_at hl 2 rfl) ?_
        exact xri E hr hlk hQ (rfl) dX3_carried_90
      · have h17 := ib_nlt k14
        have b18 : Bd x9_7 (0) (400) := ⟨(Bx9_7).1, ((rf_le Bx9_7 (by decide : Bd 400 (400) (400)) h17).1).2⟩
        refine lv_iload hx hb dX3_carried_17 (lv_at hl 1 rfl) ?_
        refine lv_iload_n hx hb dX3_carried_19 rfl (lv_at hl 6 rfl) ?_
        refine lv_icmp_ge (tgt := 88) hx hb dX3_carried_20 (by decide) (fun k19 => ?_) (fun k19 => ?_)
        · have h20 := ib_le k19
          refine lv_iload hx hb dX3_carried_88 (lv_at hl 2 rfl) ?_
          exact xri E hr hlk hQ (rfl) dX3_carried_90
        · have h21 := ib_nle k19
          have b22 : Bd x9_6 (-2147483648) (2147483646) := ⟨((ib_full x9_6)).1, ((rf_lt (ib_full x9_6) (ib_full a3) h21).1).2⟩
          have b23 : Bd a3 (-2147483647) (2147483647) := ⟨((rf_lt (ib_full x9_6) (ib_full a3) h21).2).1, ((ib_full a3)).2⟩
          refine lv_aload_n hx hb dX3_carried_23 rfl (lv_at hl 3 rfl) ?_
          obtain ⟨v24, c26, b25⟩ := invX_119 hI
          have c26 : S 119 = .inr (3, [.ref (ad 2), .ref (ad 111), .ref (ad 120), .int v24, .ref (ad 121)]) := c26
          refine xget E hQ 119 (by decide) c26 rfl 0 (by decide) q500 rfl dX3_carried_24 ?_
          refine xget E hQ 2 (by decide) c11 rfl 3 (by decide) q253 rfl dX3_carried_27 ?_
          refine lv_iload hx hb dX3_carried_30 (lv_at hl 1 rfl) ?_
          obtain ⟨v28, v30, v32, v34, c36, b29, b31, b33, b35⟩ := invX_3 hI
          have c36 : S 3 = .inr (10, [.int v28, .int v30, .int v32, .int v34, .ref (ad 4)]) := c36
          refine xcVi E hs hQ hml hl.1 3 (gX10_hoursLeft_3 l g ad hD S hI x9_6) mX10_hoursLeft q1224 (by decide) c36 rfl rfl ⟨(Nat.le_of_ble_eq_true rfl), (Nat.le_of_ble_eq_true rfl)⟩ ⟨(Nat.le_of_ble_eq_true rfl), (Nat.le_of_ble_eq_true rfl)⟩ (Nat.le_of_ble_eq_true rfl) rfl dX3_carried_32 (fun r27 S27 H locs hp27 hQ _ => ?_)
          obtain ⟨rfl, b27⟩ := hp27
          refine lv_iload_n hx hb dX3_carried_35 rfl (lv_at hl 6 rfl) ?_
          refine lv_iload hx hb dX3_carried_36 (lv_at hl 1 rfl) ?_
          refine lv_isub hx hb dX3_carried_38 ?_
          refine lv_topi (fun z37 e38 => ?_)
          refine va_mmin hx hb (hml.trans hl.1.symm) E.2.2.1 (E.2.2.2.1 _ q1225) (E.2.2.2.1 _ q583) (E.2.2.2.1 _ q128) (E.2.2.2.1 _ q584) (Nat.le_of_ble_eq_true rfl) (Nat.le_of_ble_eq_true rfl) (Nat.le_of_ble_eq_true rfl) (Nat.le_of_ble_eq_true rfl) dX3_carried_39 ?_
          refine lv_topi (fun z39 e40 => ?_)
          have b41 : Bd z39 (-2147483648) (47) := ib_min e40 b27 (ib_full z37) (by decide) (by decide) (by decide) (by decide)
          have t42 := ib_minx (p := r27.toInt) (q := z37.toInt) e40 rfl rfl
          refine lv_istore (lv' := [(8, .int z39), (7, .int x9_7), (6, .int x9_6), (5, .int x9_5), (0, .ref (ad 119)), (1, .int a1), (2, .int a2), (3, .int a3), (4, .int a4)]) hx hb dX3_carried_42 hl (by decide) rfl (fun ls hl => ?_)
          refine lv_aload_n hx hb dX3_carried_44 rfl (lv_at hl 4 rfl) ?_
          refine xget E hQ 119 (by decide) c26 rfl 0 (by decide) q500 rfl dX3_carried_45 ?_
          refine lv_iload hx hb dX3_carried_48 (lv_at hl 3 rfl) ?_
          refine lv_aload_n hx hb dX3_carried_50 rfl (lv_at hl 4 rfl) ?_
          refine xget E hQ 119 (by decide) c26 rfl 0 (by decide) q500 rfl dX3_carried_51 ?_
          refine xget E hQ 2 (by decide) c11 rfl 3 (by decide) q253 rfl dX3_carried_54 ?_
          refine lv_iload hx hb dX3_carried_57 (lv_at hl 2 rfl) ?_
          refine xcVi E hs hQ hml hl.1 3 (gX10_phaseOf_3 l g ad hD S hI x9_6) mX10_phaseOf q1226 (by decide) c36 rfl rfl ⟨(Nat.le_of_ble_eq_true rfl), (Nat.le_of_ble_eq_true rfl)⟩ ⟨(Nat.le_of_ble_eq_true rfl), (Nat.le_of_ble_eq_true rfl)⟩ (Nat.le_of_ble_eq_true rfl) rfl dX3_carried_59 (fun r43 S43 H locs hp43 hQ _ => ?_)
          subst hp43
          refine lv_iload hx hb dX3_carried_62 (lv_at hl 8 rfl) ?_
          refine xcSi E hs hQ hml hl.1 (gX3_stepsIn l g ad hD S hI r43 a4) mX3_stepsIn q1227 rfl ⟨(Nat.le_of_ble_eq_true rfl), (Nat.le_of_ble_eq_true rfl)⟩ ⟨(Nat.le_of_ble_eq_true rfl), (Nat.le_of_ble_eq_true rfl)⟩ (Nat.le_of_ble_eq_true rfl) rfl dX3_carried_64 (fun r44 S44 H locs hp44 hQ => ?_)
          subst hp44
          refine lv_iload hx hb dX3_carried_67 (lv_at hl 0 rfl) ?_
          refine lv_imul hx hb dX3_carried_69 ?_
          refine lv_topi (fun z45 e46 => ?_)
          refine xcVi E hs hQ hml hl.1 2 (gX1_shifted_2 l g ad hD S hI x9_5 z45 (by omega)) mX1_shifted q1236 (by decide) c11 rfl rfl ⟨(Nat.le_of_ble_eq_true rfl), (Nat.le_of_ble_eq_true rfl)⟩ ⟨(Nat.le_of_ble_eq_true rfl), (Nat.le_of_ble_eq_true rfl)⟩ (Nat.le_of_ble_eq_true rfl) rfl dX3_carried_70 (fun r47 S47 H locs hp47 hQ _ => ?_)
          obtain ⟨rfl, b47⟩ := hp47
          refine lv_istore (lv' := [(5, .int r47), (8, .int z39), (7, .int x9_7), (6, .int x9_6), (0, .ref (ad 119)), (1, .int a1), (2, .int a2), (3, .int a3), (4, .int a4)]) hx hb dX3_carried_73 hl (by decide) rfl (fun ls hl => ?_)
          refine lv_iload hx hb dX3_carried_75 (lv_at hl 3 rfl) ?_
          refine lv_iload hx hb dX3_carried_77 (lv_at hl 1 rfl) ?_
          refine lv_iadd hx hb dX3_carried_79 ?_
          refine lv_topi (fun z48 e49 => ?_)
          refine lv_istore (lv' := [(6, .int z48), (5, .int r47), (8, .int z39), (7, .int x9_7), (0, .ref (ad 119)), (1, .int a1), (2, .int a2), (3, .int a3), (4, .int a4)]) hx hb dX3_carried_80 hl (by decide) rfl (fun ls hl => ?_)
          obtain ⟨z50, e51⟩ : ∃ z : Int32, z = x9_7 + 1 := ⟨_, rfl⟩
          have t52 := ib_add e51 b18 (by decide : Bd 1 (1) (1)) (by decide) (by decide)
          have b53 : Bd z50 (1) (401) := ib_addb t52 b18 (by decide : Bd 1 (1) (1))
          have t52 : z50.toInt = x9_7.toInt + 1 := fold_add t52 rfl (by decide)
          refine lv_iinc (v := z50) (lv' := [(7, .int z50), (6, .int z48), (5, .int r47), (8, .int z39), (0, .ref (ad 119)), (1, .int a1), (2, .int a2), (3, .int a3), (4, .int a4)]) hx hb dX3_carried_82 hl (k := 3) rfl (by rw [e51]; rfl) (by decide) rfl (fun ls hl => ?_)
          refine lv_goto (tgt := 9) hx hb dX3_carried_85 (by decide) ?_
          exact ih9 _ _ _ r47 z48 z50 (ib_wk b53 (by decide) (by decide)) (by omega) hQ (lv_sub hl [0, 1, 2, 4, 5, 6, 7, 8] rfl)
  obtain ⟨n9, hn9⟩ := fu_n (401)
  exact loop9 n9 _ _ _ a1 a2 0 (ib_wk (by decide : Bd 0 (0) (0)) (by decide) (by decide)) (by have : (0 : Int32).toInt = 0 := (by decide); omega) hQ (lv_sub hl [0, 1, 2, 3, 4, 5, 6, 7] rfl)
set_option maxHeartbeats 4000000 in
set_option maxRecDepth 100000 in
theorem gX3_fitsAll_119_113 (l : Launch) (g : GG) (ad : Nat → Nat) (hD : Dj ad 122) (S : SS) (hI : InvX g ad S) (a1 : Int32) (a3 : Int32) (ba1 : Bd a1 (0) (48)) (ba3 : Bd a3 (-1) (60)) (hq1 : 0 ≤ fld (S 2) 1 + (-1)) : Met l yX3_fitsAll (wG (.code yX3_fitsAll cX3_fitsAll 6 (some .boolean))) (Rm 3) (XPre g ad 122 S [.ref (ad 119), .int a1, .ref (ad 113), .int a3]) (va_Qi (fun r S' => S = S' ∧ Bd r (0) (1)) (QB g ad 122) (FA ad 122)) 0 0 (FA ad 122) := by
  refine xmet cX3_fitsAll "EbbWreck$Floats" (by decide) rfl (Nat.le_of_ble_eq_true rfl) (fun p e s m below meth c E hr hlk hml hQ ls hl => ?_)
  have hx := E.1
  have hb := E.2.1
  have hs : Sp ad 122 (FA ad 122) := Sp.fa hD
  have hl : lv_has ls 6 [(0, .ref (ad 119)), (1, .int a1), (2, .ref (ad 113)), (3, .int a3)] := hl
  obtain ⟨v1, v3, v5, v6, v7, v9, c11, b2, b4, b8, b10⟩ := invX_2 hI
  have c11 : S 2 = .inr (1, [.int v1, .int v3, .int v5, .ref (ad 3), .ref (ad 5), .ref (ad 6), .int v6, .int v7, .ref (ad 7), .ref (ad 8), .ref (ad 9), .ref (ad 10), .int v9, .ref (ad 15), .ref (ad 16)]) := c11
  have q12 : fld (S 2) 1 = v3.toInt := fld_of c11 rfl
  have b13 : Bd v3 (1) (12) := ⟨by omega, by omega⟩
  refine lv_iconst (v := 0) hx hb dX3_fitsAll_0 (by decide) ?_
  refine lv_istore (lv' := [(4, .int 0), (0, .ref (ad 119)), (1, .int a1), (2, .ref (ad 113)), (3, .int a3)]) hx hb dX3_fitsAll_1 hl (by decide) rfl (fun ls hl => ?_)
  have loop3 : ∀ (n : Nat) (H : Heap) (locs : List Loc) (ls : Array Slot) (x3_4 : Int32), Bd x3_4 (0) (60) → (-1) * x3_4.toInt + 60 < ((n : Nat) : Int) → Hp g ad 122 S (FA ad 122) s.heap H locs → lv_has ls 6 [(4, .int x3_4), (0, .ref (ad 119)), (1, .int a1), (2, .ref (ad 113)), (3, .int a3)] → W p l e (Rm 3) s m [.ref (ad 119), .int a1, .ref (ad 113), .int a3].toArray below meth c H locs 0 0 (MQ below (va_Qi (fun r S' => S = S' ∧ Bd r (0) (1)) (QB g ad 122) (FA ad 122)) [.ref (ad 119), .int a1, .ref (ad 113), .int a3].toArray s 0 0 (FA ad 122)) (F0 m 3 ls []) := by
    intro n
    induction n with
    | zero => intro H locs ls x3_4 Bx3_4 hn3_ hQ hl; exfalso; have := (Bx3_4).2; omega
    | succ n3_ ih3 =>
      intro H locs ls x3_4 Bx3_4 hn3_ hQ hl
      refine lv_iload hx hb dX3_fitsAll_3 (lv_at hl 0 rfl) ?_
      refine lv_iconst (v := 4) hx hb dX3_fitsAll_5 (by decide) ?_
      refine lv_iadd hx hb dX3_fitsAll_6 ?_
      refine lv_topi (fun z14 e15 => ?_)
      have t16 := ib_add e15 Bx3_4 (by decide : Bd 4 (4) (4)) (by decide) (by decide)
      have b17 : Bd z14 (4) (64) := ib_addb t16 Bx3_4 (by decide : Bd 4 (4) (4))
      have t16 : z14.toInt = x3_4.toInt + 4 := fold_add t16 rfl (by decide)
      refine lv_iload_n hx hb dX3_fitsAll_7 rfl (lv_at hl 4 rfl) ?_
      refine lv_icmp_gt (tgt := 58) hx hb dX3_fitsAll_8 (by decide) (fun k18 => ?_) (fun k18 => ?_)
      · have h19 := ib_lt k18
        refine lv_iconst (v := 1) hx hb dX3_fitsAll_58 (by decide) ?_
        exact xrz E hr hlk hQ rfl (⟨rfl, (ib_wk (by decide : Bd 1 (1) (1)) (by decide) (by decide))⟩) dX3_fitsAll_59
      · have h20 := ib_nlt k18
        have b21 : Bd z14 (4) (60) := ⟨(b17).1, ((rf_le b17 ba3 h20).1).2⟩
        have b22 : Bd a3 (4) (60) := ⟨((rf_le b17 ba3 h20).2).1, (ba3).2⟩
        have b23 : Bd x3_4 (0) (56) := ⟨by omega, by omega⟩
        refine lv_aload_n hx hb dX3_fitsAll_11 rfl (lv_at hl 1 rfl) ?_
        refine lv_aload_n hx hb dX3_fitsAll_12 rfl (lv_at hl 3 rfl) ?_
        refine lv_iload hx hb dX3_fitsAll_13 (lv_at hl 0 rfl) ?_
        obtain ⟨f24, c25⟩ := invX_113 hI
        refine xlald E hQ 113 (by decide) c25 (ib_in b23 (by decide) (by decide)) dX3_fitsAll_15 ?_
        refine lv_topl (fun w27 e28 => ?_)
        refine lv_l2i hx hb dX3_fitsAll_16 rfl ?_
        refine lv_topi (fun z29 e30 => ?_)
        refine lv_aload_n hx hb dX3_fitsAll_17 rfl (lv_at hl 3 rfl) ?_
        refine lv_iload hx hb dX3_fitsAll_18 (lv_at hl 0 rfl) ?_
        refine lv_iconst (v := 1) hx hb dX3_fitsAll_20 (by decide) ?_
        refine lv_iadd hx hb dX3_fitsAll_21 ?_
        refine lv_topi (fun z31 e32 => ?_)
        have t33 := ib_add e32 b23 (by decide : Bd 1 (1) (1)) (by decide) (by decide)
        have b34 : Bd z31 (1) (57) := ib_addb t33 b23 (by decide : Bd 1 (1) (1))
        have t33 : z31.toInt = x3_4.toInt + 1 := fold_add t33 rfl (by decide)
        refine xlald E hQ 113 (by decide) c25 (ib_in b34 (by decide) (by decide)) dX3_fitsAll_22 ?_
        refine lv_topl (fun w35 e36 => ?_)
        refine lv_l2i hx hb dX3_fitsAll_23 rfl ?_
        refine lv_topi (fun z37 e38 => ?_)
        refine lv_aload_n hx hb dX3_fitsAll_24 rfl (lv_at hl 3 rfl) ?_
        refine lv_iload hx hb dX3_fitsAll_25 (lv_at hl 0 rfl) ?_
        refine lv_iconst (v := 2) hx hb dX3_fitsAll_27 (by decide) ?_
        refine lv_iadd hx hb dX3_fitsAll_28 ?_
        refine lv_topi (fun z39 e40 => ?_)
        have t41 := ib_add e40 b23 (by decide : Bd 2 (2) (2)) (by decide) (by decide)
        have b42 : Bd z39 (2) (58) := ib_addb t41 b23 (by decide : Bd 2 (2) (2))
        have t41 : z39.toInt = x3_4.toInt + 2 := fold_add t41 rfl (by decide)
        refine xlald E hQ 113 (by decide) c25 (ib_in b42 (by decide) (by decide)) dX3_fitsAll_29 ?_
        refine lv_topl (fun w43 e44 => ?_)
        refine lv_l2i hx hb dX3_fitsAll_30 rfl ?_
        refine lv_topi (fun z45 e46 => ?_)
        refine lv_iload_n hx hb dX3_fitsAll_31 rfl (lv_at hl 2 rfl) ?_
        obtain ⟨v48, c50, b49⟩ := invX_119 hI
        have c50 : S 119 = .inr (3, [.ref (ad 2), .ref (ad 111), .ref (ad 120), .int v48, .ref (ad 121)]) := c50
        refine xcVi E hs hQ hml hl.1 119 (gX3_carried_any l g ad hD S hI z29 z37 z45 a1 (by omega)) mX3_carried q1220 (by decide) c50 rfl rfl ⟨(Nat.le_of_ble_eq_true rfl), (Nat.le_of_ble_eq_true rfl)⟩ ⟨(Nat.le_of_ble_eq_true rfl), (Nat.le_of_ble_eq_true rfl)⟩ (Nat.le_of_ble_eq_true rfl) rfl dX3_fitsAll_32 (fun r47 S47 H locs hp47 hQ _ => ?_)
        subst hp47
        refine lv_istore (lv' := [(5, .int r47), (4, .int x3_4), (0, .ref (ad 119)), (1, .int a1), (2, .ref (ad 113)), (3, .int a3)]) hx hb dX3_fitsAll_35 hl (by decide) rfl (fun ls hl => ?_)
        refine lv_iload hx hb dX3_fitsAll_37 (lv_at hl 0 rfl) ?_
        refine lv_i2l hx hb dX3_fitsAll_39 rfl ?_
        refine lv_topl (fun w51 e52 => ?_)
        have t53 : w51.toInt = r47.toInt := by rw [e52]; exact w64 _
        have b54 : BdL w51 (-2147483648) (2147483647) := (by have h1 := ((ib_full r47)).1; have h2 := ((ib_full r47)).2; exact ⟨by omega, by omega⟩)
        refine lv_aload_n hx hb dX3_fitsAll_40 rfl (lv_at hl 4 rfl) ?_
        refine lv_iload hx hb dX3_fitsAll_41 (lv_at hl 1 rfl) ?_
        refine lv_iconst (v := 3) hx hb dX3_fitsAll_43 (by decide) ?_
        refine lv_iadd hx hb dX3_fitsAll_44 ?_
        refine lv_topi (fun z55 e56 => ?_)
        have t57 := ib_add e56 b23 (by decide : Bd 3 (3) (3)) (by decide) (by decide)
        have b58 : Bd z55 (3) (59) := ib_addb t57 b23 (by decide : Bd 3 (3) (3))
        have t57 : z55.toInt = x3_4.toInt + 3 := fold_add t57 rfl (by decide)
        refine xlald E hQ 113 (by decide) c25 (ib_in b58 (by decide) (by decide)) dX3_fitsAll_45 ?_
        refine lv_topl (fun w59 e60 => ?_)
        refine W.lcmp hx hb dX3_fitsAll_46 ?_
        refine lv_if_eq (tgt := 52) hx hb dX3_fitsAll_47 (by decide) (fun k61 => ?_) (fun k61 => ?_)
        · have h62 := lc_eq k61
          have b63 : BdL w59 (-2147483648) (2147483647) := ⟨((rf_eqL b54 (ib_fullL w59) h62).2).1, ((rf_eqL b54 (ib_fullL w59) h62).2).2⟩
          obtain ⟨z64, e65⟩ : ∃ z : Int32, z = x3_4 + 4 := ⟨_, rfl⟩
          have t66 := ib_add e65 b23 (by decide : Bd 4 (4) (4)) (by decide) (by decide)
          have b67 : Bd z64 (4) (60) := ib_addb t66 b23 (by decide : Bd 4 (4) (4))
          have t66 : z64.toInt = x3_4.toInt + 4 := fold_add t66 rfl (by decide)
          refine lv_iinc (v := z64) (lv' := [(4, .int z64), (5, .int r47), (0, .ref (ad 119)), (1, .int a1), (2, .ref (ad 113)), (3, .int a3)]) hx hb dX3_fitsAll_52 hl (k := 1) rfl (by rw [e65]; rfl) (by decide) rfl (fun ls hl => ?_)
          refine lv_goto (tgt := 3) hx hb dX3_fitsAll_55 (by decide) ?_
          exact ih3 _ _ _ z64 (ib_wk b67 (by decide) (by decide)) (by omega) hQ (lv_sub hl [0, 2, 3, 4, 5] rfl)
        · have h68 := lc_ne k61
          refine lv_iconst (v := 0) hx hb dX3_fitsAll_50 (by decide) ?_
          exact xrz E hr hlk hQ rfl (⟨rfl, (ib_wk (by decide : Bd 0 (0) (0)) (by decide) (by decide))⟩) dX3_fitsAll_51
  obtain ⟨n3, hn3⟩ := fu_n (60)
  exact loop3 n3 _ _ _ 0 (ib_wk (by decide : Bd 0 (0) (0)) (by decide) (by decide)) (by have : (0 : Int32).toInt = 0 := (by decide); omega) hQ (lv_sub hl [0, 1, 2, 3, 4] rfl)
set_option maxHeartbeats 4000000 in
set_option maxRecDepth 100000 in
theorem gX3_fitsAll_119_114 (l : Launch) (g : GG) (ad : Nat → Nat) (hD : Dj ad 122) (S : SS) (hI : InvX g ad S) (a1 : Int32) (a3 : Int32) (ba1 : Bd a1 (0) (48)) (ba3 : Bd a3 (-1) (60)) (hq1 : 0 ≤ fld (S 2) 1 + (-1)) : Met l yX3_fitsAll (wG (.code yX3_fitsAll cX3_fitsAll 6 (some .boolean))) (Rm 3) (XPre g ad 122 S [.ref (ad 119), .int a1, .ref (ad 114), .int a3]) (va_Qi (fun r S' => S = S' ∧ Bd r (0) (1)) (QB g ad 122) (FA ad 122)) 0 0 (FA ad 122) := by
  refine xmet cX3_fitsAll "EbbWreck$Floats" (by decide) rfl (Nat.le_of_ble_eq_true rfl) (fun p e s m below meth c E hr hlk hml hQ ls hl => ?_)
  have hx := E.1
  have hb := E.2.1
  have hs : Sp ad 122 (FA ad 122) := Sp.fa hD
  have hl : lv_has ls 6 [(0, .ref (ad 119)), (1, .int a1), (2, .ref (ad 114)), (3, .int a3)] := hl
  obtain ⟨v1, v3, v5, v6, v7, v9, c11, b2, b4, b8, b10⟩ := invX_2 hI
  have c11 : S 2 = .inr (1, [.int v1, .int v3, .int v5, .ref (ad 3), .ref (ad 5), .ref (ad 6), .int v6, .int v7, .ref (ad 7), .ref (ad 8), .ref (ad 9), .ref (ad 10), .int v9, .ref (ad 15), .ref (ad 16)]) := c11
  have q12 : fld (S 2) 1 = v3.toInt := fld_of c11 rfl
  have b13 : Bd v3 (1) (12) := ⟨by omega, by omega⟩
  refine lv_iconst (v := 0) hx hb dX3_fitsAll_0 (by decide) ?_
  refine lv_istore (lv' := [(4, .int 0), (0, .ref (ad 119)), (1, .int a1), (2, .ref (ad 114)), (3, .int a3)]) hx hb dX3_fitsAll_1 hl (by decide) rfl (fun ls hl => ?_)
  have loop3 : ∀ (n : Nat) (H : Heap) (locs : List Loc) (ls : Array Slot) (x3_4 : Int32), Bd x3_4 (0) (60) → (-1) * x3_4.toInt + 60 < ((n : Nat) : Int) → Hp g ad 122 S (FA ad 122) s.heap H locs → lv_has ls 6 [(4, .int x3_4), (0, .ref (ad 119)), (1, .int a1), (2, .ref (ad 114)), (3, .int a3)] → W p l e (Rm 3) s m [.ref (ad 119), .int a1, .ref (ad 114), .int a3].toArray below meth c H locs 0 0 (MQ below (va_Qi (fun r S' => S = S' ∧ Bd r (0) (1)) (QB g ad 122) (FA ad 122)) [.ref (ad 119), .int a1, .ref (ad 114), .int a3].toArray s 0 0 (FA ad 122)) (F0 m 3 ls []) := by
    intro n
    induction n with
    | zero => intro H locs ls x3_4 Bx3_4 hn3_ hQ hl; exfalso; have := (Bx3_4).2; omega
    | succ n3_ ih3 =>
      intro H locs ls x3_4 Bx3_4 hn3_ hQ hl
      refine lv_iload hx hb dX3_fitsAll_3 (lv_at hl 0 rfl) ?_
      refine lv_iconst (v := 4) hx hb dX3_fitsAll_5 (by decide) ?_
      refine lv_iadd hx hb dX3_fitsAll_6 ?_
      refine lv_topi (fun z14 e15 => ?_)
      have t16 := ib_add e15 Bx3_4 (by decide : Bd 4 (4) (4)) (by decide) (by decide)
      have b17 : Bd z14 (4) (64) := ib_addb t16 Bx3_4 (by decide : Bd 4 (4) (4))
      have t16 : z14.toInt = x3_4.toInt + 4 := fold_add t16 rfl (by decide)
      refine lv_iload_n hx hb dX3_fitsAll_7 rfl (lv_at hl 4 rfl) ?_
      refine lv_icmp_gt (tgt := 58) hx hb dX3_fitsAll_8 (by decide) (fun k18 => ?_) (fun k18 => ?_)
      · have h19 := ib_lt k18
        refine lv_iconst (v := 1) hx hb dX3_fitsAll_58 (by decide) ?_
        exact xrz E hr hlk hQ rfl (⟨rfl, (ib_wk (by decide : Bd 1 (1) (1)) (by decide) (by decide))⟩) dX3_fitsAll_59
      · have h20 := ib_nlt k18
        have b21 : Bd z14 (4) (60) := ⟨(b17).1, ((rf_le b17 ba3 h20).1).2⟩
        have b22 : Bd a3 (4) (60) := ⟨((rf_le b17 ba3 h20).2).1, (ba3).2⟩
        have b23 : Bd x3_4 (0) (56) := ⟨by omega, by omega⟩
        refine lv_aload_n hx hb dX3_fitsAll_11 rfl (lv_at hl 1 rfl) ?_
        refine lv_aload_n hx hb dX3_fitsAll_12 rfl (lv_at hl 3 rfl) ?_
        refine lv_iload hx hb dX3_fitsAll_13 (lv_at hl 0 rfl) ?_
        obtain ⟨f24, c25⟩ := invX_114 hI
        refine xlald E hQ 114 (by decide) c25 (ib_in b23 (by decide) (by decide)) dX3_fitsAll_15 ?_
        refine lv_topl (fun w27 e28 => ?_)
        refine lv_l2i hx hb dX3_fitsAll_16 rfl ?_
        refine lv_topi (fun z29 e30 => ?_)
        refine lv_aload_n hx hb dX3_fitsAll_17 rfl (lv_at hl 3 rfl) ?_
        refine lv_iload hx hb dX3_fitsAll_18 (lv_at hl 0 rfl) ?_
        refine lv_iconst (v := 1) hx hb dX3_fitsAll_20 (by decide) ?_
        refine lv_iadd hx hb dX3_fitsAll_21 ?_
        refine lv_topi (fun z31 e32 => ?_)
        have t33 := ib_add e32 b23 (by decide : Bd 1 (1) (1)) (by decide) (by decide)
        have b34 : Bd z31 (1) (57) := ib_addb t33 b23 (by decide : Bd 1 (1) (1))
        have t33 : z31.toInt = x3_4.toInt + 1 := fold_add t33 rfl (by decide)
        refine xlald E hQ 114 (by decide) c25 (ib_in b34 (by decide) (by decide)) dX3_fitsAll_22 ?_
        refine lv_topl (fun w35 e36 => ?_)
        refine lv_l2i hx hb dX3_fitsAll_23 rfl ?_
        refine lv_topi (fun z37 e38 => ?_)
        refine lv_aload_n hx hb dX3_fitsAll_24 rfl (lv_at hl 3 rfl) ?_
        refine lv_iload hx hb dX3_fitsAll_25 (lv_at hl 0 rfl) ?_
        refine lv_iconst (v := 2) hx hb dX3_fitsAll_27 (by decide) ?_
        refine lv_iadd hx hb dX3_fitsAll_28 ?_
        refine lv_topi (fun z39 e40 => ?_)
        have t41 := ib_add e40 b23 (by decide : Bd 2 (2) (2)) (by decide) (by decide)
        have b42 : Bd z39 (2) (58) := ib_addb t41 b23 (by decide : Bd 2 (2) (2))
        have t41 : z39.toInt = x3_4.toInt + 2 := fold_add t41 rfl (by decide)
        refine xlald E hQ 114 (by decide) c25 (ib_in b42 (by decide) (by decide)) dX3_fitsAll_29 ?_
        refine lv_topl (fun w43 e44 => ?_)
        refine lv_l2i hx hb dX3_fitsAll_30 rfl ?_
        refine lv_topi (fun z45 e46 => ?_)
        refine lv_iload_n hx hb dX3_fitsAll_31 rfl (lv_at hl 2 rfl) ?_
        obtain ⟨v48, c50, b49⟩ := invX_119 hI
        have c50 : S 119 = .inr (3, [.ref (ad 2), .ref (ad 111), .ref (ad 120), .int v48, .ref (ad 121)]) := c50
        refine xcVi E hs hQ hml hl.1 119 (gX3_carried_any l g ad hD S hI z29 z37 z45 a1 (by omega)) mX3_carried q1220 (by decide) c50 rfl rfl ⟨(Nat.le_of_ble_eq_true rfl), (Nat.le_of_ble_eq_true rfl)⟩ ⟨(Nat.le_of_ble_eq_true rfl), (Nat.le_of_ble_eq_true rfl)⟩ (Nat.le_of_ble_eq_true rfl) rfl dX3_fitsAll_32 (fun r47 S47 H locs hp47 hQ _ => ?_)
        subst hp47
        refine lv_istore (lv' := [(5, .int r47), (4, .int x3_4), (0, .ref (ad 119)), (1, .int a1), (2, .ref (ad 114)), (3, .int a3)]) hx hb dX3_fitsAll_35 hl (by decide) rfl (fun ls hl => ?_)
        refine lv_iload hx hb dX3_fitsAll_37 (lv_at hl 0 rfl) ?_
        refine lv_i2l hx hb dX3_fitsAll_39 rfl ?_
        refine lv_topl (fun w51 e52 => ?_)
        have t53 : w51.toInt = r47.toInt := by rw [e52]; exact w64 _
        have b54 : BdL w51 (-2147483648) (2147483647) := (by have h1 := ((ib_full r47)).1; have h2 := ((ib_full r47)).2; exact ⟨by omega, by omega⟩)
        refine lv_aload_n hx hb dX3_fitsAll_40 rfl (lv_at hl 4 rfl) ?_
        refine lv_iload hx hb dX3_fitsAll_41 (lv_at hl 1 rfl) ?_
        refine lv_iconst (v := 3) hx hb dX3_fitsAll_43 (by decide) ?_
        refine lv_iadd hx hb dX3_fitsAll_44 ?_
        refine lv_topi (fun z55 e56 => ?_)
        have t57 := ib_add e56 b23 (by decide : Bd 3 (3) (3)) (by decide) (by decide)
        have b58 : Bd z55 (3) (59) := ib_addb t57 b23 (by decide : Bd 3 (3) (3))
        have t57 : z55.toInt = x3_4.toInt + 3 := fold_add t57 rfl (by decide)
        refine xlald E hQ 114 (by decide) c25 (ib_in b58 (by decide) (by decide)) dX3_fitsAll_45 ?_
        refine lv_topl (fun w59 e60 => ?_)
        refine W.lcmp hx hb dX3_fitsAll_46 ?_
        refine lv_if_eq (tgt := 52) hx hb dX3_fitsAll_47 (by decide) (fun k61 => ?_) (fun k61 => ?_)
        · have h62 := lc_eq k61
          have b63 : BdL w59 (-2147483648) (2147483647) := ⟨((rf_eqL b54 (ib_fullL w59) h62).2).1, ((rf_eqL b54 (ib_fullL w59) h62).2).2⟩
          obtain ⟨z64, e65⟩ : ∃ z : Int32, z = x3_4 + 4 := ⟨_, rfl⟩
          have t66 := ib_add e65 b23 (by decide : Bd 4 (4) (4)) (by decide) (by decide)
          have b67 : Bd z64 (4) (60) := ib_addb t66 b23 (by decide : Bd 4 (4) (4))
          have t66 : z64.toInt = x3_4.toInt + 4 := fold_add t66 rfl (by decide)
          refine lv_iinc (v := z64) (lv' := [(4, .int z64), (5, .int r47), (0, .ref (ad 119)), (1, .int a1), (2, .ref (ad 114)), (3, .int a3)]) hx hb dX3_fitsAll_52 hl (k := 1) rfl (by rw [e65]; rfl) (by decide) rfl (fun ls hl => ?_)
          refine lv_goto (tgt := 3) hx hb dX3_fitsAll_55 (by decide) ?_
          exact ih3 _ _ _ z64 (ib_wk b67 (by decide) (by decide)) (by omega) hQ (lv_sub hl [0, 2, 3, 4, 5] rfl)
        · have h68 := lc_ne k61
          refine lv_iconst (v := 0) hx hb dX3_fitsAll_50 (by decide) ?_
          exact xrz E hr hlk hQ rfl (⟨rfl, (ib_wk (by decide : Bd 0 (0) (0)) (by decide) (by decide))⟩) dX3_fitsAll_51
  obtain ⟨n3, hn3⟩ := fu_n (60)
  exact loop3 n3 _ _ _ 0 (ib_wk (by decide : Bd 0 (0) (0)) (by decide) (by decide)) (by have : (0 : Int32).toInt = 0 := (by decide); omega) hQ (lv_sub hl [0, 1, 2, 3, 4] rfl)
set_option maxHeartbeats 4000000 in
set_option maxRecDepth 100000 in
theorem gX3_fitsAll_119_115 (l : Launch) (g : GG) (ad : Nat → Nat) (hD : Dj ad 122) (S : SS) (hI : InvX g ad S) (a1 : Int32) (a3 : Int32) (ba1 : Bd a1 (0) (48)) (ba3 : Bd a3 (-1) (60)) (hq1 : 0 ≤ fld (S 2) 1 + (-1)) : Met l yX3_fitsAll (wG (.code yX3_fitsAll cX3_fitsAll 6 (some .boolean))) (Rm 3) (XPre g ad 122 S [.ref (ad 119), .int a1, .ref (ad 115), .int a3]) (va_Qi (fun r S' => S = S' ∧ Bd r (0) (1)) (QB g ad 122) (FA ad 122)) 0 0 (FA ad 122) := by
  refine xmet cX3_fitsAll "EbbWreck$Floats" (by decide) rfl (Nat.le_of_ble_eq_true rfl) (fun p e s m below meth c E hr hlk hml hQ ls hl => ?_)
  have hx := E.1
  have hb := E.2.1
  have hs : Sp ad 122 (FA ad 122) := Sp.fa hD
  have hl : lv_has ls 6 [(0, .ref (ad 119)), (1, .int a1), (2, .ref (ad 115)), (3, .int a3)] := hl
  obtain ⟨v1, v3, v5, v6, v7, v9, c11, b2, b4, b8, b10⟩ := invX_2 hI
  have c11 : S 2 = .inr (1, [.int v1, .int v3, .int v5, .ref (ad 3), .ref (ad 5), .ref (ad 6), .int v6, .int v7, .ref (ad 7), .ref (ad 8), .ref (ad 9), .ref (ad 10), .int v9, .ref (ad 15), .ref (ad 16)]) := c11
  have q12 : fld (S 2) 1 = v3.toInt := fld_of c11 rfl
  have b13 : Bd v3 (1) (12) := ⟨by omega, by omega⟩
  refine lv_iconst (v := 0) hx hb dX3_fitsAll_0 (by decide) ?_
  refine lv_istore (lv' := [(4, .int 0), (0, .ref (ad 119)), (1, .int a1), (2, .ref (ad 115)), (3, .int a3)]) hx hb dX3_fitsAll_1 hl (by decide) rfl (fun ls hl => ?_)
  have loop3 : ∀ (n : Nat) (H : Heap) (locs : List Loc) (ls : Array Slot) (x3_4 : Int32), Bd x3_4 (0) (60) → (-1) * x3_4.toInt + 60 < ((n : Nat) : Int) → Hp g ad 122 S (FA ad 122) s.heap H locs → lv_has ls 6 [(4, .int x3_4), (0, .ref (ad 119)), (1, .int a1), (2, .ref (ad 115)), (3, .int a3)] → W p l e (Rm 3) s m [.ref (ad 119), .int a1, .ref (ad 115), .int a3].toArray below meth c H locs 0 0 (MQ below (va_Qi (fun r S' => S = S' ∧ Bd r (0) (1)) (QB g ad 122) (FA ad 122)) [.ref (ad 119), .int a1, .ref (ad 115), .int a3].toArray s 0 0 (FA ad 122)) (F0 m 3 ls []) := by
    intro n
    induction n with
    | zero => intro H locs ls x3_4 Bx3_4 hn3_ hQ hl; exfalso; have := (Bx3_4).2; omega
    | succ n3_ ih3 =>
      intro H locs ls x3_4 Bx3_4 hn3_ hQ hl
      refine lv_iload hx hb dX3_fitsAll_3 (lv_at hl 0 rfl) ?_
      refine lv_iconst (v := 4) hx hb dX3_fitsAll_5 (by decide) ?_
      refine lv_iadd hx hb dX3_fitsAll_6 ?_
      refine lv_topi (fun z14 e15 => ?_)
      have t16 := ib_add e15 Bx3_4 (by decide : Bd 4 (4) (4)) (by decide) (by decide)
      have b17 : Bd z14 (4) (64) := ib_addb t16 Bx3_4 (by decide : Bd 4 (4) (4))
      have t16 : z14.toInt = x3_4.toInt + 4 := fold_add t16 rfl (by decide)
      refine lv_iload_n hx hb dX3_fitsAll_7 rfl (lv_at hl 4 rfl) ?_
      refine lv_icmp_gt (tgt := 58) hx hb dX3_fitsAll_8 (by decide) (fun k18 => ?_) (fun k18 => ?_)
      · have h19 := ib_lt k18
        refine lv_iconst (v := 1) hx hb dX3_fitsAll_58 (by decide) ?_
        exact xrz E hr hlk hQ rfl (⟨rfl, (ib_wk (by decide : Bd 1 (1) (1)) (by decide) (by decide))⟩) dX3_fitsAll_59
      · have h20 := ib_nlt k18
        have b21 : Bd z14 (4) (60) := ⟨(b17).1, ((rf_le b17 ba3 h20).1).2⟩
        have b22 : Bd a3 (4) (60) := ⟨((rf_le b17 ba3 h20).2).1, (ba3).2⟩
        have b23 : Bd x3_4 (0) (56) := ⟨by omega, by omega⟩
        refine lv_aload_n hx hb dX3_fitsAll_11 rfl (lv_at hl 1 rfl) ?_
        refine lv_aload_n hx hb dX3_fitsAll_12 rfl (lv_at hl 3 rfl) ?_
        refine lv_iload hx hb dX3_fitsAll_13 (lv_at hl 0 rfl) ?_
        obtain ⟨f24, c25⟩ := invX_115 hI
        refine xlald E hQ 115 (by decide) c25 (ib_in b23 (by decide) (by decide)) dX3_fitsAll_15 ?_
        refine lv_topl (fun w27 e28 => ?_)
        refine lv_l2i hx hb dX3_fitsAll_16 rfl ?_
        refine lv_topi (fun z29 e30 => ?_)
        refine lv_aload_n hx hb dX3_fitsAll_17 rfl (lv_at hl 3 rfl) ?_
        refine lv_iload hx hb dX3_fitsAll_18 (lv_at hl 0 rfl) ?_
        refine lv_iconst (v := 1) hx hb dX3_fitsAll_20 (by decide) ?_
        refine lv_iadd hx hb dX3_fitsAll_21 ?_
        refine lv_topi (fun z31 e32 => ?_)
        have t33 := ib_add e32 b23 (by decide : Bd 1 (1) (1)) (by decide) (by decide)
        have b34 : Bd z31 (1) (57) := ib_addb t33 b23 (by decide : Bd 1 (1) (1))
        have t33 : z31.toInt = x3_4.toInt + 1 := fold_add t33 rfl (by decide)
        refine xlald E hQ 115 (by decide) c25 (ib_in b34 (by decide) (by decide)) dX3_fitsAll_22 ?_
        refine lv_topl (fun w35 e36 => ?_)
        refine lv_l2i hx hb dX3_fitsAll_23 rfl ?_
        refine lv_topi (fun z37 e38 => ?_)
        refine lv_aload_n hx hb dX3_fitsAll_24 rfl (lv_at hl 3 rfl) ?_
        refine lv_iload hx hb dX3_fitsAll_25 (lv_at hl 0 rfl) ?_
        refine lv_iconst (v := 2) hx hb dX3_fitsAll_27 (by decide) ?_
        refine lv_iadd hx hb dX3_fitsAll_28 ?_
        refine lv_topi (fun z39 e40 => ?_)
        have t41 := ib_add e40 b23 (by decide : Bd 2 (2) (2)) (by decide) (by decide)
        have b42 : Bd z39 (2) (58) := ib_addb t41 b23 (by decide : Bd 2 (2) (2))
        have t41 : z39.toInt = x3_4.toInt + 2 := fold_add t41 rfl (by decide)
        refine xlald E hQ 115 (by decide) c25 (ib_in b42 (by decide) (by decide)) dX3_fitsAll_29 ?_
        refine lv_topl (fun w43 e44 => ?_)
        refine lv_l2i hx hb dX3_fitsAll_30 rfl ?_
        refine lv_topi (fun z45 e46 => ?_)
        refine lv_iload_n hx hb dX3_fitsAll_31 rfl (lv_at hl 2 rfl) ?_
        obtain ⟨v48, c50, b49⟩ := invX_119 hI
        have c50 : S 119 = .inr (3, [.ref (ad 2), .ref (ad 111), .ref (ad 120), .int v48, .ref (ad 121)]) := c50
        refine xcVi E hs hQ hml hl.1 119 (gX3_carried_any l g ad hD S hI z29 z37 z45 a1 (by omega)) mX3_carried q1220 (by decide) c50 rfl rfl ⟨(Nat.le_of_ble_eq_true rfl), (Nat.le_of_ble_eq_true rfl)⟩ ⟨(Nat.le_of_ble_eq_true rfl), (Nat.le_of_ble_eq_true rfl)⟩ (Nat.le_of_ble_eq_true rfl) rfl dX3_fitsAll_32 (fun r47 S47 H locs hp47 hQ _ => ?_)
        subst hp47
        refine lv_istore (lv' := [(5, .int r47), (4, .int x3_4), (0, .ref (ad 119)), (1, .int a1), (2, .ref (ad 115)), (3, .int a3)]) hx hb dX3_fitsAll_35 hl (by decide) rfl (fun ls hl => ?_)
        refine lv_iload hx hb dX3_fitsAll_37 (lv_at hl 0 rfl) ?_
        refine lv_i2l hx hb dX3_fitsAll_39 rfl ?_
        refine lv_topl (fun w51 e52 => ?_)
        have t53 : w51.toInt = r47.toInt := by rw [e52]; exact w64 _
        have b54 : BdL w51 (-2147483648) (2147483647) := (by have h1 := ((ib_full r47)).1; have h2 := ((ib_full r47)).2; exact ⟨by omega, by omega⟩)
        refine lv_aload_n hx hb dX3_fitsAll_40 rfl (lv_at hl 4 rfl) ?_
        refine lv_iload hx hb dX3_fitsAll_41 (lv_at hl 1 rfl) ?_
        refine lv_iconst (v := 3) hx hb dX3_fitsAll_43 (by decide) ?_
        refine lv_iadd hx hb dX3_fitsAll_44 ?_
        refine lv_topi (fun z55 e56 => ?_)
        have t57 := ib_add e56 b23 (by decide : Bd 3 (3) (3)) (by decide) (by decide)
        have b58 : Bd z55 (3) (59) := ib_addb t57 b23 (by decide : Bd 3 (3) (3))
        have t57 : z55.toInt = x3_4.toInt + 3 := fold_add t57 rfl (by decide)
        refine xlald E hQ 115 (by decide) c25 (ib_in b58 (by decide) (by decide)) dX3_fitsAll_45 ?_
        refine lv_topl (fun w59 e60 => ?_)
        refine W.lcmp hx hb dX3_fitsAll_46 ?_
        refine lv_if_eq (tgt := 52) hx hb dX3_fitsAll_47 (by decide) (fun k61 => ?_) (fun k61 => ?_)
        · have h62 := lc_eq k61
          have b63 : BdL w59 (-2147483648) (2147483647) := ⟨((rf_eqL b54 (ib_fullL w59) h62).2).1, ((rf_eqL b54 (ib_fullL w59) h62).2).2⟩
          obtain ⟨z64, e65⟩ : ∃ z : Int32, z = x3_4 + 4 := ⟨_, rfl⟩
          have t66 := ib_add e65 b23 (by decide : Bd 4 (4) (4)) (by decide) (by decide)
          have b67 : Bd z64 (4) (60) := ib_addb t66 b23 (by decide : Bd 4 (4) (4))
          have t66 : z64.toInt = x3_4.toInt + 4 := fold_add t66 rfl (by decide)
          refine lv_iinc (v := z64) (lv' := [(4, .int z64), (5, .int r47), (0, .ref (ad 119)), (1, .int a1), (2, .ref (ad 115)), (3, .int a3)]) hx hb dX3_fitsAll_52 hl (k := 1) rfl (by rw [e65]; rfl) (by decide) rfl (fun ls hl => ?_)
          refine lv_goto (tgt := 3) hx hb dX3_fitsAll_55 (by decide) ?_
          exact ih3 _ _ _ z64 (ib_wk b67 (by decide) (by decide)) (by omega) hQ (lv_sub hl [0, 2, 3, 4, 5] rfl)
        · have h68 := lc_ne k61
          refine lv_iconst (v := 0) hx hb dX3_fitsAll_50 (by decide) ?_
          exact xrz E hr hlk hQ rfl (⟨rfl, (ib_wk (by decide : Bd 0 (0) (0)) (by decide) (by decide))⟩) dX3_fitsAll_51
  obtain ⟨n3, hn3⟩ := fu_n (60)
  exact loop3 n3 _ _ _ 0 (ib_wk (by decide : Bd 0 (0) (0)) (by decide) (by decide)) (by have : (0 : Int32).toInt = 0 := (by decide); omega) hQ (lv_sub hl [0, 1, 2, 3, 4] rfl)
set_option maxHeartbeats 4000000 in
set_option maxRecDepth 100000 in
theorem gX3_fitsAll_119_116 (l : Launch) (g : GG) (ad : Nat → Nat) (hD : Dj ad 122) (S : SS) (hI : InvX g ad S) (a1 : Int32) (a3 : Int32) (ba1 : Bd a1 (0) (48)) (ba3 : Bd a3 (-1) (60)) (hq1 : 0 ≤ fld (S 2) 1 + (-1)) : Met l yX3_fitsAll (wG (.code yX3_fitsAll cX3_fitsAll 6 (some .boolean))) (Rm 3) (XPre g ad 122 S [.ref (ad 119), .int a1, .ref (ad 116), .int a3]) (va_Qi (fun r S' => S = S' ∧ Bd r (0) (1)) (QB g ad 122) (FA ad 122)) 0 0 (FA ad 122) := by
  refine xmet cX3_fitsAll "EbbWreck$Floats" (by decide) rfl (Nat.le_of_ble_eq_true rfl) (fun p e s m below meth c E hr hlk hml hQ ls hl => ?_)
  have hx := E.1
  have hb := E.2.1
  have hs : Sp ad 122 (FA ad 122) := Sp.fa hD
  have hl : lv_has ls 6 [(0, .ref (ad 119)), (1, .int a1), (2, .ref (ad 116)), (3, .int a3)] := hl
  obtain ⟨v1, v3, v5, v6, v7, v9, c11, b2, b4, b8, b10⟩ := invX_2 hI
  have c11 : S 2 = .inr (1, [.int v1, .int v3, .int v5, .ref (ad 3), .ref (ad 5), .ref (ad 6), .int v6, .int v7, .ref (ad 7), .ref (ad 8), .ref (ad 9), .ref (ad 10), .int v9, .ref (ad 15), .ref (ad 16)]) := c11
  have q12 : fld (S 2) 1 = v3.toInt := fld_of c11 rfl
  have b13 : Bd v3 (1) (12) := ⟨by omega, by omega⟩
  refine lv_iconst (v := 0) hx hb dX3_fitsAll_0 (by decide) ?_
  refine lv_istore (lv' := [(4, .int 0), (0, .ref (ad 119)), (1, .int a1), (2, .ref (ad 116)), (3, .int a3)]) hx hb dX3_fitsAll_1 hl (by decide) rfl (fun ls hl => ?_)
  have loop3 : ∀ (n : Nat) (H : Heap) (locs : List Loc) (ls : Array Slot) (x3_4 : Int32), Bd x3_4 (0) (60) → (-1) * x3_4.toInt + 60 < ((n : Nat) : Int) → Hp g ad 122 S (FA ad 122) s.heap H locs → lv_has ls 6 [(4, .int x3_4), (0, .ref (ad 119)), (1, .int a1), (2, .ref (ad 116)), (3, .int a3)] → W p l e (Rm 3) s m [.ref (ad 119), .int a1, .ref (ad 116), .int a3].toArray below meth c H locs 0 0 (MQ below (va_Qi (fun r S' => S = S' ∧ Bd r (0) (1)) (QB g ad 122) (FA ad 122)) [.ref (ad 119), .int a1, .ref (ad 116), .int a3].toArray s 0 0 (FA ad 122)) (F0 m 3 ls []) := by
    intro n
    induction n with
    | zero => intro H locs ls x3_4 Bx3_4 hn3_ hQ hl; exfalso; have := (Bx3_4).2; omega
    | succ n3_ ih3 =>
      intro H locs ls x3_4 Bx3_4 hn3_ hQ hl
      refine lv_iload hx hb dX3_fitsAll_3 (lv_at hl 0 rfl) ?_
      refine lv_iconst (v := 4) hx hb dX3_fitsAll_5 (by decide) ?_
      refine lv_iadd hx hb dX3_fitsAll_6 ?_
      refine lv_topi (fun z14 e15 => ?_)
      have t16 := ib_add e15 Bx3_4 (by decide : Bd 4 (4) (4)) (by decide) (by decide)
      have b17 : Bd z14 (4) (64) := ib_addb t16 Bx3_4 (by decide : Bd 4 (4) (4))
      have t16 : z14.toInt = x3_4.toInt + 4 := fold_add t16 rfl (by decide)
      refine lv_iload_n hx hb dX3_fitsAll_7 rfl (lv_at hl 4 rfl) ?_
      refine lv_icmp_gt (tgt := 58) hx hb dX3_fitsAll_8 (by decide) (fun k18 => ?_) (fun k18 => ?_)
      · have h19 := ib_lt k18
        refine lv_iconst (v := 1) hx hb dX3_fitsAll_58 (by decide) ?_
        exact xrz E hr hlk hQ rfl (⟨rfl, (ib_wk (by decide : Bd 1 (1) (1)) (by decide) (by decide))⟩) dX3_fitsAll_59
      · have h20 := ib_nlt k18
        have b21 : Bd z14 (4) (60) := ⟨(b17).1, ((rf_le b17 ba3 h20).1).2⟩
        have b22 : Bd a3 (4) (60) := ⟨((rf_le b17 ba3 h20).2).1, (ba3).2⟩
        have b23 : Bd x3_4 (0) (56) := ⟨by omega, by omega⟩
        refine lv_aload_n hx hb dX3_fitsAll_11 rfl (lv_at hl 1 rfl) ?_
        refine lv_aload_n hx hb dX3_fitsAll_12 rfl (lv_at hl 3 rfl) ?_
        refine lv_iload hx hb dX3_fitsAll_13 (lv_at hl 0 rfl) ?_
        obtain ⟨f24, c25⟩ := invX_116 hI
        refine xlald E hQ 116 (by decide) c25 (ib_in b23 (by decide) (by decide)) dX3_fitsAll_15 ?_
        refine lv_topl (fun w27 e28 => ?_)
        refine lv_l2i hx hb dX3_fitsAll_16 rfl ?_
        refine lv_topi (fun z29 e30 => ?_)
        refine lv_aload_n hx hb dX3_fitsAll_17 rfl (lv_at hl 3 rfl) ?_
        refine lv_iload hx hb dX3_fitsAll_18 (lv_at hl 0 rfl) ?_
        refine lv_iconst (v := 1) hx hb dX3_fitsAll_20 (by decide) ?_
        refine lv_iadd hx hb dX3_fitsAll_21 ?_
        refine lv_topi (fun z31 e32 => ?_)
        have t33 := ib_add e32 b23 (by decide : Bd 1 (1) (1)) (by decide) (by decide)
        have b34 : Bd z31 (1) (57) := ib_addb t33 b23 (by decide : Bd 1 (1) (1))
        have t33 : z31.toInt = x3_4.toInt + 1 := fold_add t33 rfl (by decide)
        refine xlald E hQ 116 (by decide) c25 (ib_in b34 (by decide) (by decide)) dX3_fitsAll_22 ?_
        refine lv_topl (fun w35 e36 => ?_)
        refine lv_l2i hx hb dX3_fitsAll_23 rfl ?_
        refine lv_topi (fun z37 e38 => ?_)
        refine lv_aload_n hx hb dX3_fitsAll_24 rfl (lv_at hl 3 rfl) ?_
        refine lv_iload hx hb dX3_fitsAll_25 (lv_at hl 0 rfl) ?_
        refine lv_iconst (v := 2) hx hb dX3_fitsAll_27 (by decide) ?_
        refine lv_iadd hx hb dX3_fitsAll_28 ?_
        refine lv_topi (fun z39 e40 => ?_)
        have t41 := ib_add e40 b23 (by decide : Bd 2 (2) (2)) (by decide) (by decide)
        have b42 : Bd z39 (2) (58) := ib_addb t41 b23 (by decide : Bd 2 (2) (2))
        have t41 : z39.toInt = x3_4.toInt + 2 := fold_add t41 rfl (by decide)
        refine xlald E hQ 116 (by decide) c25 (ib_in b42 (by decide) (by decide)) dX3_fitsAll_29 ?_
        refine lv_topl (fun w43 e44 => ?_)
        refine lv_l2i hx hb dX3_fitsAll_30 rfl ?_
        refine lv_topi (fun z45 e46 => ?_)
        refine lv_iload_n hx hb dX3_fitsAll_31 rfl (lv_at hl 2 rfl) ?_
        obtain ⟨v48, c50, b49⟩ := invX_119 hI
        have c50 : S 119 = .inr (3, [.ref (ad 2), .ref (ad 111), .ref (ad 120), .int v48, .ref (ad 121)]) := c50
        refine xcVi E hs hQ hml hl.1 119 (gX3_carried_any l g ad hD S hI z29 z37 z45 a1 (by omega)) mX3_carried q1220 (by decide) c50 rfl rfl ⟨(Nat.le_of_ble_eq_true rfl), (Nat.le_of_ble_eq_true rfl)⟩ ⟨(Nat.le_of_ble_eq_true rfl), (Nat.le_of_ble_eq_true rfl)⟩ (Nat.le_of_ble_eq_true rfl) rfl dX3_fitsAll_32 (fun r47 S47 H locs hp47 hQ _ => ?_)
        subst hp47
        refine lv_istore (lv' := [(5, .int r47), (4, .int x3_4), (0, .ref (ad 119)), (1, .int a1), (2, .ref (ad 116)), (3, .int a3)]) hx hb dX3_fitsAll_35 hl (by decide) rfl (fun ls hl => ?_)
        refine lv_iload hx hb dX3_fitsAll_37 (lv_at hl 0 rfl) ?_
        refine lv_i2l hx hb dX3_fitsAll_39 rfl ?_
        refine lv_topl (fun w51 e52 => ?_)
        have t53 : w51.toInt = r47.toInt := by rw [e52]; exact w64 _
        have b54 : BdL w51 (-2147483648) (2147483647) := (by have h1 := ((ib_full r47)).1; have h2 := ((ib_full r47)).2; exact ⟨by omega, by omega⟩)
        refine lv_aload_n hx hb dX3_fitsAll_40 rfl (lv_at hl 4 rfl) ?_
        refine lv_iload hx hb dX3_fitsAll_41 (lv_at hl 1 rfl) ?_
        refine lv_iconst (v := 3) hx hb dX3_fitsAll_43 (by decide) ?_
        refine lv_iadd hx hb dX3_fitsAll_44 ?_
        refine lv_topi (fun z55 e56 => ?_)
        have t57 := ib_add e56 b23 (by decide : Bd 3 (3) (3)) (by decide) (by decide)
        have b58 : Bd z55 (3) (59) := ib_addb t57 b23 (by decide : Bd 3 (3) (3))
        have t57 : z55.toInt = x3_4.toInt + 3 := fold_add t57 rfl (by decide)
        refine xlald E hQ 116 (by decide) c25 (ib_in b58 (by decide) (by decide)) dX3_fitsAll_45 ?_
        refine lv_topl (fun w59 e60 => ?_)
        refine W.lcmp hx hb dX3_fitsAll_46 ?_
        refine lv_if_eq (tgt := 52) hx hb dX3_fitsAll_47 (by decide) (fun k61 => ?_) (fun k61 => ?_)
        · have h62 := lc_eq k61
          have b63 : BdL w59 (-2147483648) (2147483647) := ⟨((rf_eqL b54 (ib_fullL w59) h62).2).1, ((rf_eqL b54 (ib_fullL w59) h62).2).2⟩
          obtain ⟨z64, e65⟩ : ∃ z : Int32, z = x3_4 + 4 := ⟨_, rfl⟩
          have t66 := ib_add e65 b23 (by decide : Bd 4 (4) (4)) (by decide) (by decide)
          have b67 : Bd z64 (4) (60) := ib_addb t66 b23 (by decide : Bd 4 (4) (4))
          have t66 : z64.toInt = x3_4.toInt + 4 := fold_add t66 rfl (by decide)
          refine lv_iinc (v := z64) (lv' := [(4, .int z64), (5, .int r47), (0, .ref (ad 119)), (1, .int a1), (2, .ref (ad 116)), (3, .int a3)]) hx hb dX3_fitsAll_52 hl (k := 1) rfl (by rw [e65]; rfl) (by decide) rfl (fun ls hl => ?_)
          refine lv_goto (tgt := 3) hx hb dX3_fitsAll_55 (by decide) ?_
          exact ih3 _ _ _ z64 (ib_wk b67 (by decide) (by decide)) (by omega) hQ (lv_sub hl [0, 2, 3, 4, 5] rfl)
        · have h68 := lc_ne k61
          refine lv_iconst (v := 0) hx hb dX3_fitsAll_50 (by decide) ?_
          exact xrz E hr hlk hQ rfl (⟨rfl, (ib_wk (by decide : Bd 0 (0) (0)) (by decide) (by decide))⟩) dX3_fitsAll_51
  obtain ⟨n3, hn3⟩ := fu_n (60)
  exact loop3 n3 _ _ _ 0 (ib_wk (by decide : Bd 0 (0) (0)) (by decide) (by decide)) (by have : (0 : Int32).toInt = 0 := (by decide); omega) hQ (lv_sub hl [0, 1, 2, 3, 4] rfl)
set_option maxHeartbeats 4000000 in
set_option maxRecDepth 100000 in
theorem gX3_collect_119 (l : Launch) (g : GG) (ad : Nat → Nat) (hD : Dj ad 122) (S : SS) (hI : InvX g ad S) (a1 : Int32) (hq1 : 0 ≤ 1201 * fld (S 2) 1 + (-1) * fld (S 2) 0) (hq2 : 0 ≤ 8 * fld (S 2) 1 + (-1) * fld (S 2) 7) (hq3 : 0 ≤ 3 * fld (S 2) 1 + (-1) * fld (S 2) 12) : Met l yX3_collect (wG (.code yX3_collect cX3_collect 4 (some .int))) (Rm 4) (XPre g ad 122 S [.ref (ad 119), .int a1]) (va_Qi (fun r S' => InvX g ad S' ∧ (∀ j, j ∉ ([119, 120] : List Nat) → S' j = S j) ∧ Bd r (-6) (49) ∧ ((r.toInt < 0 ∨ (0 ≤ fld (S' 2) 1 + (-1))))) (QB g ad 122) (FA ad 122)) 0 0 (FA ad 122) := by
  refine xmet cX3_collect "EbbWreck$Floats" (by decide) rfl (Nat.le_of_ble_eq_true rfl) (fun p e s m below meth c E hr hlk hml hQ ls hl => ?_)
  have hx := E.1
  have hb := E.2.1
  have hs : Sp ad 122 (FA ad 122) := Sp.fa hD
  have hl : lv_has ls 4 [(0, .ref (ad 119)), (1, .int a1)] := hl
  obtain ⟨v1, v3, v5, v6, v7, v9, c11, b2, b4, b8, b10⟩ := invX_2 hI
  have c11 : S 2 = .inr (1, [.int v1, .int v3, .int v5, .ref (ad 3), .ref (ad 5), .ref (ad 6), .int v6, .int v7, .ref (ad 7), .ref (ad 8), .ref (ad 9), .ref (ad 10), .int v9, .ref (ad 15), .ref (ad 16)]) := c11
  have q12 : fld (S 2) 1 = v3.toInt := fld_of c11 rfl
  have q13 : fld (S 2) 0 = v1.toInt := fld_of c11 rfl
  have q14 : fld (S 2) 7 = v7.toInt := fld_of c11 rfl
  have q15 : fld (S 2) 12 = v9.toInt := fld_of c11 rfl
  refine lv_aload_n hx hb dX3_collect_0 rfl (lv_at hl 0 rfl) ?_
  refine lv_iconst (v := 0) hx hb dX3_collect_1 (by decide) ?_
  obtain ⟨v16, c18, b17⟩ := invX_119 hI
  have c18 : S 119 = .inr (3, [.ref (ad 2), .ref (ad 111), .ref (ad 120), .int v16, .ref (ad 121)]) := c18
  refine xputi E hs hQ 119 (by decide) c18 rfl 3 (by decide) q503 rfl rfl (Nat.le_of_ble_eq_true rfl) dX3_collect_2 (fun H locs S19 eS19 hQ => ?_)
  have hI := invX_up_119 hI eS19 ⟨0, rfl, (ib_wk (by decide : Bd 0 (0) (0)) (by decide) (by decide))⟩
  have c20 : S19 119 = .inr (3, [.ref (ad 2), .ref (ad 111), .ref (ad 120), .int 0, .ref (ad 121)]) := up_at eS19 rfl
  refine lv_iload_n hx hb dX3_collect_5 rfl (lv_at hl 1 rfl) ?_
  refine xcSi E hs hQ hml hl.1 (gX8_isSlot l g ad hD S19 hI a1) mX8_isSlot q1199 rfl ⟨(Nat.le_of_ble_eq_true rfl), (Nat.le_of_ble_eq_true rfl)⟩ ⟨(Nat.le_of_ble_eq_true rfl), (Nat.le_of_ble_eq_true rfl)⟩ (Nat.le_of_ble_eq_true rfl) rfl dX3_collect_6 (fun r21 S21 H locs hp21 hQ => ?_)
  obtain ⟨rfl, b21, g21_0, u21_0⟩ := hp21
  refine lv_if_eq (tgt := 22) hx hb dX3_collect_9 (by decide) (fun k22 => ?_) (fun k22 => ?_)
  · have h23 := ib_eq k22
    have b24 : Bd r21 (0) (0) := ⟨(b21).1, ((rf_eq b21 (by decide : Bd 0 (0) (0)) h23).1).2⟩
    clear g21_0
    refine lv_bipush (v := (-2)) hx hb dX3_collect_22 (by decide) ?_
    have c25 : S19 2 = .inr (1, [.int v1, .int v3, .int v5, .ref (ad 3), .ref (ad 5), .ref (ad 6), .int v6, .int v7, .ref (ad 7), .ref (ad 8), .ref (ad 9), .ref (ad 10), .int v9, .ref (ad 15), .ref (ad 16)]) := (up_ne eS19 (by decide) c11)
    have q26 : fld (S19 2) 1 = v3.toInt := fld_of c25 rfl
    have q27 : ((-2) : Int32).toInt = (-2) := by decide
    exact xri E hr hlk hQ (⟨hI, (up_o o_refl eS19 (by decide)), (ib_wk (by decide : Bd (-2) (-2) (-2)) (by decide) (by decide)), Or.inl (by omega)⟩) dX3_collect_24
  · have h28 := ib_ne k22
    have b29 : Bd r21 (1) (1) := rf_nlo b21 (by decide : Bd 0 (0) (0)) h28
    have g30 := g21_0.resolve_left (by omega)
    clear g21_0
    have b31 : Bd a1 (0) (3) := ⟨by omega, by omega⟩
    refine lv_aload_n hx hb dX3_collect_12 rfl (lv_at hl 0 rfl) ?_
    refine xget E hQ 119 (by decide) c20 rfl 0 (by decide) q500 rfl dX3_collect_13 ?_
    have c32 : S19 2 = .inr (1, [.int v1, .int v3, .int v5, .ref (ad 3), .ref (ad 5), .ref (ad 6), .int v6, .int v7, .ref (ad 7), .ref (ad 8), .ref (ad 9), .ref (ad 10), .int v9, .ref (ad 15), .ref (ad 16)]) := (up_ne eS19 (by decide) c11)
    refine xcVi E hs hQ hml hl.1 2 (gX1_isTold_2 l g ad hD S19 hI ) mX1_isTold q1202 (by decide) c32 rfl rfl ⟨(Nat.le_of_ble_eq_true rfl), (Nat.le_of_ble_eq_true rfl)⟩ ⟨(Nat.le_of_ble_eq_true rfl), (Nat.le_of_ble_eq_true rfl)⟩ (Nat.le_of_ble_eq_true rfl) rfl dX3_collect_16 (fun r33 S33 H locs hp33 hQ _ => ?_)
    obtain ⟨rfl, b33, g33_0⟩ := hp33
    have q34 : fld (S19 2) 0 = v1.toInt := fld_of c32 rfl
    refine lv_if_ne (tgt := 25) hx hb dX3_collect_19 (by decide) (fun k35 => ?_) (fun k35 => ?_)
    · have h36 := ib_ne k35
      have b37 : Bd r33 (1) (1) := rf_nlo b33 (by decide : Bd 0 (0) (0)) h36
      have g38 := g33_0.resolve_left (by omega)
      clear g33_0
      have b39 : Bd v1 (1) (1201) := ⟨by omega, by omega⟩
      refine lv_aload_n hx hb dX3_collect_25 rfl (lv_at hl 0 rfl) ?_
      refine xget E hQ 119 (by decide) c20 rfl 1 (by decide) q501 rfl dX3_collect_26 ?_
      refine lv_iload_n hx hb dX3_collect_29 rfl (lv_at hl 1 rfl) ?_
      have c41 := invX_111 hI
      have c41 : S19 111 = .inr (8, [.ref (ad 112), .ref (ad 117), .ref (ad 118)]) := c41
      refine xcVi E hs hQ hml hl.1 111 (gX8_hasRow_111 l g ad hD S19 hI a1 b31) mX8_hasRow q1203 (by decide) c41 rfl rfl ⟨(Nat.le_of_ble_eq_true rfl), (Nat.le_of_ble_eq_true rfl)⟩ ⟨(Nat.le_of_ble_eq_true rfl), (Nat.le_of_ble_eq_true rfl)⟩ (Nat.le_of_ble_eq_true rfl) rfl dX3_collect_30 (fun r40 S40 H locs hp40 hQ _ => ?_)
      obtain ⟨rfl, b40, u40_0⟩ := hp40
      refine lv_if_ne (tgt := 39) hx hb dX3_collect_33 (by decide) (fun k42 => ?_) (fun k42 => ?_)
      · have h43 := ib_ne k42
        have b44 : Bd r40 (1) (1) := rf_nlo b40 (by decide : Bd 0 (0) (0)) h43
        refine lv_aload_n hx hb dX3_collect_39 rfl (lv_at hl 0 rfl) ?_
        refine xget E hQ 119 (by decide) c20 rfl 1 (by decide) q501 rfl dX3_collect_40 ?_
        refine xget E hQ 111 (by decide) c41 rfl 2 (by decide) q484 rfl dX3_collect_43 ?_
        refine lv_iload_n hx hb dX3_collect_46 rfl (lv_at hl 1 rfl) ?_
        obtain ⟨f45, c46, b47⟩ := invX_118 hI
        refine xiald E hQ 118 (by decide) c46 (ib_in b31 (by decide) (by decide)) dX3_collect_47 ?_
        refine lv_topi (fun z48 e49 => ?_)
        have b50 : Bd z48 (-1) (60) := (by rw [e49]; exact b47 _)
        refine lv_istore_n (lv' := [(2, .int z48), (0, .ref (ad 119)), (1, .int a1)]) hx hb dX3_collect_48 rfl hl (by decide) rfl (fun ls hl => ?_)
        refine lv_iload_n hx hb dX3_collect_49 rfl (lv_at hl 0 rfl) ?_
        refine lv_iconst (v := 4) hx hb dX3_collect_50 (by decide) ?_
        refine lv_irem hx hb dX3_collect_51 (ib_ne0 (by decide : Bd 4 (4) (4)) (by decide)) ?_
        refine lv_topi (fun z51 e52 => ?_)
        have rx53 := ib_remx e52 b50 (by decide : Bd 4 (4) (4)) (by decide)
        have b54 : Bd z51 (-3) (3) := ib_remb e52 b50 (by decide : Bd 4 (4) (4)) (by decide)
        refine lv_if_ne (tgt := 72) hx hb dX3_collect_52 (by decide) (fun k55 => ?_) (fun k55 => ?_)
        · have h56 := ib_ne k55
          refine lv_bipush (v := (-2)) hx hb dX3_collect_72 (by decide) ?_
          have q57 : fld (S19 2) 1 = v3.toInt := fld_of c32 rfl
          have q58 : ((-2) : Int32).toInt = (-2) := by decide
          exact xri E hr hlk hQ (⟨hI, (up_o o_refl eS19 (by decide)), (ib_wk (by decide : Bd (-2) (-2) (-2)) (by decide) (by decide)), Or.inl (by omega)⟩) dX3_collect_74
        · have h59 := ib_eq k55
          have b60 : Bd z51 (0) (0) := ⟨((rf_eq b54 (by decide : Bd 0 (0) (0)) h59).1).1, ((rf_eq b54 (by decide : Bd 0 (0) (0)) h59).1).2⟩
          refine lv_aload_n hx hb dX3_collect_55 rfl (lv_at hl 1 rfl) ?_
          refine lv_aload_n hx hb dX3_collect_56 rfl (lv_at hl 1 rfl) ?_
          refine xget E hQ 119 (by decide) c20 rfl 1 (by decide) q501 rfl dX3_collect_57 ?_
          refine xget E hQ 111 (by decide) c41 rfl 0 (by decide) q479 rfl dX3_collect_60 ?_
          refine lv_iload_n hx hb dX3_collect_63 rfl (lv_at hl 2 rfl) ?_
          have c61 : S19 112 = _ := invX_112 hI
          rcases bd_c4 b31 with h62 | h62 | h62 | h62
          · refine xaald E hQ 112 (by decide) c61 (by rw [h62]; exact vp_in_lit 0 4 (by decide)) (by rw [h62]; rfl) dX3_collect_64 ?_
            have b63 : Bd a1 (0) (0) := (by rw [h62]; decide)
            refine lv_iload_n hx hb dX3_collect_65 rfl (lv_at hl 0 rfl) ?_
            refine xcVi E hs hQ hml hl.1 119 (gX3_areAllSuch_119_113 l g ad hD S19 hI z48 b50) mX3_areAllSuch q1204 (by decide) c20 rfl rfl ⟨(Nat.le_of_ble_eq_true rfl), (Nat.le_of_ble_eq_true rfl)⟩ ⟨(Nat.le_of_ble_eq_true rfl), (Nat.le_of_ble_eq_true rfl)⟩ (Nat.le_of_ble_eq_true rfl) rfl dX3_collect_66 (fun r64 S64 H locs hp64 hQ _ => ?_)
            obtain ⟨rfl, b64⟩ := hp64
            refine lv_if_ne (tgt := 75) hx hb dX3_collect_69 (by decide) (fun k65 => ?_) (fun k65 => ?_)
            · have h66 := ib_ne k65
              have b67 : Bd r64 (1) (1) := rf_nlo b64 (by decide : Bd 0 (0) (0)) h66
              refine lv_iconst (v := 0) hx hb dX3_collect_75 (by decide) ?_
              refine lv_istore_n (lv' := [(3, .int 0), (2, .int z48), (0, .ref (ad 119)), (1, .int a1)]) hx hb dX3_collect_76 rfl hl (by decide) rfl (fun ls hl => ?_)
              have loop77 : ∀ (n : Nat) (S_77 : SS) (H : Heap) (locs : List Loc) (ls : Array Slot) (x77_3 : Int32) (y77_119_3 : Int32), Bd x77_3 (0) (49) → Bd y77_119_3 (0) (100000) → 0 ≤ x77_3.toInt + (-1) * y77_119_3.toInt → 0 ≤ x77_3.toInt + (-1) * a1.toInt → 0 ≤ y77_119_3.toInt + (-1) * a1.toInt → (-1) * x77_3.toInt + 49 < ((n : Nat) : Int) → InvX g ad S_77 → (∀ j, j ∉ ([119, 120] : List Nat) → S_77 j = S19 j) → S_77 119 = .inr (3, [.ref (ad 2), .ref (ad 111), .ref (ad 120), .int y77_119_3, .ref (ad 121)]) → Hp g ad 122 S_77 (FA ad 122) s.heap H locs → lv_has ls 4 [(3, .int x77_3), (2, .int z48), (0, .ref (ad 119)), (1, .int a1)] → W p l e (Rm 4) s m [.ref (ad 119), .int a1].toArray below meth c H locs 0 0 (MQ below (va_Qi (fun r S' => InvX g ad S' ∧ (∀ j, j ∉ ([119, 120] : List Nat) → S' j = S j) ∧ Bd r (-6) (49) ∧ ((r.toInt < 0 ∨ (0 ≤ fld (S' 2) 1 + (-1))))) (QB g ad 122) (FA ad 122)) [.ref (ad 119), .int a1].toArray s 0 0 (FA ad 122)) (F0 m 77 ls []) := by
                intro n
                induction n with
                | zero => intro S_77 H locs ls x77_3 y77_119_3 Bx77_3 By77_119_3 C77_0 C77_1 C77_2 hn77_ hI hf77 cl77_119 hQ hl; exfalso; have := (Bx77_3).2; omega
                | succ n77_ ih77 =>
                  intro S_77 H locs ls x77_3 y77_119_3 Bx77_3 By77_119_3 C77_0 C77_1 C77_2 hn77_ hI hf77 cl77_119 hQ hl
                  have b68 : Bd y77_119_3 (0) (49) := ⟨by omega, by omega⟩
                  refine lv_iload_n hx hb dX3_collect_77 rfl (lv_at hl 0 rfl) ?_
                  refine lv_bipush (v := 49) hx hb dX3_collect_78 (by decide) ?_
                  refine lv_icmp_ge (tgt := 127) hx hb dX3_collect_80 (by decide) (fun k69 => ?_) (fun k69 => ?_)
                  · have h70 := ib_le k69
                    have b71 : Bd x77_3 (49) (49) := ⟨((rf_le (by decide : Bd 49 (49) (49)) Bx77_3 h70).2).1, (Bx77_3).2⟩
                    refine lv_aload_n hx hb dX3_collect_127 rfl (lv_at hl 2 rfl) ?_
                    refine xget E hQ 119 (by decide) cl77_119 rfl 3 (by decide) q503 rfl dX3_collect_128 ?_
                    have c72 : S_77 2 = .inr (1, [.int v1, .int v3, .int v5, .ref (ad 3), .ref (ad 5), .ref (ad 6), .int v6, .int v7, .ref (ad 7), .ref (ad 8), .ref (ad 9), .ref (ad 10), .int v9, .ref (ad 15), .ref (ad 16)]) := ((hf77 2 (by decide)).trans c32)
                    have q73 : fld (S_77 2) 1 = v3.toInt := fld_of c72 rfl
                    exact xri E hr hlk hQ (⟨hI, (o_trans (up_o o_refl eS19 (by decide)) hf77 (by decide)), (ib_wk b68 (by decide) (by decide)), Or.inr (by omega)⟩) dX3_collect_131
                  · have h74 := ib_nle k69
                    have b75 : Bd x77_3 (0) (48) := ⟨(Bx77_3).1, ((rf_lt Bx77_3 (by decide : Bd 49 (49) (49)) h74).1).2⟩
                    refine lv_aload_n hx hb dX3_collect_83 rfl (lv_at hl 2 rfl) ?_
                    refine lv_iload_n hx hb dX3_collect_84 rfl (lv_at hl 0 rfl) ?_
                    refine lv_aload_n hx hb dX3_collect_85 rfl (lv_at hl 2 rfl) ?_
                    refine xget E hQ 119 (by decide) cl77_119 rfl 1 (by decide) q501 rfl dX3_collect_86 ?_
                    have c76 : S_77 111 = .inr (8, [.ref (ad 112), .ref (ad 117), .ref (ad 118)]) := ((hf77 111 (by decide)).trans c41)
                    refine xget E hQ 111 (by decide) c76 rfl 0 (by decide) q479 rfl dX3_collect_89 ?_
                    refine lv_iload_n hx hb dX3_collect_92 rfl (lv_at hl 3 rfl) ?_
                    have c77 : S_77 112 = .inl (g.2 5, 4, .inr (.inr (.inr (.inr (nuF ad))))) := ((hf77 112 (by decide)).trans c61)
                    have h78 : a1 = 0 := Int32.toInt_inj.mp (Int.le_antisymm (b63).2 (b63).1)
                    refine xaald E hQ 112 (by decide) c77 (by rw [h78]; exact vp_in_lit 0 4 (by decide)) (by rw [h78]; rfl) dX3_collect_93 ?_
                    refine lv_iload_n hx hb dX3_collect_94 rfl (lv_at hl 1 rfl) ?_
                    have c79 : S_77 2 = .inr (1, [.int v1, .int v3, .int v5, .ref (ad 3), .ref (ad 5), .ref (ad 6), .int v6, .int v7, .ref (ad 7), .ref (ad 8), .ref (ad 9), .ref (ad 10), .int v9, .ref (ad 15), .ref (ad 16)]) := ((hf77 2 (by decide)).trans c32)
                    have q80 : fld (S_77 2) 1 = v3.toInt := fld_of c79 rfl
                    refine xcVi E hs hQ hml hl.1 119 (gX3_fitsAll_119_113 l g ad hD S_77 hI x77_3 z48 b75 b50 (by omega)) mX3_fitsAll q1216 (by decide) cl77_119 rfl rfl ⟨(Nat.le_of_ble_eq_true rfl), (Nat.le_of_ble_eq_true rfl)⟩ ⟨(Nat.le_of_ble_eq_true rfl), (Nat.le_of_ble_eq_true rfl)⟩ (Nat.le_of_ble_eq_true rfl) rfl dX3_collect_95 (fun r81 S81 H locs hp81 hQ _ => ?_)
                    obtain ⟨rfl, b81⟩ := hp81
                    refine lv_if_eq (tgt := 121) hx hb dX3_collect_98 (by decide) (fun k82 => ?_) (fun k82 => ?_)
                    · have h83 := ib_eq k82
                      have b84 : Bd r81 (0) (0) := ⟨(b81).1, ((rf_eq b81 (by decide : Bd 0 (0) (0)) h83).1).2⟩
                      obtain ⟨z85, e86⟩ : ∃ z : Int32, z = x77_3 + 1 := ⟨_, rfl⟩
                      have t87 := ib_add e86 b75 (by decide : Bd 1 (1) (1)) (by decide) (by decide)
                      have b88 : Bd z85 (1) (49) := ib_addb t87 b75 (by decide : Bd 1 (1) (1))
                      have t87 : z85.toInt = x77_3.toInt + 1 := fold_add t87 rfl (by decide)
                      refine lv_iinc (v := z85) (lv' := [(3, .int z85), (2, .int z48), (0, .ref (ad 119)), (1, .int a1)]) hx hb dX3_collect_121 hl (k := 0) rfl (by rw [e86]; rfl) (by decide) rfl (fun ls hl => ?_)
                      refine lv_goto (tgt := 77) hx hb dX3_collect_124 (by decide) ?_
                      exact ih77 _ _ _ _ z85 y77_119_3 (ib_wk b88 (by decide) (by decide)) (ib_wk b68 (by decide) (by decide)) (by omega) (by omega) (by omega) (by omega) hI hf77 cl77_119 hQ (lv_sub hl [0, 1, 2, 3] rfl)
                    · have h89 := ib_ne k82
                      have b90 : Bd r81 (1) (1) := rf_nlo b81 (by decide : Bd 0 (0) (0)) h89
                      refine lv_aload_n hx hb dX3_collect_101 rfl (lv_at hl 2 rfl) ?_
                      refine xget E hQ 119 (by decide) cl77_119 rfl 2 (by decide) q502 rfl dX3_collect_102 ?_
                      refine lv_aload_n hx hb dX3_collect_105 rfl (lv_at hl 2 rfl) ?_
                      refine xget E hQ 119 (by decide) cl77_119 rfl 3 (by decide) q503 rfl dX3_collect_106 ?_
                      refine lv_iload_n hx hb dX3_collect_109 rfl (lv_at hl 0 rfl) ?_
                      obtain ⟨f91, c92, b93⟩ := invX_120 hI
                      refine xiast E hs hQ 120 (by decide) c92 (ib_inx (n := 49) (by omega) (by omega)) dX3_collect_110 (fun H locs S94 eS94 hQ => ?_)
                      have hI := invX_up_120 hI eS94 ⟨_, rfl, upd_b b93 b75⟩
                      have b96 : ∀ j, Bd ((upd f91 (y77_119_3 : Int32).toNatClampNeg x77_3) j) (0) (48) := upd_b b93 b75
                      have c95 : S94 120 = .inl (g.2 0, 49, .inl (upd f91 (y77_119_3 : Int32).toNatClampNeg x77_3)) := up_at eS94 rfl
                      refine lv_aload_n hx hb dX3_collect_111 rfl (lv_at hl 2 rfl) ?_
                      refine lv_dup hx hb dX3_collect_112 rfl ?_
                      have c97 : S94 119 = .inr (3, [.ref (ad 2), .ref (ad 111), .ref (ad 120), .int y77_119_3, .ref (ad 121)]) := (up_ne eS94 (by decide) cl77_119)
                      refine xget E hQ 119 (by decide) c97 rfl 3 (by decide) q503 rfl dX3_collect_113 ?_
                      refine lv_iconst (v := 1) hx hb dX3_collect_116 (by decide) ?_
                      refine lv_iadd hx hb dX3_collect_117 ?_
                      refine lv_topi (fun z98 e99 => ?_)
                      have t100 := ib_add e99 b68 (by decide : Bd 1 (1) (1)) (by decide) (by decide)
                      have b101 : Bd z98 (1) (50) := ib_addb t100 b68 (by decide : Bd 1 (1) (1))
                      have t100 : z98.toInt = y77_119_3.toInt + 1 := fold_add t100 rfl (by decide)
                      refine xputi E hs hQ 119 (by decide) c97 rfl 3 (by decide) q503 rfl rfl (Nat.le_of_ble_eq_true rfl) dX3_collect_118 (fun H locs S102 eS102 hQ => ?_)
                      have hI := invX_up_119 hI eS102 ⟨z98, rfl, (⟨by omega, by omega⟩ : Bd z98 (0) (49))⟩
                      have c103 : S102 119 = .inr (3, [.ref (ad 2), .ref (ad 111), .ref (ad 120), .int z98, .ref (ad 121)]) := up_at eS102 rfl
                      obtain ⟨z104, e105⟩ : ∃ z : Int32, z = x77_3 + 1 := ⟨_, rfl⟩
                      have t106 := ib_add e105 b75 (by decide : Bd 1 (1) (1)) (by decide) (by decide)
                      have b107 : Bd z104 (1) (49) := ib_addb t106 b75 (by decide : Bd 1 (1) (1))
                      have t106 : z104.toInt = x77_3.toInt + 1 := fold_add t106 rfl (by decide)
                      refine lv_iinc (v := z104) (lv' := [(3, .int z104), (2, .int z48), (0, .ref (ad 119)), (1, .int a1)]) hx hb dX3_collect_121 hl (k := 0) rfl (by rw [e105]; rfl) (by decide) rfl (fun ls hl => ?_)
                      refine lv_goto (tgt := 77) hx hb dX3_collect_124 (by decide) ?_
                      exact ih77 _ _ _ _ z104 z98 (ib_wk b107 (by decide) (by decide)) (ib_wk b101 (by decide) (by decide)) (by omega) (by omega) (by omega) (by omega) hI (up_o (up_o hf77 eS94 (by decide)) eS102 (by decide)) c103 hQ (lv_sub hl [0, 1, 2, 3] rfl)
              obtain ⟨n77, hn77⟩ := fu_n (49)
              exact loop77 n77 _ _ _ _ 0 0 (ib_wk (by decide : Bd 0 (0) (0)) (by decide) (by decide)) (ib_wk (by decide : Bd 0 (0) (0)) (by decide) (by decide)) (by have : (0 : Int32).toInt = 0 := (by decide); omega) (by have : (0 : Int32).toInt = 0 := (by decide); omega) (by have : (0 : Int32).toInt = 0 := (by decide); omega) (by have : (0 : Int32).toInt = 0 := (by decide); omega) hI o_refl c20 hQ (lv_sub hl [0, 1, 2, 3] rfl)
            · have h108 := ib_eq k65
              have b109 : Bd r64 (0) (0) := ⟨(b64).1, ((rf_eq b64 (by decide : Bd 0 (0) (0)) h108).1).2⟩
              refine lv_bipush (v := (-2)) hx hb dX3_collect_72 (by decide) ?_
              have q110 : fld (S19 2) 1 = v3.toInt := fld_of c32 rfl
              have q111 : ((-2) : Int32).toInt = (-2) := by decide
              exact xri E hr hlk hQ (⟨hI, (up_o o_refl eS19 (by decide)), (ib_wk (by decide : Bd (-2) (-2) (-2)) (by decide) (by decide)), Or.inl (by omega)⟩) dX3_collect_74
          · refine xaald E hQ 112 (by decide) c61 (by rw [h62]; exact vp_in_lit 1 4 (by decide)) (by rw [h62]; rfl) dX3_collect_64 ?_
            have b112 : Bd a1 (1) (1) := (by rw [h62]; decide)
            refine lv_iload_n hx hb dX3_collect_65 rfl (lv_at hl 0 rfl) ?_
            refine xcVi E hs hQ hml hl.1 119 (gX3_areAllSuch_119_114 l g ad hD S19 hI z48 b50) mX3_areAllSuch q1204 (by decide) c20 rfl rfl ⟨(Nat.le_of_ble_eq_true rfl), (Nat.le_of_ble_eq_true rfl)⟩ ⟨(Nat.le_of_ble_eq_true rfl), (Nat.le_of_ble_eq_true rfl)⟩ (Nat.le_of_ble_eq_true rfl) rfl dX3_collect_66 (fun r113 S113 H locs hp113 hQ _ => ?_)
            obtain ⟨rfl, b113⟩ := hp113
            refine lv_if_ne (tgt := 75) hx hb dX3_collect_69 (by decide) (fun k114 => ?_) (fun k114 => ?_)
            · have h115 := ib_ne k114
              have b116 : Bd r113 (1) (1) := rf_nlo b113 (by decide : Bd 0 (0) (0)) h115
              refine lv_iconst (v := 0) hx hb dX3_collect_75 (by decide) ?_
              refine lv_istore_n (lv' := [(3, .int 0), (2, .int z48), (0, .ref (ad 119)), (1, .int a1)]) hx hb dX3_collect_76 rfl hl (by decide) rfl (fun ls hl => ?_)
              have loop77 : ∀ (n : Nat) (S_77 : SS) (H : Heap) (locs : List Loc) (ls : Array Slot) (x77_3 : Int32) (y77_119_3 : Int32), Bd x77_3 (0) (49) → Bd y77_119_3 (0) (100000) → 0 ≤ x77_3.toInt + (-1) * y77_119_3.toInt → (-1) * x77_3.toInt + 49 < ((n : Nat) : Int) → InvX g ad S_77 → (∀ j, j ∉ ([119, 120] : List Nat) → S_77 j = S19 j) → S_77 119 = .inr (3, [.ref (ad 2), .ref (ad 111), .ref (ad 120), .int y77_119_3, .ref (ad 121)]) → Hp g ad 122 S_77 (FA ad 122) s.heap H locs → lv_has ls 4 [(3, .int x77_3), (2, .int z48), (0, .ref (ad 119)), (1, .int a1)] → W p l e (Rm 4) s m [.ref (ad 119), .int a1].toArray below meth c H locs 0 0 (MQ below (va_Qi (fun r S' => InvX g ad S' ∧ (∀ j, j ∉ ([119, 120] : List Nat) → S' j = S j) ∧ Bd r (-6) (49) ∧ ((r.toInt < 0 ∨ (0 ≤ fld (S' 2) 1 + (-1))))) (QB g ad 122) (FA ad 122)) [.ref (ad 119), .int a1].toArray s 0 0 (FA ad 122)) (F0 m 77 ls []) := by
                intro n
                induction n with
                | zero => intro S_77 H locs ls x77_3 y77_119_3 Bx77_3 By77_119_3 C77_0 hn77_ hI hf77 cl77_119 hQ hl; exfalso; have := (Bx77_3).2; omega
                | succ n77_ ih77 =>
                  intro S_77 H locs ls x77_3 y77_119_3 Bx77_3 By77_119_3 C77_0 hn77_ hI hf77 cl77_119 hQ hl
                  have b117 : Bd y77_119_3 (0) (49) := ⟨by omega, by omega⟩
                  refine lv_iload_n hx hb dX3_collect_77 rfl (lv_at hl 0 rfl) ?_
                  refine lv_bipush (v := 49) hx hb dX3_collect_78 (by decide) ?_
                  refine lv_icmp_ge (tgt := 127) hx hb dX3_collect_80 (by decide) (fun k118 => ?_) (fun k118 => ?_)
                  · have h119 := ib_le k118
                    have b120 : Bd x77_3 (49) (49) := ⟨((rf_le (by decide : Bd 49 (49) (49)) Bx77_3 h119).2).1, (Bx77_3).2⟩
                    refine lv_aload_n hx hb dX3_collect_127 rfl (lv_at hl 2 rfl) ?_
                    refine xget E hQ 119 (by decide) cl77_119 rfl 3 (by decide) q503 rfl dX3_collect_128 ?_
                    have c121 : S_77 2 = .inr (1, [.int v1, .int v3, .int v5, .ref (ad 3), .ref (ad 5), .ref (ad 6), .int v6, .int v7, .ref (ad 7), .ref (ad 8), .ref (ad 9), .ref (ad 10), .int v9, .ref (ad 15), .ref (ad 16)]) := ((hf77 2 (by decide)).trans c32)
                    have q122 : fld (S_77 2) 1 = v3.toInt := fld_of c121 rfl
                    exact xri E hr hlk hQ (⟨hI, (o_trans (up_o o_refl eS19 (by decide)) hf77 (by decide)), (ib_wk b117 (by decide) (by decide)), Or.inr (by omega)⟩) dX3_collect_131
                  · have h123 := ib_nle k118
                    have b124 : Bd x77_3 (0) (48) := ⟨(Bx77_3).1, ((rf_lt Bx77_3 (by decide : Bd 49 (49) (49)) h123).1).2⟩
                    refine lv_aload_n hx hb dX3_collect_83 rfl (lv_at hl 2 rfl) ?_
                    refine lv_iload_n hx hb dX3_collect_84 rfl (lv_at hl 0 rfl) ?_
                    refine lv_aload_n hx hb dX3_collect_85 rfl (lv_at hl 2 rfl) ?_
                    refine xget E hQ 119 (by decide) cl77_119 rfl 1 (by decide) q501 rfl dX3_collect_86 ?_
                    have c125 : S_77 111 = .inr (8, [.ref (ad 112), .ref (ad 117), .ref (ad 118)]) := ((hf77 111 (by decide)).trans c41)
                    refine xget E hQ 111 (by decide) c125 rfl 0 (by decide) q479 rfl dX3_collect_89 ?_
                    refine lv_iload_n hx hb dX3_collect_92 rfl (lv_at hl 3 rfl) ?_
                    have c126 : S_77 112 = .inl (g.2 5, 4, .inr (.inr (.inr (.inr (nuF ad))))) := ((hf77 112 (by decide)).trans c61)
                    have h127 : a1 = 1 := Int32.toInt_inj.mp (Int.le_antisymm (b112).2 (b112).1)
                    refine xaald E hQ 112 (by decide) c126 (by rw [h127]; exact vp_in_lit 1 4 (by decide)) (by rw [h127]; rfl) dX3_collect_93 ?_
                    refine lv_iload_n hx hb dX3_collect_94 rfl (lv_at hl 1 rfl) ?_
                    have c128 : S_77 2 = .inr (1, [.int v1, .int v3, .int v5, .ref (ad 3), .ref (ad 5), .ref (ad 6), .int v6, .int v7, .ref (ad 7), .ref (ad 8), .ref (ad 9), .ref (ad 10), .int v9, .ref (ad 15), .ref (ad 16)]) := ((hf77 2 (by decide)).trans c32)
                    have q129 : fld (S_77 2) 1 = v3.toInt := fld_of c128 rfl
                    refine xcVi E hs hQ hml hl.1 119 (gX3_fitsAll_119_114 l g ad hD S_77 hI x77_3 z48 b124 b50 (by omega)) mX3_fitsAll q1216 (by decide) cl77_119 rfl rfl ⟨(Nat.le_of_ble_eq_true rfl), (Nat.le_of_ble_eq_true rfl)⟩ ⟨(Nat.le_of_ble_eq_true rfl), (Nat.le_of_ble_eq_true rfl)⟩ (Nat.le_of_ble_eq_true rfl) rfl dX3_collect_95 (fun r130 S130 H locs hp130 hQ _ => ?_)
                    obtain ⟨rfl, b130⟩ := hp130
                    refine lv_if_eq (tgt := 121) hx hb dX3_collect_98 (by decide) (fun k131 => ?_) (fun k131 => ?_)
                    · have h132 := ib_eq k131
                      have b133 : Bd r130 (0) (0) := ⟨(b130).1, ((rf_eq b130 (by decide : Bd 0 (0) (0)) h132).1).2⟩
                      obtain ⟨z134, e135⟩ : ∃ z : Int32, z = x77_3 + 1 := ⟨_, rfl⟩
                      have t136 := ib_add e135 b124 (by decide : Bd 1 (1) (1)) (by decide) (by decide)
                      have b137 : Bd z134 (1) (49) := ib_addb t136 b124 (by decide : Bd 1 (1) (1))
                      have t136 : z134.toInt = x77_3.toInt + 1 := fold_add t136 rfl (by decide)
                      refine lv_iinc (v := z134) (lv' := [(3, .int z134), (2, .int z48), (0, .ref (ad 119)), (1, .int a1)]) hx hb dX3_collect_121 hl (k := 0) rfl (by rw [e135]; rfl) (by decide) rfl (fun ls hl => ?_)
                      refine lv_goto (tgt := 77) hx hb dX3_collect_124 (by decide) ?_
                      exact ih77 _ _ _ _ z134 y77_119_3 (ib_wk b137 (by decide) (by decide)) (ib_wk b117 (by decide) (by decide)) (by omega) (by omega) hI hf77 cl77_119 hQ (lv_sub hl [0, 1, 2, 3] rfl)
                    · have h138 := ib_ne k131
                      have b139 : Bd r130 (1) (1) := rf_nlo b130 (by decide : Bd 0 (0) (0)) h138
                      refine lv_aload_n hx hb dX3_collect_101 rfl (lv_at hl 2 rfl) ?_
                      refine xget E hQ 119 (by decide) cl77_119 rfl 2 (by decide) q502 rfl dX3_collect_102 ?_
                      refine lv_aload_n hx hb dX3_collect_105 rfl (lv_at hl 2 rfl) ?_
                      refine xget E hQ 119 (by decide) cl77_119 rfl 3 (by decide) q503 rfl dX3_collect_106 ?_
                      refine lv_iload_n hx hb dX3_collect_109 rfl (lv_at hl 0 rfl) ?_
                      obtain ⟨f140, c141, b142⟩ := invX_120 hI
                      refine xiast E hs hQ 120 (by decide) c141 (ib_inx (n := 49) (by omega) (by omega)) dX3_collect_110 (fun H locs S143 eS143 hQ => ?_)
                      have hI := invX_up_120 hI eS143 ⟨_, rfl, upd_b b142 b124⟩
                      have b145 : ∀ j, Bd ((upd f140 (y77_119_3 : Int32).toNatClampNeg x77_3) j) (0) (48) := upd_b b142 b124
                      have c144 : S143 120 = .inl (g.2 0, 49, .inl (upd f140 (y77_119_3 : Int32).toNatClampNeg x77_3)) := up_at eS143 rfl
                      refine lv_aload_n hx hb dX3_collect_111 rfl (lv_at hl 2 rfl) ?_
                      refine lv_dup hx hb dX3_collect_112 rfl ?_
                      have c146 : S143 119 = .inr (3, [.ref (ad 2), .ref (ad 111), .ref (ad 120), .int y77_119_3, .ref (ad 121)]) := (up_ne eS143 (by decide) cl77_119)
                      refine xget E hQ 119 (by decide) c146 rfl 3 (by decide) q503 rfl dX3_collect_113 ?_
                      refine lv_iconst (v := 1) hx hb dX3_collect_116 (by decide) ?_
                      refine lv_iadd hx hb dX3_collect_117 ?_
                      refine lv_topi (fun z147 e148 => ?_)
                      have t149 := ib_add e148 b117 (by decide : Bd 1 (1) (1)) (by decide) (by decide)
                      have b150 : Bd z147 (1) (50) := ib_addb t149 b117 (by decide : Bd 1 (1) (1))
                      have t149 : z147.toInt = y77_119_3.toInt + 1 := fold_add t149 rfl (by decide)
                      refine xputi E hs hQ 119 (by decide) c146 rfl 3 (by decide) q503 rfl rfl (Nat.le_of_ble_eq_true rfl) dX3_collect_118 (fun H locs S151 eS151 hQ => ?_)
                      have hI := invX_up_119 hI eS151 ⟨z147, rfl, (⟨by omega, by omega⟩ : Bd z147 (0) (49))⟩
                      have c152 : S151 119 = .inr (3, [.ref (ad 2), .ref (ad 111), .ref (ad 120), .int z147, .ref (ad 121)]) := up_at eS151 rfl
                      obtain ⟨z153, e154⟩ : ∃ z : Int32, z = x77_3 + 1 := ⟨_, rfl⟩
                      have t155 := ib_add e154 b124 (by decide : Bd 1 (1) (1)) (by decide) (by decide)
                      have b156 : Bd z153 (1) (49) := ib_addb t155 b124 (by decide : Bd 1 (1) (1))
                      have t155 : z153.toInt = x77_3.toInt + 1 := fold_add t155 rfl (by decide)
                      refine lv_iinc (v := z153) (lv' := [(3, .int z153), (2, .int z48), (0, .ref (ad 119)), (1, .int a1)]) hx hb dX3_collect_121 hl (k := 0) rfl (by rw [e154]; rfl) (by decide) rfl (fun ls hl => ?_)
                      refine lv_goto (tgt := 77) hx hb dX3_collect_124 (by decide) ?_
                      exact ih77 _ _ _ _ z153 z147 (ib_wk b156 (by decide) (by decide)) (ib_wk b150 (by decide) (by decide)) (by omega) (by omega) hI (up_o (up_o hf77 eS143 (by decide)) eS151 (by decide)) c152 hQ (lv_sub hl [0, 1, 2, 3] rfl)
              obtain ⟨n77, hn77⟩ := fu_n (49)
              exact loop77 n77 _ _ _ _ 0 0 (ib_wk (by decide : Bd 0 (0) (0)) (by decide) (by decide)) (ib_wk (by decide : Bd 0 (0) (0)) (by decide) (by decide)) (by have : (0 : Int32).toInt = 0 := (by decide); omega) (by have : (0 : Int32).toInt = 0 := (by decide); omega) hI o_refl c20 hQ (lv_sub hl [0, 1, 2, 3] rfl)
            · have h157 := ib_eq k114
              have b158 : Bd r113 (0) (0) := ⟨(b113).1, ((rf_eq b113 (by decide : Bd 0 (0) (0)) h157).1).2⟩
              refine lv_bipush (v := (-2)) hx hb dX3_collect_72 (by decide) ?_
              have q159 : fld (S19 2) 1 = v3.toInt := fld_of c32 rfl
              have q160 : ((-2) : Int32).toInt = (-2) := by decide
              exact xri E hr hlk hQ (⟨hI, (up_o o_refl eS19 (by decide)), (ib_wk (by decide : Bd (-2) (-2) (-2)) (by decide) (by decide)), Or.inl (by omega)⟩) dX3_collect_74
          · refine xaald E hQ 112 (by decide) c61 (by rw [h62]; exact vp_in_lit 2 4 (by decide)) (by rw [h62]; rfl) dX3_collect_64 ?_
            have b161 : Bd a1 (2) (2) := (by rw [h62]; decide)
            refine lv_iload_n hx hb dX3_collect_65 rfl (lv_at hl 0 rfl) ?_
            refine xcVi E hs hQ hml hl.1 119 (gX3_areAllSuch_119_115 l g ad hD S19 hI z48 b50) mX3_areAllSuch q1204 (by decide) c20 rfl rfl ⟨(Nat.le_of_ble_eq_true rfl), (Nat.le_of_ble_eq_true rfl)⟩ ⟨(Nat.le_of_ble_eq_true rfl), (Nat.le_of_ble_eq_true rfl)⟩ (Nat.le_of_ble_eq_true rfl) rfl dX3_collect_66 (fun r162 S162 H locs hp162 hQ _ => ?_)
            obtain ⟨rfl, b162⟩ := hp162
            refine lv_if_ne (tgt := 75) hx hb dX3_collect_69 (by decide) (fun k163 => ?_) (fun k163 => ?_)
            · have h164 := ib_ne k163
              have b165 : Bd r162 (1) (1) := rf_nlo b162 (by decide : Bd 0 (0) (0)) h164
              refine lv_iconst (v := 0) hx hb dX3_collect_75 (by decide) ?_
              refine lv_istore_n (lv' := [(3, .int 0), (2, .int z48), (0, .ref (ad 119)), (1, .int a1)]) hx hb dX3_collect_76 rfl hl (by decide) rfl (fun ls hl => ?_)
              have loop77 : ∀ (n : Nat) (S_77 : SS) (H : Heap) (locs : List Loc) (ls : Array Slot) (x77_3 : Int32) (y77_119_3 : Int32), Bd x77_3 (0) (49) → Bd y77_119_3 (0) (100000) → 0 ≤ x77_3.toInt + (-1) * y77_119_3.toInt → (-1) * x77_3.toInt + 49 < ((n : Nat) : Int) → InvX g ad S_77 → (∀ j, j ∉ ([119, 120] : List Nat) → S_77 j = S19 j) → S_77 119 = .inr (3, [.ref (ad 2), .ref (ad 111), .ref (ad 120), .int y77_119_3, .ref (ad 121)]) → Hp g ad 122 S_77 (FA ad 122) s.heap H locs → lv_has ls 4 [(3, .int x77_3), (2, .int z48), (0, .ref (ad 119)), (1, .int a1)] → W p l e (Rm 4) s m [.ref (ad 119), .int a1].toArray below meth c H locs 0 0 (MQ below (va_Qi (fun r S' => InvX g ad S' ∧ (∀ j, j ∉ ([119, 120] : List Nat) → S' j = S j) ∧ Bd r (-6) (49) ∧ ((r.toInt < 0 ∨ (0 ≤ fld (S' 2) 1 + (-1))))) (QB g ad 122) (FA ad 122)) [.ref (ad 119), .int a1].toArray s 0 0 (FA ad 122)) (F0 m 77 ls []) := by
                intro n
                induction n with
                | zero => intro S_77 H locs ls x77_3 y77_119_3 Bx77_3 By77_119_3 C77_0 hn77_ hI hf77 cl77_119 hQ hl; exfalso; have := (Bx77_3).2; omega
                | succ n77_ ih77 =>
                  intro S_77 H locs ls x77_3 y77_119_3 Bx77_3 By77_119_3 C77_0 hn77_ hI hf77 cl77_119 hQ hl
                  have b166 : Bd y77_119_3 (0) (49) := ⟨by omega, by omega⟩
                  refine lv_iload_n hx hb dX3_collect_77 rfl (lv_at hl 0 rfl) ?_
                  refine lv_bipush (v := 49) hx hb dX3_collect_78 (by decide) ?_
                  refine lv_icmp_ge (tgt := 127) hx hb dX3_collect_80 (by decide) (fun k167 => ?_) (fun k167 => ?_)
                  · have h168 := ib_le k167
                    have b169 : Bd x77_3 (49) (49) := ⟨((rf_le (by decide : Bd 49 (49) (49)) Bx77_3 h168).2).1, (Bx77_3).2⟩
                    refine lv_aload_n hx hb dX3_collect_127 rfl (lv_at hl 2 rfl) ?_
                    refine xget E hQ 119 (by decide) cl77_119 rfl 3 (by decide) q503 rfl dX3_collect_128 ?_
                    have c170 : S_77 2 = .inr (1, [.int v1, .int v3, .int v5, .ref (ad 3), .ref (ad 5), .ref (ad 6), .int v6, .int v7, .ref (ad 7), .ref (ad 8), .ref (ad 9), .ref (ad 10), .int v9, .ref (ad 15), .ref (ad 16)]) := ((hf77 2 (by decide)).trans c32)
                    have q171 : fld (S_77 2) 1 = v3.toInt := fld_of c170 rfl
                    exact xri E hr hlk hQ (⟨hI, (o_trans (up_o o_refl eS19 (by decide)) hf77 (by decide)), (ib_wk b166 (by decide) (by decide)), Or.inr (by omega)⟩) dX3_collect_131
                  · have h172 := ib_nle k167
                    have b173 : Bd x77_3 (0) (48) := ⟨(Bx77_3).1, ((rf_lt Bx77_3 (by decide : Bd 49 (49) (49)) h172).1).2⟩
                    refine lv_aload_n hx hb dX3_collect_83 rfl (lv_at hl 2 rfl) ?_
                    refine lv_iload_n hx hb dX3_collect_84 rfl (lv_at hl 0 rfl) ?_
                    refine lv_aload_n hx hb dX3_collect_85 rfl (lv_at hl 2 rfl) ?_
                    refine xget E hQ 119 (by decide) cl77_119 rfl 1 (by decide) q501 rfl dX3_collect_86 ?_
                    have c174 : S_77 111 = .inr (8, [.ref (ad 112), .ref (ad 117), .ref (ad 118)]) := ((hf77 111 (by decide)).trans c41)
                    refine xget E hQ 111 (by decide) c174 rfl 0 (by decide) q479 rfl dX3_collect_89 ?_
                    refine lv_iload_n hx hb dX3_collect_92 rfl (lv_at hl 3 rfl) ?_
                    have c175 : S_77 112 = .inl (g.2 5, 4, .inr (.inr (.inr (.inr (nuF ad))))) := ((hf77 112 (by decide)).trans c61)
                    have h176 : a1 = 2 := Int32.toInt_inj.mp (Int.le_antisymm (b161).2 (b161).1)
                    refine xaald E hQ 112 (by decide) c175 (by rw [h176]; exact vp_in_lit 2 4 (by decide)) (by rw [h176]; rfl) dX3_collect_93 ?_
                    refine lv_iload_n hx hb dX3_collect_94 rfl (lv_at hl 1 rfl) ?_
                    have c177 : S_77 2 = .inr (1, [.int v1, .int v3, .int v5, .ref (ad 3), .ref (ad 5), .ref (ad 6), .int v6, .int v7, .ref (ad 7), .ref (ad 8), .ref (ad 9), .ref (ad 10), .int v9, .ref (ad 15), .ref (ad 16)]) := ((hf77 2 (by decide)).trans c32)
                    have q178 : fld (S_77 2) 1 = v3.toInt := fld_of c177 rfl
                    refine xcVi E hs hQ hml hl.1 119 (gX3_fitsAll_119_115 l g ad hD S_77 hI x77_3 z48 b173 b50 (by omega)) mX3_fitsAll q1216 (by decide) cl77_119 rfl rfl ⟨(Nat.le_of_ble_eq_true rfl), (Nat.le_of_ble_eq_true rfl)⟩ ⟨(Nat.le_of_ble_eq_true rfl), (Nat.le_of_ble_eq_true rfl)⟩ (Nat.le_of_ble_eq_true rfl) rfl dX3_collect_95 (fun r179 S179 H locs hp179 hQ _ => ?_)
                    obtain ⟨rfl, b179⟩ := hp179
                    refine lv_if_eq (tgt := 121) hx hb dX3_collect_98 (by decide) (fun k180 => ?_) (fun k180 => ?_)
                    · have h181 := ib_eq k180
                      have b182 : Bd r179 (0) (0) := ⟨(b179).1, ((rf_eq b179 (by decide : Bd 0 (0) (0)) h181).1).2⟩
                      obtain ⟨z183, e184⟩ : ∃ z : Int32, z = x77_3 + 1 := ⟨_, rfl⟩
                      have t185 := ib_add e184 b173 (by decide : Bd 1 (1) (1)) (by decide) (by decide)
                      have b186 : Bd z183 (1) (49) := ib_addb t185 b173 (by decide : Bd 1 (1) (1))
                      have t185 : z183.toInt = x77_3.toInt + 1 := fold_add t185 rfl (by decide)
                      refine lv_iinc (v := z183) (lv' := [(3, .int z183), (2, .int z48), (0, .ref (ad 119)), (1, .int a1)]) hx hb dX3_collect_121 hl (k := 0) rfl (by rw [e184]; rfl) (by decide) rfl (fun ls hl => ?_)
                      refine lv_goto (tgt := 77) hx hb dX3_collect_124 (by decide) ?_
                      exact ih77 _ _ _ _ z183 y77_119_3 (ib_wk b186 (by decide) (by decide)) (ib_wk b166 (by decide) (by decide)) (by omega) (by omega) hI hf77 cl77_119 hQ (lv_sub hl [0, 1, 2, 3] rfl)
                    · have h187 := ib_ne k180
                      have b188 : Bd r179 (1) (1) := rf_nlo b179 (by decide : Bd 0 (0) (0)) h187
                      refine lv_aload_n hx hb dX3_collect_101 rfl (lv_at hl 2 rfl) ?_
                      refine xget E hQ 119 (by decide) cl77_119 rfl 2 (by decide) q502 rfl dX3_collect_102 ?_
                      refine lv_aload_n hx hb dX3_collect_105 rfl (lv_at hl 2 rfl) ?_
                      refine xget E hQ 119 (by decide) cl77_119 rfl 3 (by decide) q503 rfl dX3_collect_106 ?_
                      refine lv_iload_n hx hb dX3_collect_109 rfl (lv_at hl 0 rfl) ?_
                      obtain ⟨f189, c190, b191⟩ := invX_120 hI
                      refine xiast E hs hQ 120 (by decide) c190 (ib_inx (n := 49) (by omega) (by omega)) dX3_collect_110 (fun H locs S192 eS192 hQ => ?_)
                      have hI := invX_up_120 hI eS192 ⟨_, rfl, upd_b b191 b173⟩
                      have b194 : ∀ j, Bd ((upd f189 (y77_119_3 : Int32).toNatClampNeg x77_3) j) (0) (48) := upd_b b191 b173
                      have c193 : S192 120 = .inl (g.2 0, 49, .inl (upd f189 (y77_119_3 : Int32).toNatClampNeg x77_3)) := up_at eS192 rfl
                      refine lv_aload_n hx hb dX3_collect_111 rfl (lv_at hl 2 rfl) ?_
                      refine lv_dup hx hb dX3_collect_112 rfl ?_
                      have c195 : S192 119 = .inr (3, [.ref (ad 2), .ref (ad 111), .ref (ad 120), .int y77_119_3, .ref (ad 121)]) := (up_ne eS192 (by decide) cl77_119)
                      refine xget E hQ 119 (by decide) c195 rfl 3 (by decide) q503 rfl dX3_collect_113 ?_
                      refine lv_iconst (v := 1) hx hb dX3_collect_116 (by decide) ?_
                      refine lv_iadd hx hb dX3_collect_117 ?_
                      refine lv_topi (fun z196 e197 => ?_)
                      have t198 := ib_add e197 b166 (by decide : Bd 1 (1) (1)) (by decide) (by decide)
                      have b199 : Bd z196 (1) (50) := ib_addb t198 b166 (by decide : Bd 1 (1) (1))
                      have t198 : z196.toInt = y77_119_3.toInt + 1 := fold_add t198 rfl (by decide)
                      refine xputi E hs hQ 119 (by decide) c195 rfl 3 (by decide) q503 rfl rfl (Nat.le_of_ble_eq_true rfl) dX3_collect_118 (fun H locs S200 eS200 hQ => ?_)
                      have hI := invX_up_119 hI eS200 ⟨z196, rfl, (⟨by omega, by omega⟩ : Bd z196 (0) (49))⟩
                      have c201 : S200 119 = .inr (3, [.ref (ad 2), .ref (ad 111), .ref (ad 120), .int z196, .ref (ad 121)]) := up_at eS200 rfl
                      obtain ⟨z202, e203⟩ : ∃ z : Int32, z = x77_3 + 1 := ⟨_, rfl⟩
                      have t204 := ib_add e203 b173 (by decide : Bd 1 (1) (1)) (by decide) (by decide)
                      have b205 : Bd z202 (1) (49) := ib_addb t204 b173 (by decide : Bd 1 (1) (1))
                      have t204 : z202.toInt = x77_3.toInt + 1 := fold_add t204 rfl (by decide)
                      refine lv_iinc (v := z202) (lv' := [(3, .int z202), (2, .int z48), (0, .ref (ad 119)), (1, .int a1)]) hx hb dX3_collect_121 hl (k := 0) rfl (by rw [e203]; rfl) (by decide) rfl (fun ls hl => ?_)
                      refine lv_goto (tgt := 77) hx hb dX3_collect_124 (by decide) ?_
                      exact ih77 _ _ _ _ z202 z196 (ib_wk b205 (by decide) (by decide)) (ib_wk b199 (by decide) (by decide)) (by omega) (by omega) hI (up_o (up_o hf77 eS192 (by decide)) eS200 (by decide)) c201 hQ (lv_sub hl [0, 1, 2, 3] rfl)
              obtain ⟨n77, hn77⟩ := fu_n (49)
              exact loop77 n77 _ _ _ _ 0 0 (ib_wk (by decide : Bd 0 (0) (0)) (by decide) (by decide)) (ib_wk (by decide : Bd 0 (0) (0)) (by decide) (by decide)) (by have : (0 : Int32).toInt = 0 := (by decide); omega) (by have : (0 : Int32).toInt = 0 := (by decide); omega) hI o_refl c20 hQ (lv_sub hl [0, 1, 2, 3] rfl)
            · have h206 := ib_eq k163
              have b207 : Bd r162 (0) (0) := ⟨(b162).1, ((rf_eq b162 (by decide : Bd 0 (0) (0)) h206).1).2⟩
              refine lv_bipush (v := (-2)) hx hb dX3_collect_72 (by decide) ?_
              have q208 : fld (S19 2) 1 = v3.toInt := fld_of c32 rfl
              have q209 : ((-2) : Int32).toInt = (-2) := by decide
              exact xri E hr hlk hQ (⟨hI, (up_o o_refl eS19 (by decide)), (ib_wk (by decide : Bd (-2) (-2) (-2)) (by decide) (by decide)), Or.inl (by omega)⟩) dX3_collect_74
          · refine xaald E hQ 112 (by decide) c61 (by rw [h62]; exact vp_in_lit 3 4 (by decide)) (by rw [h62]; rfl) dX3_collect_64 ?_
            have b210 : Bd a1 (3) (3) := (by rw [h62]; decide)
            refine lv_iload_n hx hb dX3_collect_65 rfl (lv_at hl 0 rfl) ?_
            refine xcVi E hs hQ hml hl.1 119 (gX3_areAllSuch_119_116 l g ad hD S19 hI z48 b50) mX3_areAllSuch q1204 (by decide) c20 rfl rfl ⟨(Nat.le_of_ble_eq_true rfl), (Nat.le_of_ble_eq_true rfl)⟩ ⟨(Nat.le_of_ble_eq_true rfl), (Nat.le_of_ble_eq_true rfl)⟩ (Nat.le_of_ble_eq_true rfl) rfl dX3_collect_66 (fun r211 S211 H locs hp211 hQ _ => ?_)
            obtain ⟨rfl, b211⟩ := hp211
            refine lv_if_ne (tgt := 75) hx hb dX3_collect_69 (by decide) (fun k212 => ?_) (fun k212 => ?_)
            · have h213 := ib_ne k212
              have b214 : Bd r211 (1) (1) := rf_nlo b211 (by decide : Bd 0 (0) (0)) h213
              refine lv_iconst (v := 0) hx hb dX3_collect_75 (by decide) ?_
              refine lv_istore_n (lv' := [(3, .int 0), (2, .int z48), (0, .ref (ad 119)), (1, .int a1)]) hx hb dX3_collect_76 rfl hl (by decide) rfl (fun ls hl => ?_)
              have loop77 : ∀ (n : Nat) (S_77 : SS) (H : Heap) (locs : List Loc) (ls : Array Slot) (x77_3 : Int32) (y77_119_3 : Int32), Bd x77_3 (0) (49) → Bd y77_119_3 (0) (100000) → 0 ≤ x77_3.toInt + (-1) * y77_119_3.toInt → (-1) * x77_3.toInt + 49 < ((n : Nat) : Int) → InvX g ad S_77 → (∀ j, j ∉ ([119, 120] : List Nat) → S_77 j = S19 j) → S_77 119 = .inr (3, [.ref (ad 2), .ref (ad 111), .ref (ad 120), .int y77_119_3, .ref (ad 121)]) → Hp g ad 122 S_77 (FA ad 122) s.heap H locs → lv_has ls 4 [(3, .int x77_3), (2, .int z48), (0, .ref (ad 119)), (1, .int a1)] → W p l e (Rm 4) s m [.ref (ad 119), .int a1].toArray below meth c H locs 0 0 (MQ below (va_Qi (fun r S' => InvX g ad S' ∧ (∀ j, j ∉ ([119, 120] : List Nat) → S' j = S j) ∧ Bd r (-6) (49) ∧ ((r.toInt < 0 ∨ (0 ≤ fld (S' 2) 1 + (-1))))) (QB g ad 122) (FA ad 122)) [.ref (ad 119), .int a1].toArray s 0 0 (FA ad 122)) (F0 m 77 ls []) := by
                intro n
                induction n with
                | zero => intro S_77 H locs ls x77_3 y77_119_3 Bx77_3 By77_119_3 C77_0 hn77_ hI hf77 cl77_119 hQ hl; exfalso; have := (Bx77_3).2; omega
                | succ n77_ ih77 =>
                  intro S_77 H locs ls x77_3 y77_119_3 Bx77_3 By77_119_3 C77_0 hn77_ hI hf77 cl77_119 hQ hl
                  have b215 : Bd y77_119_3 (0) (49) := ⟨by omega, by omega⟩
                  refine lv_iload_n hx hb dX3_collect_77 rfl (lv_at hl 0 rfl) ?_
                  refine lv_bipush (v := 49) hx hb dX3_collect_78 (by decide) ?_
                  refine lv_icmp_ge (tgt := 127) hx hb dX3_collect_80 (by decide) (fun k216 => ?_) (fun k216 => ?_)
                  · have h217 := ib_le k216
                    have b218 : Bd x77_3 (49) (49) := ⟨((rf_le (by decide : Bd 49 (49) (49)) Bx77_3 h217).2).1, (Bx77_3).2⟩
                    refine lv_aload_n hx hb dX3_collect_127 rfl (lv_at hl 2 rfl) ?_
                    refine xget E hQ 119 (by decide) cl77_119 rfl 3 (by decide) q503 rfl dX3_collect_128 ?_
                    have c219 : S_77 2 = .inr (1, [.int v1, .int v3, .int v5, .ref (ad 3), .ref (ad 5), .ref (ad 6), .int v6, .int v7, .ref (ad 7), .ref (ad 8), .ref (ad 9), .ref (ad 10), .int v9, .ref (ad 15), .ref (ad 16)]) := ((hf77 2 (by decide)).trans c32)
                    have q220 : fld (S_77 2) 1 = v3.toInt := fld_of c219 rfl
                    exact xri E hr hlk hQ (⟨hI, (o_trans (up_o o_refl eS19 (by decide)) hf77 (by decide)), (ib_wk b215 (by decide) (by decide)), Or.inr (by omega)⟩) dX3_collect_131
                  · have h221 := ib_nle k216
                    have b222 : Bd x77_3 (0) (48) := ⟨(Bx77_3).1, ((rf_lt Bx77_3 (by decide : Bd 49 (49) (49)) h221).1).2⟩
                    refine lv_aload_n hx hb dX3_collect_83 rfl (lv_at hl 2 rfl) ?_
                    refine lv_iload_n hx hb dX3_collect_84 rfl (lv_at hl 0 rfl) ?_
                    refine lv_aload_n hx hb dX3_collect_85 rfl (lv_at hl 2 rfl) ?_
                    refine xget E hQ 119 (by decide) cl77_119 rfl 1 (by decide) q501 rfl dX3_collect_86 ?_
                    have c223 : S_77 111 = .inr (8, [.ref (ad 112), .ref (ad 117), .ref (ad 118)]) := ((hf77 111 (by decide)).trans c41)
                    refine xget E hQ 111 (by decide) c223 rfl 0 (by decide) q479 rfl dX3_collect_89 ?_
                    refine lv_iload_n hx hb dX3_collect_92 rfl (lv_at hl 3 rfl) ?_
                    have c224 : S_77 112 = .inl (g.2 5, 4, .inr (.inr (.inr (.inr (nuF ad))))) := ((hf77 112 (by decide)).trans c61)
                    have h225 : a1 = 3 := Int32.toInt_inj.mp (Int.le_antisymm (b210).2 (b210).1)
                    refine xaald E hQ 112 (by decide) c224 (by rw [h225]; exact vp_in_lit 3 4 (by decide)) (by rw [h225]; rfl) dX3_collect_93 ?_
                    refine lv_iload_n hx hb dX3_collect_94 rfl (lv_at hl 1 rfl) ?_
                    have c226 : S_77 2 = .inr (1, [.int v1, .int v3, .int v5, .ref (ad 3), .ref (ad 5), .ref (ad 6), .int v6, .int v7, .ref (ad 7), .ref (ad 8), .ref (ad 9), .ref (ad 10), .int v9, .ref (ad 15), .ref (ad 16)]) := ((hf77 2 (by decide)).trans c32)
                    have q227 : fld (S_77 2) 1 = v3.toInt := fld_of c226 rfl
                    refine xcVi E hs hQ hml hl.1 119 (gX3_fitsAll_119_116 l g ad hD S_77 hI x77_3 z48 b222 b50 (by omega)) mX3_fitsAll q1216 (by decide) cl77_119 rfl rfl ⟨(Nat.le_of_ble_eq_true rfl), (Nat.le_of_ble_eq_true rfl)⟩ ⟨(Nat.le_of_ble_eq_true rfl), (Nat.le_of_ble_eq_true rfl)⟩ (Nat.le_of_ble_eq_true rfl) rfl dX3_collect_95 (fun r228 S228 H locs hp228 hQ _ => ?_)
                    obtain ⟨rfl, b228⟩ := hp228
                    refine lv_if_eq (tgt := 121) hx hb dX3_collect_98 (by decide) (fun k229 => ?_) (fun k229 => ?_)
                    · have h230 := ib_eq k229
                      have b231 : Bd r228 (0) (0) := ⟨(b228).1, ((rf_eq b228 (by decide : Bd 0 (0) (0)) h230).1).2⟩
                      obtain ⟨z232, e233⟩ : ∃ z : Int32, z = x77_3 + 1 := ⟨_, rfl⟩
                      have t234 := ib_add e233 b222 (by decide : Bd 1 (1) (1)) (by decide) (by decide)
                      have b235 : Bd z232 (1) (49) := ib_addb t234 b222 (by decide : Bd 1 (1) (1))
                      have t234 : z232.toInt = x77_3.toInt + 1 := fold_add t234 rfl (by decide)
                      refine lv_iinc (v := z232) (lv' := [(3, .int z232), (2, .int z48), (0, .ref (ad 119)), (1, .int a1)]) hx hb dX3_collect_121 hl (k := 0) rfl (by rw [e233]; rfl) (by decide) rfl (fun ls hl => ?_)
                      refine lv_goto (tgt := 77) hx hb dX3_collect_124 (by decide) ?_
                      exact ih77 _ _ _ _ z232 y77_119_3 (ib_wk b235 (by decide) (by decide)) (ib_wk b215 (by decide) (by decide)) (by omega) (by omega) hI hf77 cl77_119 hQ (lv_sub hl [0, 1, 2, 3] rfl)
                    · have h236 := ib_ne k229
                      have b237 : Bd r228 (1) (1) := rf_nlo b228 (by decide : Bd 0 (0) (0)) h236
                      refine lv_aload_n hx hb dX3_collect_101 rfl (lv_at hl 2 rfl) ?_
                      refine xget E hQ 119 (by decide) cl77_119 rfl 2 (by decide) q502 rfl dX3_collect_102 ?_
                      refine lv_aload_n hx hb dX3_collect_105 rfl (lv_at hl 2 rfl) ?_
                      refine xget E hQ 119 (by decide) cl77_119 rfl 3 (by decide) q503 rfl dX3_collect_106 ?_
                      refine lv_iload_n hx hb dX3_collect_109 rfl (lv_at hl 0 rfl) ?_
                      obtain ⟨f238, c239, b240⟩ := invX_120 hI
                      refine xiast E hs hQ 120 (by decide) c239 (ib_inx (n := 49) (by omega) (by omega)) dX3_collect_110 (fun H locs S241 eS241 hQ => ?_)
                      have hI := invX_up_120 hI eS241 ⟨_, rfl, upd_b b240 b222⟩
                      have b243 : ∀ j, Bd ((upd f238 (y77_119_3 : Int32).toNatClampNeg x77_3) j) (0) (48) := upd_b b240 b222
                      have c242 : S241 120 = .inl (g.2 0, 49, .inl (upd f238 (y77_119_3 : Int32).toNatClampNeg x77_3)) := up_at eS241 rfl
                      refine lv_aload_n hx hb dX3_collect_111 rfl (lv_at hl 2 rfl) ?_
                      refine lv_dup hx hb dX3_collect_112 rfl ?_
                      have c244 : S241 119 = .inr (3, [.ref (ad 2), .ref (ad 111), .ref (ad 120), .int y77_119_3, .ref (ad 121)]) := (up_ne eS241 (by decide) cl77_119)
                      refine xget E hQ 119 (by decide) c244 rfl 3 (by decide) q503 rfl dX3_collect_113 ?_
                      refine lv_iconst (v := 1) hx hb dX3_collect_116 (by decide) ?_
                      refine lv_iadd hx hb dX3_collect_117 ?_
                      refine lv_topi (fun z245 e246 => ?_)
                      have t247 := ib_add e246 b215 (by decide : Bd 1 (1) (1)) (by decide) (by decide)
                      have b248 : Bd z245 (1) (50) := ib_addb t247 b215 (by decide : Bd 1 (1) (1))
                      have t247 : z245.toInt = y77_119_3.toInt + 1 := fold_add t247 rfl (by decide)
                      refine xputi E hs hQ 119 (by decide) c244 rfl 3 (by decide) q503 rfl rfl (Nat.le_of_ble_eq_true rfl) dX3_collect_118 (fun H locs S249 eS249 hQ => ?_)
                      have hI := invX_up_119 hI eS249 ⟨z245, rfl, (⟨by omega, by omega⟩ : Bd z245 (0) (49))⟩
                      have c250 : S249 119 = .inr (3, [.ref (ad 2), .ref (ad 111), .ref (ad 120), .int z245, .ref (ad 121)]) := up_at eS249 rfl
                      obtain ⟨z251, e252⟩ : ∃ z : Int32, z = x77_3 + 1 := ⟨_, rfl⟩
                      have t253 := ib_add e252 b222 (by decide : Bd 1 (1) (1)) (by decide) (by decide)
                      have b254 : Bd z251 (1) (49) := ib_addb t253 b222 (by decide : Bd 1 (1) (1))
                      have t253 : z251.toInt = x77_3.toInt + 1 := fold_add t253 rfl (by decide)
                      refine lv_iinc (v := z251) (lv' := [(3, .int z251), (2, .int z48), (0, .ref (ad 119)), (1, .int a1)]) hx hb dX3_collect_121 hl (k := 0) rfl (by rw [e252]; rfl) (by decide) rfl (fun ls hl => ?_)
                      refine lv_goto (tgt := 77) hx hb dX3_collect_124 (by decide) ?_
                      exact ih77 _ _ _ _ z251 z245 (ib_wk b254 (by decide) (by decide)) (ib_wk b248 (by decide) (by decide)) (by omega) (by omega) hI (up_o (up_o hf77 eS241 (by decide)) eS249 (by decide)) c250 hQ (lv_sub hl [0, 1, 2, 3] rfl)
              obtain ⟨n77, hn77⟩ := fu_n (49)
              exact loop77 n77 _ _ _ _ 0 0 (ib_wk (by decide : Bd 0 (0) (0)) (by decide) (by decide)) (ib_wk (by decide : Bd 0 (0) (0)) (by decide) (by decide)) (by have : (0 : Int32).toInt = 0 := (by decide); omega) (by have : (0 : Int32).toInt = 0 := (by decide); omega) hI o_refl c20 hQ (lv_sub hl [0, 1, 2, 3] rfl)
            · have h255 := ib_eq k212
              have b256 : Bd r211 (0) (0) := ⟨(b211).1, ((rf_eq b211 (by decide : Bd 0 (0) (0)) h255).1).2⟩
              refine lv_bipush (v := (-2)) hx hb dX3_collect_72 (by decide) ?_
              have q257 : fld (S19 2) 1 = v3.toInt := fld_of c32 rfl
              have q258 : ((-2) : Int32).toInt = (-2) := by decide
              exact xri E hr hlk hQ (⟨hI, (up_o o_refl eS19 (by decide)), (ib_wk (by decide : Bd (-2) (-2) (-2)) (by decide) (by decide)), Or.inl (by omega)⟩) dX3_collect_74
      · have h259 := ib_eq k42
        have b260 : Bd r40 (0) (0) := ⟨(b40).1, ((rf_eq b40 (by decide : Bd 0 (0) (0)) h259).1).2⟩
        refine lv_bipush (v := (-6)) hx hb dX3_collect_36 (by decide) ?_
        have q261 : fld (S19 2) 1 = v3.toInt := fld_of c32 rfl
        have q262 : ((-6) : Int32).toInt = (-6) := by decide
        exact xri E hr hlk hQ (⟨hI, (up_o o_refl eS19 (by decide)), (ib_wk (by decide : Bd (-6) (-6) (-6)) (by decide) (by decide)), Or.inl (by omega)⟩) dX3_collect_38
    · have h263 := ib_eq k35
      have b264 : Bd r33 (0) (0) := ⟨(b33).1, ((rf_eq b33 (by decide : Bd 0 (0) (0)) h263).1).2⟩
      clear g33_0
      refine lv_bipush (v := (-2)) hx hb dX3_collect_22 (by decide) ?_
      have q265 : fld (S19 2) 1 = v3.toInt := fld_of c32 rfl
      have q266 : ((-2) : Int32).toInt = (-2) := by decide
      exact xri E hr hlk hQ (⟨hI, (up_o o_refl eS19 (by decide)), (ib_wk (by decide : Bd (-2) (-2) (-2)) (by decide) (by decide)), Or.inl (by omega)⟩) dX3_collect_24
set_option maxHeartbeats 4000000 in
set_option maxRecDepth 100000 in
theorem gX3_smallest_119 (l : Launch) (g : GG) (ad : Nat → Nat) (hD : Dj ad 122) (S : SS) (hI : InvX g ad S) : Met l yX3_smallest (wG (.code yX3_smallest cX3_smallest 3 (some .int))) (Rm 2) (XPre g ad 122 S [.ref (ad 119)]) (va_Qi (fun r S' => S = S' ∧ Bd r (0) (48)) (QB g ad 122) (FA ad 122)) 0 0 (FA ad 122) := by
  refine xmet cX3_smallest "EbbWreck$Floats" (by decide) rfl (Nat.le_of_ble_eq_true rfl) (fun p e s m below meth c E hr hlk hml hQ ls hl => ?_)
  have hx := E.1
  have hb := E.2.1
  have hs : Sp ad 122 (FA ad 122) := Sp.fa hD
  have hl : lv_has ls 3 [(0, .ref (ad 119))] := hl
  refine lv_aload_n hx hb dX3_smallest_0 rfl (lv_at hl 0 rfl) ?_
  obtain ⟨v1, c3, b2⟩ := invX_119 hI
  have c3 : S 119 = .inr (3, [.ref (ad 2), .ref (ad 111), .ref (ad 120), .int v1, .ref (ad 121)]) := c3
  refine xget E hQ 119 (by decide) c3 rfl 2 (by decide) q502 rfl dX3_smallest_1 ?_
  refine lv_iconst (v := 0) hx hb dX3_smallest_4 (by decide) ?_
  obtain ⟨f4, c5, b6⟩ := invX_120 hI
  refine xiald E hQ 120 (by decide) c5 (vp_in_lit 0 49 (by decide)) dX3_smallest_5 ?_
  obtain ⟨v7, ee8⟩ : ∃ z : Int32, f4 0 = z := ⟨_, rfl⟩
  have b9 : Bd v7 (0) (48) := (by rw [← ee8]; exact b6 0)
  refine sb_at (P := fun z => W _ _ _ _ _ _ _ _ _ _ _ _ _ _ _ (F0 _ _ _ (.int z :: _))) (show f4 (0 : Int32).toNatClampNeg = v7 from ee8) ?_
  refine lv_istore_n (lv' := [(1, .int v7), (0, .ref (ad 119))]) hx hb dX3_smallest_6 rfl hl (by decide) rfl (fun ls hl => ?_)
  refine lv_iconst (v := 1) hx hb dX3_smallest_7 (by decide) ?_
  refine lv_istore_n (lv' := [(2, .int 1), (1, .int v7), (0, .ref (ad 119))]) hx hb dX3_smallest_8 rfl hl (by decide) rfl (fun ls hl => ?_)
  have loop9 : ∀ (n : Nat) (H : Heap) (locs : List Loc) (ls : Array Slot) (x9_1 : Int32) (x9_2 : Int32), Bd x9_1 (0) (48) → Bd x9_2 (1) (49) → (-1) * x9_2.toInt + 49 < ((n : Nat) : Int) → Hp g ad 122 S (FA ad 122) s.heap H locs → lv_has ls 3 [(2, .int x9_2), (1, .int x9_1), (0, .ref (ad 119))] → W p l e (Rm 2) s m [.ref (ad 119)].toArray below meth c H locs 0 0 (MQ below (va_Qi (fun r S' => S = S' ∧ Bd r (0) (48)) (QB g ad 122) (FA ad 122)) [.ref (ad 119)].toArray s 0 0 (FA ad 122)) (F0 m 9 ls []) := by
    intro n
    induction n with
    | zero => intro H locs ls x9_1 x9_2 Bx9_1 Bx9_2 hn9_ hQ hl; exfalso; have := (Bx9_2).2; omega
    | succ n9_ ih9 =>
      intro H locs ls x9_1 x9_2 Bx9_1 Bx9_2 hn9_ hQ hl
      refine lv_iload_n hx hb dX3_smallest_9 rfl (lv_at hl 0 rfl) ?_
      refine lv_aload_n hx hb dX3_smallest_10 rfl (lv_at hl 2 rfl) ?_
      refine xget E hQ 119 (by decide) c3 rfl 3 (by decide) q503 rfl dX3_smallest_11 ?_
      refine lv_icmp_ge (tgt := 46) hx hb dX3_smallest_14 (by decide) (fun k10 => ?_) (fun k10 => ?_)
      · have h11 := ib_le k10
        refine lv_iload_n hx hb dX3_smallest_46 rfl (lv_at hl 1 rfl) ?_
        exact xri E hr hlk hQ (⟨rfl, Bx9_1⟩) dX3_smallest_47
      · have h12 := ib_nle k10
        have b13 : Bd x9_2 (1) (48) := ⟨(Bx9_2).1, ((rf_lt Bx9_2 b2 h12).1).2⟩
        have b14 : Bd v1 (2) (49) := ⟨((rf_lt Bx9_2 b2 h12).2).1, (b2).2⟩
        refine lv_aload_n hx hb dX3_smallest_17 rfl (lv_at hl 2 rfl) ?_
        refine xget E hQ 119 (by decide) c3 rfl 2 (by decide) q502 rfl dX3_smallest_18 ?_
        refine lv_iload_n hx hb dX3_smallest_21 rfl (lv_at hl 0 rfl) ?_
        refine xiald E hQ 120 (by decide) c5 (ib_in b13 (by decide) (by decide)) dX3_smallest_22 ?_
        refine lv_topi (fun z15 e16 => ?_)
        have b17 : Bd z15 (0) (48) := (by rw [e16]; exact b6 _)
        refine xcSi E hs hQ hml hl.1 (gX3_stepsOf l g ad hD S hI z15) mX3_stepsOf q1245 rfl ⟨(Nat.le_of_ble_eq_true rfl), (Nat.le_of_ble_eq_true rfl)⟩ ⟨(Nat.le_of_ble_eq_true rfl), (Nat.le_of_ble_eq_true rfl)⟩ (Nat.le_of_ble_eq_true rfl) rfl dX3_smallest_23 (fun r18 S18 H locs hp18 hQ => ?_)
        subst hp18
        refine lv_iload_n hx hb dX3_smallest_26 rfl (lv_at hl 1 rfl) ?_
        refine xcSi E hs hQ hml hl.1 (gX3_stepsOf l g ad hD S hI x9_1) mX3_stepsOf q1245 rfl ⟨(Nat.le_of_ble_eq_true rfl), (Nat.le_of_ble_eq_true rfl)⟩ ⟨(Nat.le_of_ble_eq_true rfl), (Nat.le_of_ble_eq_true rfl)⟩ (Nat.le_of_ble_eq_true rfl) rfl dX3_smallest_27 (fun r19 S19 H locs hp19 hQ => ?_)
        subst hp19
        refine lv_icmp_ge (tgt := 40) hx hb dX3_smallest_30 (by decide) (fun k20 => ?_) (fun k20 => ?_)
        · have h21 := ib_le k20
          obtain ⟨z22, e23⟩ : ∃ z : Int32, z = x9_2 + 1 := ⟨_, rfl⟩
          have t24 := ib_add e23 b13 (by decide : Bd 1 (1) (1)) (by decide) (by decide)
          have b25 : Bd z22 (2) (49) := ib_addb t24 b13 (by decide : Bd 1 (1) (1))
          have t24 : z22.toInt = x9_2.toInt + 1 := fold_add t24 rfl (by decide)
          refine lv_iinc (v := z22) (lv' := [(2, .int z22), (1, .int x9_1), (0, .ref (ad 119))]) hx hb dX3_smallest_40 hl (k := 0) rfl (by rw [e23]; rfl) (by decide) rfl (fun ls hl => ?_)
          refine lv_goto (tgt := 9) hx hb dX3_smallest_43 (by decide) ?_
          exact ih9 _ _ _ x9_1 z22 Bx9_1 (ib_wk b25 (by decide) (by decide)) (by omega) hQ (lv_sub hl [0, 1, 2] rfl)
        · have h26 := ib_nle k20
          have b27 : Bd r18 (-2147483648) (2147483646) := ⟨((ib_full r18)).1, ((rf_lt (ib_full r18) (ib_full r19) h26).1).2⟩
          have b28 : Bd r19 (-2147483647) (2147483647) := ⟨((rf_lt (ib_full r18) (ib_full r19) h26).2).1, ((ib_full r19)).2⟩
          refine lv_aload_n hx hb dX3_smallest_33 rfl (lv_at hl 2 rfl) ?_
          refine xget E hQ 119 (by decide) c3 rfl 2 (by decide) q502 rfl dX3_smallest_34 ?_
          refine lv_iload_n hx hb dX3_smallest_37 rfl (lv_at hl 0 rfl) ?_
          refine xiald E hQ 120 (by decide) c5 (ib_in b13 (by decide) (by decide)) dX3_smallest_38 ?_
          refine lv_topi (fun z29 e30 => ?_)
          have t31 : z29.toInt = z15.toInt := by rw [e30, e16]
          have b32 : Bd z29 (0) (48) := (by rw [Bd, t31]; exact b17)
          refine lv_istore_n (lv' := [(1, .int z29), (2, .int x9_2), (0, .ref (ad 119))]) hx hb dX3_smallest_39 rfl hl (by decide) rfl (fun ls hl => ?_)
          obtain ⟨z33, e34⟩ : ∃ z : Int32, z = x9_2 + 1 := ⟨_, rfl⟩
          have t35 := ib_add e34 b13 (by decide : Bd 1 (1) (1)) (by decide) (by decide)
          have b36 : Bd z33 (2) (49) := ib_addb t35 b13 (by decide : Bd 1 (1) (1))
          have t35 : z33.toInt = x9_2.toInt + 1 := fold_add t35 rfl (by decide)
          refine lv_iinc (v := z33) (lv' := [(2, .int z33), (1, .int z29), (0, .ref (ad 119))]) hx hb dX3_smallest_40 hl (k := 1) rfl (by rw [e34]; rfl) (by decide) rfl (fun ls hl => ?_)
          refine lv_goto (tgt := 9) hx hb dX3_smallest_43 (by decide) ?_
          exact ih9 _ _ _ z29 z33 b32 (ib_wk b36 (by decide) (by decide)) (by omega) hQ (lv_sub hl [0, 1, 2] rfl)
  obtain ⟨n9, hn9⟩ := fu_n (48)
  exact loop9 n9 _ _ _ v7 1 b9 (ib_wk (by decide : Bd 1 (1) (1)) (by decide) (by decide)) (by have : (1 : Int32).toInt = 1 := (by decide); omega) hQ (lv_sub hl [0, 1, 2] rfl)
set_option maxHeartbeats 4000000 in
set_option maxRecDepth 100000 in
theorem gX3_worstAfter_119 (l : Launch) (g : GG) (ad : Nat → Nat) (hD : Dj ad 122) (S : SS) (hI : InvX g ad S) (a1 : Int32) (ba1 : Bd a1 (0) (11)) (hq1 : 0 ≤ fld (S 2) 1 + (-1)) : Met l yX3_worstAfter (wG (.code yX3_worstAfter cX3_worstAfter 5 (some .int))) (Rm 3) (XPre g ad 122 S [.ref (ad 119), .int a1]) (va_Qi (fun _ S' => InvX g ad S' ∧ (∀ j, j ∉ ([121] : List Nat) → S' j = S j)) (QB g ad 122) (FA ad 122)) 0 0 (FA ad 122) := by
  refine xmet cX3_worstAfter "EbbWreck$Floats" (by decide) rfl (Nat.le_of_ble_eq_true rfl) (fun p e s m below meth c E hr hlk hml hQ ls hl => ?_)
  have hx := E.1
  have hb := E.2.1
  have hs : Sp ad 122 (FA ad 122) := Sp.fa hD
  have hl : lv_has ls 5 [(0, .ref (ad 119)), (1, .int a1)] := hl
  obtain ⟨v1, v3, v5, v6, v7, v9, c11, b2, b4, b8, b10⟩ := invX_2 hI
  have c11 : S 2 = .inr (1, [.int v1, .int v3, .int v5, .ref (ad 3), .ref (ad 5), .ref (ad 6), .int v6, .int v7, .ref (ad 7), .ref (ad 8), .ref (ad 9), .ref (ad 10), .int v9, .ref (ad 15), .ref (ad 16)]) := c11
  have q12 : fld (S 2) 1 = v3.toInt := fld_of c11 rfl
  have b13 : Bd v3 (1) (12) := ⟨by omega, by omega⟩
  refine lv_aload_n hx hb dX3_worstAfter_0 rfl (lv_at hl 0 rfl) ?_
  obtain ⟨v14, c16, b15⟩ := invX_119 hI
  have c16 : S 119 = .inr (3, [.ref (ad 2), .ref (ad 111), .ref (ad 120), .int v14, .ref (ad 121)]) := c16
  refine xget E hQ 119 (by decide) c16 rfl 4 (by decide) q504 rfl dX3_worstAfter_1 ?_
  refine lv_iconst (v := 0) hx hb dX3_worstAfter_4 (by decide) ?_
  obtain ⟨f17, c18⟩ := invX_121 hI
  refine xcSv E hs hQ hml hl.1 (uFillI l g ad 122 hD S 121 (by decide) 12 (by decide) f17 0 c18) mJ7_fill_53178 q1265 rfl ⟨(Nat.le_of_ble_eq_true rfl), (Nat.le_of_ble_eq_true rfl)⟩ ⟨(Nat.le_of_ble_eq_true rfl), (Nat.le_of_ble_eq_true rfl)⟩ (Nat.le_of_ble_eq_true rfl) rfl dX3_worstAfter_5 (fun S20 H locs eS20 hQ => ?_)
  have hI := invX_up_121 hI eS20 ⟨_, rfl⟩
  have c21 : S20 121 = .inl (g.2 0, 12, .inl (fillF 0 12 f17)) := up_at eS20 rfl
  refine lv_iconst (v := 0) hx hb dX3_worstAfter_8 (by decide) ?_
  refine lv_istore_n (lv' := [(2, .int 0), (0, .ref (ad 119)), (1, .int a1)]) hx hb dX3_worstAfter_9 rfl hl (by decide) rfl (fun ls hl => ?_)
  refine lv_iconst (v := 0) hx hb dX3_worstAfter_10 (by decide) ?_
  refine lv_istore_n (lv' := [(3, .int 0), (2, .int 0), (0, .ref (ad 119)), (1, .int a1)]) hx hb dX3_worstAfter_11 rfl hl (by decide) rfl (fun ls hl => ?_)
  have loop12 : ∀ (n : Nat) (S_12 : SS) (H : Heap) (locs : List Loc) (ls : Array Slot) (x12_2 : Int32) (x12_3 : Int32), Bd x12_2 (0) (2147483647) → Bd x12_3 (0) (49) → (-1) * x12_3.toInt + 49 < ((n : Nat) : Int) → InvX g ad S_12 → (∀ j, j ∉ ([121] : List Nat) → S_12 j = S20 j) → Hp g ad 122 S_12 (FA ad 122) s.heap H locs → lv_has ls 5 [(3, .int x12_3), (2, .int x12_2), (0, .ref (ad 119)), (1, .int a1)] → W p l e (Rm 3) s m [.ref (ad 119), .int a1].toArray below meth c H locs 0 0 (MQ below (va_Qi (fun _ S' => InvX g ad S' ∧ (∀ j, j ∉ ([121] : List Nat) → S' j = S j)) (QB g ad 122) (FA ad 122)) [.ref (ad 119), .int a1].toArray s 0 0 (FA ad 122)) (F0 m 12 ls []) := by
    intro n
    induction n with
    | zero => intro S_12 H locs ls x12_2 x12_3 Bx12_2 Bx12_3 hn12_ hI hf12 hQ hl; exfalso; have := (Bx12_3).2; omega
    | succ n12_ ih12 =>
      intro S_12 H locs ls x12_2 x12_3 Bx12_2 Bx12_3 hn12_ hI hf12 hQ hl
      refine lv_iload_n hx hb dX3_worstAfter_12 rfl (lv_at hl 0 rfl) ?_
      refine lv_aload_n hx hb dX3_worstAfter_13 rfl (lv_at hl 2 rfl) ?_
      have c22 : S_12 119 = .inr (3, [.ref (ad 2), .ref (ad 111), .ref (ad 120), .int v14, .ref (ad 121)]) := ((hf12 119 (by decide)).trans (up_ne eS20 (by decide) c16))
      refine xget E hQ 119 (by decide) c22 rfl 3 (by decide) q503 rfl dX3_worstAfter_14 ?_
      refine lv_icmp_ge (tgt := 65) hx hb dX3_worstAfter_17 (by decide) (fun k23 => ?_) (fun k23 => ?_)
      · have h24 := ib_le k23
        refine lv_iload_n hx hb dX3_worstAfter_65 rfl (lv_at hl 1 rfl) ?_
        exact xri E hr hlk hQ (⟨hI, (o_trans (up_o o_refl eS20 (by decide)) hf12 (by decide))⟩) dX3_worstAfter_66
      · have h25 := ib_nle k23
        have b26 : Bd x12_3 (0) (48) := ⟨(Bx12_3).1, ((rf_lt Bx12_3 b15 h25).1).2⟩
        have b27 : Bd v14 (1) (49) := ⟨((rf_lt Bx12_3 b15 h25).2).1, (b15).2⟩
        refine lv_aload_n hx hb dX3_worstAfter_20 rfl (lv_at hl 2 rfl) ?_
        refine lv_iload_n hx hb dX3_worstAfter_21 rfl (lv_at hl 3 rfl) ?_
        refine lv_iconst (v := 0) hx hb dX3_worstAfter_22 (by decide) ?_
        refine lv_bipush (v := 12) hx hb dX3_worstAfter_23 (by decide) ?_
        refine lv_aload_n hx hb dX3_worstAfter_25 rfl (lv_at hl 2 rfl) ?_
        refine xget E hQ 119 (by decide) c22 rfl 2 (by decide) q502 rfl dX3_worstAfter_26 ?_
        refine lv_iload_n hx hb dX3_worstAfter_29 rfl (lv_at hl 0 rfl) ?_
        obtain ⟨f28, c29, b30⟩ := invX_120 hI
        refine xiald E hQ 120 (by decide) c29 (ib_in b26 (by decide) (by decide)) dX3_worstAfter_30 ?_
        refine lv_topi (fun z31 e32 => ?_)
        have b33 : Bd z31 (0) (48) := (by rw [e32]; exact b30 _)
        have c34 : S_12 2 = .inr (1, [.int v1, .int v3, .int v5, .ref (ad 3), .ref (ad 5), .ref (ad 6), .int v6, .int v7, .ref (ad 7), .ref (ad 8), .ref (ad 9), .ref (ad 10), .int v9, .ref (ad 15), .ref (ad 16)]) := ((hf12 2 (by decide)).trans (up_ne eS20 (by decide) c11))
        have q35 : fld (S_12 2) 1 = v3.toInt := fld_of c34 rfl
        refine xcVi E hs hQ hml hl.1 119 (gX3_carried_119 l g ad hD S_12 hI a1 0 12 z31 ba1 (by omega)) mX3_carried q1220 (by decide) c22 rfl rfl ⟨(Nat.le_of_ble_eq_true rfl), (Nat.le_of_ble_eq_true rfl)⟩ ⟨(Nat.le_of_ble_eq_true rfl), (Nat.le_of_ble_eq_true rfl)⟩ (Nat.le_of_ble_eq_true rfl) rfl dX3_worstAfter_31 (fun r36 S36 H locs hp36 hQ _ => ?_)
        obtain ⟨rfl, b36⟩ := hp36
        refine lv_istore (lv' := [(4, .int r36), (3, .int x12_3), (2, .int x12_2), (0, .ref (ad 119)), (1, .int a1)]) hx hb dX3_worstAfter_34 hl (by decide) rfl (fun ls hl => ?_)
        refine lv_aload_n hx hb dX3_worstAfter_36 rfl (lv_at hl 3 rfl) ?_
        refine xget E hQ 119 (by decide) c22 rfl 4 (by decide) q504 rfl dX3_worstAfter_37 ?_
        refine lv_iload hx hb dX3_worstAfter_40 (lv_at hl 0 rfl) ?_
        refine lv_dup2_11 hx hb dX3_worstAfter_42 rfl rfl ?_
        obtain ⟨f37, c38⟩ := invX_121 hI
        refine xiald E hQ 121 (by decide) c38 (ib_in b36 (by decide) (by decide)) dX3_worstAfter_43 ?_
        refine lv_topi (fun z40 e41 => ?_)
        refine lv_iconst (v := 1) hx hb dX3_worstAfter_44 (by decide) ?_
        refine lv_iadd hx hb dX3_worstAfter_45 ?_
        refine lv_topi (fun z42 e43 => ?_)
        refine xiast E hs hQ 121 (by decide) c38 (ib_in b36 (by decide) (by decide)) dX3_worstAfter_46 (fun H locs S44 eS44 hQ => ?_)
        have hI := invX_up_121 hI eS44 ⟨_, rfl⟩
        have c45 : S44 121 = .inl (g.2 0, 12, .inl (upd f37 (r36 : Int32).toNatClampNeg z42)) := up_at eS44 rfl
        refine lv_iload_n hx hb dX3_worstAfter_47 rfl (lv_at hl 2 rfl) ?_
        refine lv_aload_n hx hb dX3_worstAfter_48 rfl (lv_at hl 3 rfl) ?_
        have c46 : S44 119 = .inr (3, [.ref (ad 2), .ref (ad 111), .ref (ad 120), .int v14, .ref (ad 121)]) := (up_ne eS44 (by decide) c22)
        refine xget E hQ 119 (by decide) c46 rfl 4 (by decide) q504 rfl dX3_worstAfter_49 ?_
        refine lv_iload hx hb dX3_worstAfter_52 (lv_at hl 0 rfl) ?_
        refine xiald E hQ 121 (by decide) c45 (ib_in b36 (by decide) (by decide)) dX3_worstAfter_54 ?_
        refine lv_topi (fun z47 e48 => ?_)
        refine va_mmax hx hb (hml.trans hl.1.symm) E.2.2.1 (E.2.2.2.1 _ q1266) (E.2.2.2.1 _ q586) (E.2.2.2.1 _ q128) (E.2.2.2.1 _ q587) (Nat.le_of_ble_eq_true rfl) (Nat.le_of_ble_eq_true rfl) (Nat.le_of_ble_eq_true rfl) (Nat.le_of_ble_eq_true rfl) dX3_worstAfter_55 ?_
        refine lv_topi (fun z49 e50 => ?_)
        have b51 : Bd z49 (0) (2147483647) := ib_max e50 Bx12_2 (ib_full z47) (by decide) (by decide) (by decide) (by decide)
        have t52 := ib_maxx (p := x12_2.toInt) (q := z47.toInt) e50 rfl rfl
        refine lv_istore_n (lv' := [(2, .int z49), (4, .int r36), (3, .int x12_3), (0, .ref (ad 119)), (1, .int a1)]) hx hb dX3_worstAfter_58 rfl hl (by decide) rfl (fun ls hl => ?_)
        obtain ⟨z53, e54⟩ : ∃ z : Int32, z = x12_3 + 1 := ⟨_, rfl⟩
        have t55 := ib_add e54 b26 (by decide : Bd 1 (1) (1)) (by decide) (by decide)
        have b56 : Bd z53 (1) (49) := ib_addb t55 b26 (by decide : Bd 1 (1) (1))
        have t55 : z53.toInt = x12_3.toInt + 1 := fold_add t55 rfl (by decide)
        refine lv_iinc (v := z53) (lv' := [(3, .int z53), (2, .int z49), (4, .int r36), (0, .ref (ad 119)), (1, .int a1)]) hx hb dX3_worstAfter_59 hl (k := 2) rfl (by rw [e54]; rfl) (by decide) rfl (fun ls hl => ?_)
        refine lv_goto (tgt := 12) hx hb dX3_worstAfter_62 (by decide) ?_
        exact ih12 _ _ _ _ z49 z53 b51 (ib_wk b56 (by decide) (by decide)) (by omega) hI (up_o hf12 eS44 (by decide)) hQ (lv_sub hl [0, 1, 3, 4] rfl)
  obtain ⟨n12, hn12⟩ := fu_n (49)
  exact loop12 n12 _ _ _ _ 0 0 (ib_wk (by decide : Bd 0 (0) (0)) (by decide) (by decide)) (ib_wk (by decide : Bd 0 (0) (0)) (by decide) (by decide)) (by have : (0 : Int32).toInt = 0 := (by decide); omega) hI o_refl hQ (lv_sub hl [0, 1, 2, 3] rfl)
set_option maxHeartbeats 4000000 in
set_option maxRecDepth 100000 in
theorem gX3_bestCell_119 (l : Launch) (g : GG) (ad : Nat → Nat) (hD : Dj ad 122) (S : SS) (hI : InvX g ad S) (hq1 : 0 ≤ fld (S 2) 1 + (-1)) : Met l yX3_bestCell (wG (.code yX3_bestCell cX3_bestCell 5 (some .int))) (Rm 4) (XPre g ad 122 S [.ref (ad 119)]) (va_Qi (fun r S' => InvX g ad S' ∧ (∀ j, j ∉ ([121] : List Nat) → S' j = S j) ∧ Bd r (-1) (11)) (QB g ad 122) (FA ad 122)) 0 0 (FA ad 122) := by
  refine xmet cX3_bestCell "EbbWreck$Floats" (by decide) rfl (Nat.le_of_ble_eq_true rfl) (fun p e s m below meth c E hr hlk hml hQ ls hl => ?_)
  have hx := E.1
  have hb := E.2.1
  have hs : Sp ad 122 (FA ad 122) := Sp.fa hD
  have hl : lv_has ls 5 [(0, .ref (ad 119))] := hl
  obtain ⟨v1, v3, v5, v6, v7, v9, c11, b2, b4, b8, b10⟩ := invX_2 hI
  have c11 : S 2 = .inr (1, [.int v1, .int v3, .int v5, .ref (ad 3), .ref (ad 5), .ref (ad 6), .int v6, .int v7, .ref (ad 7), .ref (ad 8), .ref (ad 9), .ref (ad 10), .int v9, .ref (ad 15), .ref (ad 16)]) := c11
  have q12 : fld (S 2) 1 = v3.toInt := fld_of c11 rfl
  have b13 : Bd v3 (1) (12) := ⟨by omega, by omega⟩
  refine lv_iconst (v := (-1)) hx hb dX3_bestCell_0 (by decide) ?_
  refine lv_istore_n (lv' := [(1, .int (-1)), (0, .ref (ad 119))]) hx hb dX3_bestCell_1 rfl hl (by decide) rfl (fun ls hl => ?_)
  refine lv_aload_n hx hb dX3_bestCell_2 rfl (lv_at hl 1 rfl) ?_
  obtain ⟨v14, c16, b15⟩ := invX_119 hI
  have c16 : S 119 = .inr (3, [.ref (ad 2), .ref (ad 111), .ref (ad 120), .int v14, .ref (ad 121)]) := c16
  refine xget E hQ 119 (by decide) c16 rfl 3 (by decide) q503 rfl dX3_bestCell_3 ?_
  refine lv_istore_n (lv' := [(2, .int v14), (1, .int (-1)), (0, .ref (ad 119))]) hx hb dX3_bestCell_6 rfl hl (by decide) rfl (fun ls hl => ?_)
  refine lv_iconst (v := 0) hx hb dX3_bestCell_7 (by decide) ?_
  refine lv_istore_n (lv' := [(3, .int 0), (2, .int v14), (1, .int (-1)), (0, .ref (ad 119))]) hx hb dX3_bestCell_8 rfl hl (by decide) rfl (fun ls hl => ?_)
  have loop9 : ∀ (n : Nat) (S_9 : SS) (H : Heap) (locs : List Loc) (ls : Array Slot) (x9_1 : Int32) (x9_2 : Int32) (x9_3 : Int32), Bd x9_1 (-1) (11) → Bd x9_2 (-2147483648) (49) → Bd x9_3 (0) (12) → (-1) * x9_3.toInt + 12 < ((n : Nat) : Int) → InvX g ad S_9 → (∀ j, j ∉ ([121] : List Nat) → S_9 j = S j) → Hp g ad 122 S_9 (FA ad 122) s.heap H locs → lv_has ls 5 [(3, .int x9_3), (2, .int x9_2), (1, .int x9_1), (0, .ref (ad 119))] → W p l e (Rm 4) s m [.ref (ad 119)].toArray below meth c H locs 0 0 (MQ below (va_Qi (fun r S' => InvX g ad S' ∧ (∀ j, j ∉ ([121] : List Nat) → S' j = S j) ∧ Bd r (-1) (11)) (QB g ad 122) (FA ad 122)) [.ref (ad 119)].toArray s 0 0 (FA ad 122)) (F0 m 9 ls []) := by
    intro n
    induction n with
    | zero => intro S_9 H locs ls x9_1 x9_2 x9_3 Bx9_1 Bx9_2 Bx9_3 hn9_ hI hf9 hQ hl; exfalso; have := (Bx9_3).2; omega
    | succ n9_ ih9 =>
      intro S_9 H locs ls x9_1 x9_2 x9_3 Bx9_1 Bx9_2 Bx9_3 hn9_ hI hf9 hQ hl
      refine lv_iload_n hx hb dX3_bestCell_9 rfl (lv_at hl 0 rfl) ?_
      refine lv_aload_n hx hb dX3_bestCell_10 rfl (lv_at hl 3 rfl) ?_
      have c17 : S_9 119 = .inr (3, [.ref (ad 2), .ref (ad 111), .ref (ad 120), .int v14, .ref (ad 121)]) := ((hf9 119 (by decide)).trans c16)
      refine xget E hQ 119 (by decide) c17 rfl 0 (by decide) q500 rfl dX3_bestCell_11 ?_
      have c18 : S_9 2 = .inr (1, [.int v1, .int v3, .int v5, .ref (ad 3), .ref (ad 5), .ref (ad 6), .int v6, .int v7, .ref (ad 7), .ref (ad 8), .ref (ad 9), .ref (ad 10), .int v9, .ref (ad 15), .ref (ad 16)]) := ((hf9 2 (by decide)).trans c11)
      refine xget E hQ 2 (by decide) c18 rfl 1 (by decide) q243 rfl dX3_bestCell_14 ?_
      refine lv_icmp_ge (tgt := 44) hx hb dX3_bestCell_17 (by decide) (fun k19 => ?_) (fun k19 => ?_)
      · have h20 := ib_le k19
        have b21 : Bd x9_3 (1) (12) := ⟨((rf_le b13 Bx9_3 h20).2).1, (Bx9_3).2⟩
        refine lv_iload_n hx hb dX3_bestCell_44 rfl (lv_at hl 2 rfl) ?_
        exact xri E hr hlk hQ (⟨hI, (o_trans o_refl hf9 (by decide)), Bx9_1⟩) dX3_bestCell_45
      · have h22 := ib_nle k19
        have b23 : Bd x9_3 (0) (11) := ⟨(Bx9_3).1, ((rf_lt Bx9_3 b13 h22).1).2⟩
        refine lv_aload_n hx hb dX3_bestCell_20 rfl (lv_at hl 3 rfl) ?_
        refine lv_iload_n hx hb dX3_bestCell_21 rfl (lv_at hl 0 rfl) ?_
        have q24 : fld (S_9 2) 1 = v3.toInt := fld_of c18 rfl
        refine xcVi E hs hQ hml hl.1 119 (gX3_worstAfter_119 l g ad hD S_9 hI x9_3 b23 (by omega)) mX3_worstAfter q1261 (by decide) c17 rfl rfl ⟨(Nat.le_of_ble_eq_true rfl), (Nat.le_of_ble_eq_true rfl)⟩ ⟨(Nat.le_of_ble_eq_true rfl), (Nat.le_of_ble_eq_true rfl)⟩ (Nat.le_of_ble_eq_true rfl) rfl dX3_bestCell_22 (fun r25 S25 H locs hp25 hQ _ => ?_)
        obtain ⟨hI, o25⟩ := hp25
        refine lv_istore (lv' := [(4, .int r25), (3, .int x9_3), (2, .int x9_2), (1, .int x9_1), (0, .ref (ad 119))]) hx hb dX3_bestCell_25 hl (by decide) rfl (fun ls hl => ?_)
        refine lv_iload hx hb dX3_bestCell_27 (lv_at hl 0 rfl) ?_
        refine lv_iload_n hx hb dX3_bestCell_29 rfl (lv_at hl 2 rfl) ?_
        refine lv_icmp_ge (tgt := 38) hx hb dX3_bestCell_30 (by decide) (fun k26 => ?_) (fun k26 => ?_)
        · have h27 := ib_le k26
          obtain ⟨z28, e29⟩ : ∃ z : Int32, z = x9_3 + 1 := ⟨_, rfl⟩
          have t30 := ib_add e29 b23 (by decide : Bd 1 (1) (1)) (by decide) (by decide)
          have b31 : Bd z28 (1) (12) := ib_addb t30 b23 (by decide : Bd 1 (1) (1))
          have t30 : z28.toInt = x9_3.toInt + 1 := fold_add t30 rfl (by decide)
          refine lv_iinc (v := z28) (lv' := [(3, .int z28), (4, .int r25), (2, .int x9_2), (1, .int x9_1), (0, .ref (ad 119))]) hx hb dX3_bestCell_38 hl (k := 1) rfl (by rw [e29]; rfl) (by decide) rfl (fun ls hl => ?_)
          refine lv_goto (tgt := 9) hx hb dX3_bestCell_41 (by decide) ?_
          exact ih9 _ _ _ _ x9_1 x9_2 z28 Bx9_1 Bx9_2 (ib_wk b31 (by decide) (by decide)) (by omega) hI (o_trans hf9 o25 (by decide)) hQ (lv_sub hl [0, 2, 3, 4] rfl)
        · have h32 := ib_nle k26
          have b33 : Bd r25 (-2147483648) (48) := ⟨((ib_full r25)).1, ((rf_lt (ib_full r25) Bx9_2 h32).1).2⟩
          have b34 : Bd x9_2 (-2147483647) (49) := ⟨((rf_lt (ib_full r25) Bx9_2 h32).2).1, (Bx9_2).2⟩
          refine lv_iload hx hb dX3_bestCell_33 (lv_at hl 0 rfl) ?_
          refine lv_istore_n (lv' := [(2, .int r25), (4, .int r25), (3, .int x9_3), (1, .int x9_1), (0, .ref (ad 119))]) hx hb dX3_bestCell_35 rfl hl (by decide) rfl (fun ls hl => ?_)
          refine lv_iload_n hx hb dX3_bestCell_36 rfl (lv_at hl 2 rfl) ?_
          refine lv_istore_n (lv' := [(1, .int x9_3), (2, .int r25), (4, .int r25), (3, .int x9_3), (0, .ref (ad 119))]) hx hb dX3_bestCell_37 rfl hl (by decide) rfl (fun ls hl => ?_)
          obtain ⟨z35, e36⟩ : ∃ z : Int32, z = x9_3 + 1 := ⟨_, rfl⟩
          have t37 := ib_add e36 b23 (by decide : Bd 1 (1) (1)) (by decide) (by decide)
          have b38 : Bd z35 (1) (12) := ib_addb t37 b23 (by decide : Bd 1 (1) (1))
          have t37 : z35.toInt = x9_3.toInt + 1 := fold_add t37 rfl (by decide)
          refine lv_iinc (v := z35) (lv' := [(3, .int z35), (1, .int x9_3), (2, .int r25), (4, .int r25), (0, .ref (ad 119))]) hx hb dX3_bestCell_38 hl (k := 3) rfl (by rw [e36]; rfl) (by decide) rfl (fun ls hl => ?_)
          refine lv_goto (tgt := 9) hx hb dX3_bestCell_41 (by decide) ?_
          exact ih9 _ _ _ _ x9_3 r25 z35 (ib_wk b23 (by decide) (by decide)) (ib_wk b33 (by decide) (by decide)) (ib_wk b38 (by decide) (by decide)) (by omega) hI (o_trans hf9 o25 (by decide)) hQ (lv_sub hl [0, 2, 1, 4] rfl)
  obtain ⟨n9, hn9⟩ := fu_n (12)
  exact loop9 n9 _ _ _ _ (-1) v14 0 (ib_wk (by decide : Bd (-1) (-1) (-1)) (by decide) (by decide)) (ib_wk b15 (by decide) (by decide)) (ib_wk (by decide : Bd 0 (0) (0)) (by decide) (by decide)) (by have : ((-1) : Int32).toInt = (-1) := (by decide); have : (0 : Int32).toInt = 0 := (by decide); omega) hI o_refl hQ (lv_sub hl [0, 1, 2, 3] rfl)
set_option maxHeartbeats 4000000 in
set_option maxRecDepth 100000 in
theorem gX11_fits_0 (l : Launch) (g : GG) (ad : Nat → Nat) (hD : Dj ad 122) (S : SS) (hI : InvX g ad S) (a1 : Int32) (hq1 : 0 ≤ 1201 * fld (S 2) 1 + (-1) * fld (S 2) 0) (hq2 : 0 ≤ 8 * fld (S 2) 1 + (-1) * fld (S 2) 7) (hq3 : 0 ≤ 3 * fld (S 2) 1 + (-1) * fld (S 2) 12) : Met l yX11_fits (wG (.code yX11_fits cX11_fits 2 (some .int))) (Rm 5) (XPre g ad 122 S [.ref (ad 0), .int a1]) (va_Qi (fun r S' => InvX g ad S' ∧ (∀ j, j ∉ ([119, 120] : List Nat) → S' j = S j) ∧ Bd r (-6) (49)) (QB g ad 122) (FA ad 122)) 0 0 (FA ad 122) := by
  refine xmet cX11_fits "EbbWreck" (by decide) rfl (Nat.le_of_ble_eq_true rfl) (fun p e s m below meth c E hr hlk hml hQ ls hl => ?_)
  have hx := E.1
  have hb := E.2.1
  have hs : Sp ad 122 (FA ad 122) := Sp.fa hD
  have hl : lv_has ls 2 [(0, .ref (ad 0)), (1, .int a1)] := hl
  obtain ⟨v1, v3, v5, v6, v7, v9, c11, b2, b4, b8, b10⟩ := invX_2 hI
  have c11 : S 2 = .inr (1, [.int v1, .int v3, .int v5, .ref (ad 3), .ref (ad 5), .ref (ad 6), .int v6, .int v7, .ref (ad 7), .ref (ad 8), .ref (ad 9), .ref (ad 10), .int v9, .ref (ad 15), .ref (ad 16)]) := c11
  have q12 : fld (S 2) 1 = v3.toInt := fld_of c11 rfl
  have q13 : fld (S 2) 0 = v1.toInt := fld_of c11 rfl
  have q14 : fld (S 2) 7 = v7.toInt := fld_of c11 rfl
  have q15 : fld (S 2) 12 = v9.toInt := fld_of c11 rfl
  refine lv_aload_n hx hb dX11_fits_0 rfl (lv_at hl 0 rfl) ?_
  obtain ⟨v16, v18, v19, c20, b17⟩ := invX_0 hI
  have c20 : S 0 = .inr (11, [.ref (ad 1), .int v16, .int v18, .int v19, .ref (ad 2), .ref (ad 20), .ref (ad 38), .ref (ad 93), .ref (ad 94), .ref (ad 95), .ref (ad 102), .ref (ad 104), .ref (ad 107), .ref (ad 111), .ref (ad 119)]) := c20
  refine xget E hQ 0 (by decide) c20 rfl 14 (by decide) q530 rfl dX11_fits_1 ?_
  refine lv_iload_n hx hb dX11_fits_4 rfl (lv_at hl 1 rfl) ?_
  obtain ⟨v22, c24, b23⟩ := invX_119 hI
  have c24 : S 119 = .inr (3, [.ref (ad 2), .ref (ad 111), .ref (ad 120), .int v22, .ref (ad 121)]) := c24
  refine xcVi E hs hQ hml hl.1 119 (gX3_collect_119 l g ad hD S hI a1 (by omega) (by omega) (by omega)) mX3_collect q1195 (by decide) c24 rfl rfl ⟨(Nat.le_of_ble_eq_true rfl), (Nat.le_of_ble_eq_true rfl)⟩ ⟨(Nat.le_of_ble_eq_true rfl), (Nat.le_of_ble_eq_true rfl)⟩ (Nat.le_of_ble_eq_true rfl) rfl dX11_fits_5 (fun r21 S21 H locs hp21 hQ _ => ?_)
  obtain ⟨hI, o21, b21, g21_0⟩ := hp21
  have c25 : S21 2 = .inr (1, [.int v1, .int v3, .int v5, .ref (ad 3), .ref (ad 5), .ref (ad 6), .int v6, .int v7, .ref (ad 7), .ref (ad 8), .ref (ad 9), .ref (ad 10), .int v9, .ref (ad 15), .ref (ad 16)]) := ((o21 2 (by decide)).trans c11)
  have q26 : fld (S21 2) 1 = v3.toInt := fld_of c25 rfl
  exact xri E hr hlk hQ (⟨hI, (o_trans o_refl o21 (by decide)), b21⟩) dX11_fits_8
set_option maxHeartbeats 4000000 in
set_option maxRecDepth 100000 in
theorem gX11_fit_0 (l : Launch) (g : GG) (ad : Nat → Nat) (hD : Dj ad 122) (S : SS) (hI : InvX g ad S) (a1 : Int32) (a2 : Int32) (hq1 : 0 ≤ 1201 * fld (S 2) 1 + (-1) * fld (S 2) 0) (hq2 : 0 ≤ 8 * fld (S 2) 1 + (-1) * fld (S 2) 7) (hq3 : 0 ≤ 3 * fld (S 2) 1 + (-1) * fld (S 2) 12) : Met l yX11_fit (wG (.code yX11_fit cX11_fit 3 (some .int))) (Rm 5) (XPre g ad 122 S [.ref (ad 0), .int a1, .int a2]) (va_Qi (fun _ S' => InvX g ad S' ∧ (∀ j, j ∉ ([119, 120] : List Nat) → S' j = S j)) (QB g ad 122) (FA ad 122)) 0 0 (FA ad 122) := by
  refine xmet cX11_fit "EbbWreck" (by decide) rfl (Nat.le_of_ble_eq_true rfl) (fun p e s m below meth c E hr hlk hml hQ ls hl => ?_)
  have hx := E.1
  have hb := E.2.1
  have hs : Sp ad 122 (FA ad 122) := Sp.fa hD
  have hl : lv_has ls 3 [(0, .ref (ad 0)), (1, .int a1), (2, .int a2)] := hl
  obtain ⟨v1, v3, v5, v6, v7, v9, c11, b2, b4, b8, b10⟩ := invX_2 hI
  have c11 : S 2 = .inr (1, [.int v1, .int v3, .int v5, .ref (ad 3), .ref (ad 5), .ref (ad 6), .int v6, .int v7, .ref (ad 7), .ref (ad 8), .ref (ad 9), .ref (ad 10), .int v9, .ref (ad 15), .ref (ad 16)]) := c11
  have q12 : fld (S 2) 1 = v3.toInt := fld_of c11 rfl
  have q13 : fld (S 2) 0 = v1.toInt := fld_of c11 rfl
  have q14 : fld (S 2) 7 = v7.toInt := fld_of c11 rfl
  have q15 : fld (S 2) 12 = v9.toInt := fld_of c11 rfl
  refine lv_aload_n hx hb dX11_fit_0 rfl (lv_at hl 0 rfl) ?_
  obtain ⟨v16, v18, v19, c20, b17⟩ := invX_0 hI
  have c20 : S 0 = .inr (11, [.ref (ad 1), .int v16, .int v18, .int v19, .ref (ad 2), .ref (ad 20), .ref (ad 38), .ref (ad 93), .ref (ad 94), .ref (ad 95), .ref (ad 102), .ref (ad 104), .ref (ad 107), .ref (ad 111), .ref (ad 119)]) := c20
  refine xget E hQ 0 (by decide) c20 rfl 14 (by decide) q530 rfl dX11_fit_1 ?_
  refine lv_iload_n hx hb dX11_fit_4 rfl (lv_at hl 1 rfl) ?_
  obtain ⟨v22, c24, b23⟩ := invX_119 hI
  have c24 : S 119 = .inr (3, [.ref (ad 2), .ref (ad 111), .ref (ad 120), .int v22, .ref (ad 121)]) := c24
  refine xcVi E hs hQ hml hl.1 119 (gX3_collect_119 l g ad hD S hI a1 (by omega) (by omega) (by omega)) mX3_collect q1195 (by decide) c24 rfl rfl ⟨(Nat.le_of_ble_eq_true rfl), (Nat.le_of_ble_eq_true rfl)⟩ ⟨(Nat.le_of_ble_eq_true rfl), (Nat.le_of_ble_eq_true rfl)⟩ (Nat.le_of_ble_eq_true rfl) rfl dX11_fit_5 (fun r21 S21 H locs hp21 hQ _ => ?_)
  obtain ⟨hI, o21, b21, g21_0⟩ := hp21
  have c25 : S21 2 = .inr (1, [.int v1, .int v3, .int v5, .ref (ad 3), .ref (ad 5), .ref (ad 6), .int v6, .int v7, .ref (ad 7), .ref (ad 8), .ref (ad 9), .ref (ad 10), .int v9, .ref (ad 15), .ref (ad 16)]) := ((o21 2 (by decide)).trans c11)
  have q26 : fld (S21 2) 1 = v3.toInt := fld_of c25 rfl
  refine lv_iconst (v := 1) hx hb dX11_fit_8 (by decide) ?_
  refine lv_icmp_ge (tgt := 16) hx hb dX11_fit_9 (by decide) (fun k27 => ?_) (fun k27 => ?_)
  · have h28 := ib_le k27
    have b29 : Bd r21 (1) (49) := ⟨((rf_le (by decide : Bd 1 (1) (1)) b21 h28).2).1, (b21).2⟩
    have g30 := g21_0.resolve_left (by omega)
    clear g21_0
    have b31 : Bd v3 (1) (12) := ⟨by omega, by omega⟩
    refine lv_iload_n hx hb dX11_fit_16 rfl (lv_at hl 2 rfl) ?_
    by_cases h32 : a2 = 0
    · refine lv_lookup (off := 27) (tgt := 44) hx hb dX11_fit_17 (by decide) (by rw [h32]; decide) (by decide) ?_
      refine lv_aload_n hx hb dX11_fit_44 rfl (lv_at hl 0 rfl) ?_
      have c33 : S21 0 = .inr (11, [.ref (ad 1), .int v16, .int v18, .int v19, .ref (ad 2), .ref (ad 20), .ref (ad 38), .ref (ad 93), .ref (ad 94), .ref (ad 95), .ref (ad 102), .ref (ad 104), .ref (ad 107), .ref (ad 111), .ref (ad 119)]) := ((o21 0 (by decide)).trans c20)
      refine xget E hQ 0 (by decide) c33 rfl 14 (by decide) q530 rfl dX11_fit_45 ?_
      obtain ⟨v35, c37, b36⟩ := invX_119 hI
      have c37 : S21 119 = .inr (3, [.ref (ad 2), .ref (ad 111), .ref (ad 120), .int v35, .ref (ad 121)]) := c37
      refine xcVi E hs hQ hml hl.1 119 (gX3_smallest_119 l g ad hD S21 hI ) mX3_smallest q1241 (by decide) c37 rfl rfl ⟨(Nat.le_of_ble_eq_true rfl), (Nat.le_of_ble_eq_true rfl)⟩ ⟨(Nat.le_of_ble_eq_true rfl), (Nat.le_of_ble_eq_true rfl)⟩ (Nat.le_of_ble_eq_true rfl) rfl dX11_fit_48 (fun r34 S34 H locs hp34 hQ _ => ?_)
      obtain ⟨rfl, b34⟩ := hp34
      refine xcSi E hs hQ hml hl.1 (gX3_floodOf l g ad hD S21 hI r34) mX3_floodOf q1251 rfl ⟨(Nat.le_of_ble_eq_true rfl), (Nat.le_of_ble_eq_true rfl)⟩ ⟨(Nat.le_of_ble_eq_true rfl), (Nat.le_of_ble_eq_true rfl)⟩ (Nat.le_of_ble_eq_true rfl) rfl dX11_fit_51 (fun r38 S38 H locs hp38 hQ => ?_)
      subst hp38
      exact xri E hr hlk hQ (⟨hI, (o_trans o_refl o21 (by decide))⟩) dX11_fit_54
    · by_cases h39 : a2 = 1
      · refine lv_lookup (off := 38) (tgt := 55) hx hb dX11_fit_17 (by decide) (by rw [h39]; decide) (by decide) ?_
        refine lv_aload_n hx hb dX11_fit_55 rfl (lv_at hl 0 rfl) ?_
        have c40 : S21 0 = .inr (11, [.ref (ad 1), .int v16, .int v18, .int v19, .ref (ad 2), .ref (ad 20), .ref (ad 38), .ref (ad 93), .ref (ad 94), .ref (ad 95), .ref (ad 102), .ref (ad 104), .ref (ad 107), .ref (ad 111), .ref (ad 119)]) := ((o21 0 (by decide)).trans c20)
        refine xget E hQ 0 (by decide) c40 rfl 14 (by decide) q530 rfl dX11_fit_56 ?_
        obtain ⟨v42, c44, b43⟩ := invX_119 hI
        have c44 : S21 119 = .inr (3, [.ref (ad 2), .ref (ad 111), .ref (ad 120), .int v42, .ref (ad 121)]) := c44
        refine xcVi E hs hQ hml hl.1 119 (gX3_smallest_119 l g ad hD S21 hI ) mX3_smallest q1241 (by decide) c44 rfl rfl ⟨(Nat.le_of_ble_eq_true rfl), (Nat.le_of_ble_eq_true rfl)⟩ ⟨(Nat.le_of_ble_eq_true rfl), (Nat.le_of_ble_eq_true rfl)⟩ (Nat.le_of_ble_eq_true rfl) rfl dX11_fit_59 (fun r41 S41 H locs hp41 hQ _ => ?_)
        obtain ⟨rfl, b41⟩ := hp41
        refine xcSi E hs hQ hml hl.1 (gX3_ebbOf l g ad hD S21 hI r41) mX3_ebbOf q1252 rfl ⟨(Nat.le_of_ble_eq_true rfl), (Nat.le_of_ble_eq_true rfl)⟩ ⟨(Nat.le_of_ble_eq_true rfl), (Nat.le_of_ble_eq_true rfl)⟩ (Nat.le_of_ble_eq_true rfl) rfl dX11_fit_62 (fun r45 S45 H locs hp45 hQ => ?_)
        obtain ⟨rfl, b45⟩ := hp45
        exact xri E hr hlk hQ (⟨hI, (o_trans o_refl o21 (by decide))⟩) dX11_fit_65
      · refine lv_lookup (off := 49) (tgt := 66) hx hb dX11_fit_17 (by decide) ((lv_osw h32 (by decide)).trans ((lv_osw h39 (by decide)))) (by decide) ?_
        refine lv_sipush (v := (-1000)) hx hb dX11_fit_66 (by decide) ?_
        exact xri E hr hlk hQ (⟨hI, (o_trans o_refl o21 (by decide))⟩) dX11_fit_69
  · have h46 := ib_nle k27
    have b47 : Bd r21 (-6) (0) := ⟨(b21).1, ((rf_lt b21 (by decide : Bd 1 (1) (1)) h46).1).2⟩
    refine lv_sipush (v := (-1000)) hx hb dX11_fit_12 (by decide) ?_
    exact xri E hr hlk hQ (⟨hI, (o_trans o_refl o21 (by decide))⟩) dX11_fit_15
set_option maxHeartbeats 4000000 in
set_option maxRecDepth 100000 in
theorem gX11_ask_0 (l : Launch) (g : GG) (ad : Nat → Nat) (hD : Dj ad 122) (S : SS) (hI : InvX g ad S) (a1 : Int32) (hq1 : 0 ≤ 1201 * fld (S 2) 1 + (-1) * fld (S 2) 0) (hq2 : 0 ≤ 8 * fld (S 2) 1 + (-1) * fld (S 2) 7) (hq3 : 0 ≤ 3 * fld (S 2) 1 + (-1) * fld (S 2) 12) : Met l yX11_ask (wG (.code yX11_ask cX11_ask 3 (some .int))) (Rm 5) (XPre g ad 122 S [.ref (ad 0), .int a1]) (va_Qi (fun r S' => InvX g ad S' ∧ (∀ j, j ∉ ([119, 120, 121] : List Nat) → S' j = S j) ∧ Bd r (-6) (11)) (QB g ad 122) (FA ad 122)) 0 0 (FA ad 122) := by
  refine xmet cX11_ask "EbbWreck" (by decide) rfl (Nat.le_of_ble_eq_true rfl) (fun p e s m below meth c E hr hlk hml hQ ls hl => ?_)
  have hx := E.1
  have hb := E.2.1
  have hs : Sp ad 122 (FA ad 122) := Sp.fa hD
  have hl : lv_has ls 3 [(0, .ref (ad 0)), (1, .int a1)] := hl
  obtain ⟨v1, v3, v5, v6, v7, v9, c11, b2, b4, b8, b10⟩ := invX_2 hI
  have c11 : S 2 = .inr (1, [.int v1, .int v3, .int v5, .ref (ad 3), .ref (ad 5), .ref (ad 6), .int v6, .int v7, .ref (ad 7), .ref (ad 8), .ref (ad 9), .ref (ad 10), .int v9, .ref (ad 15), .ref (ad 16)]) := c11
  have q12 : fld (S 2) 1 = v3.toInt := fld_of c11 rfl
  have q13 : fld (S 2) 0 = v1.toInt := fld_of c11 rfl
  have q14 : fld (S 2) 7 = v7.toInt := fld_of c11 rfl
  have q15 : fld (S 2) 12 = v9.toInt := fld_of c11 rfl
  refine lv_aload_n hx hb dX11_ask_0 rfl (lv_at hl 0 rfl) ?_
  obtain ⟨v16, v18, v19, c20, b17⟩ := invX_0 hI
  have c20 : S 0 = .inr (11, [.ref (ad 1), .int v16, .int v18, .int v19, .ref (ad 2), .ref (ad 20), .ref (ad 38), .ref (ad 93), .ref (ad 94), .ref (ad 95), .ref (ad 102), .ref (ad 104), .ref (ad 107), .ref (ad 111), .ref (ad 119)]) := c20
  refine xget E hQ 0 (by decide) c20 rfl 14 (by decide) q530 rfl dX11_ask_1 ?_
  refine lv_iload_n hx hb dX11_ask_4 rfl (lv_at hl 1 rfl) ?_
  obtain ⟨v22, c24, b23⟩ := invX_119 hI
  have c24 : S 119 = .inr (3, [.ref (ad 2), .ref (ad 111), .ref (ad 120), .int v22, .ref (ad 121)]) := c24
  refine xcVi E hs hQ hml hl.1 119 (gX3_collect_119 l g ad hD S hI a1 (by omega) (by omega) (by omega)) mX3_collect q1195 (by decide) c24 rfl rfl ⟨(Nat.le_of_ble_eq_true rfl), (Nat.le_of_ble_eq_true rfl)⟩ ⟨(Nat.le_of_ble_eq_true rfl), (Nat.le_of_ble_eq_true rfl)⟩ (Nat.le_of_ble_eq_true rfl) rfl dX11_ask_5 (fun r21 S21 H locs hp21 hQ _ => ?_)
  obtain ⟨hI, o21, b21, g21_0⟩ := hp21
  have c25 : S21 2 = .inr (1, [.int v1, .int v3, .int v5, .ref (ad 3), .ref (ad 5), .ref (ad 6), .int v6, .int v7, .ref (ad 7), .ref (ad 8), .ref (ad 9), .ref (ad 10), .int v9, .ref (ad 15), .ref (ad 16)]) := ((o21 2 (by decide)).trans c11)
  have q26 : fld (S21 2) 1 = v3.toInt := fld_of c25 rfl
  refine lv_istore_n (lv' := [(2, .int r21), (0, .ref (ad 0)), (1, .int a1)]) hx hb dX11_ask_8 rfl hl (by decide) rfl (fun ls hl => ?_)
  refine lv_iload_n hx hb dX11_ask_9 rfl (lv_at hl 0 rfl) ?_
  refine lv_if_ge (tgt := 17) hx hb dX11_ask_10 (by decide) (fun k27 => ?_) (fun k27 => ?_)
  · have h28 := ib_le k27
    have b29 : Bd r21 (0) (49) := ⟨((rf_le (by decide : Bd 0 (0) (0)) b21 h28).2).1, (b21).2⟩
    have g30 := g21_0.resolve_left (by omega)
    clear g21_0
    have b31 : Bd v3 (1) (12) := ⟨by omega, by omega⟩
    refine lv_aload_n hx hb dX11_ask_17 rfl (lv_at hl 1 rfl) ?_
    have c32 : S21 0 = .inr (11, [.ref (ad 1), .int v16, .int v18, .int v19, .ref (ad 2), .ref (ad 20), .ref (ad 38), .ref (ad 93), .ref (ad 94), .ref (ad 95), .ref (ad 102), .ref (ad 104), .ref (ad 107), .ref (ad 111), .ref (ad 119)]) := ((o21 0 (by decide)).trans c20)
    refine xget E hQ 0 (by decide) c32 rfl 14 (by decide) q530 rfl dX11_ask_18 ?_
    obtain ⟨v34, c36, b35⟩ := invX_119 hI
    have c36 : S21 119 = .inr (3, [.ref (ad 2), .ref (ad 111), .ref (ad 120), .int v34, .ref (ad 121)]) := c36
    refine xcVi E hs hQ hml hl.1 119 (gX3_bestCell_119 l g ad hD S21 hI (by omega)) mX3_bestCell q1257 (by decide) c36 rfl rfl ⟨(Nat.le_of_ble_eq_true rfl), (Nat.le_of_ble_eq_true rfl)⟩ ⟨(Nat.le_of_ble_eq_true rfl), (Nat.le_of_ble_eq_true rfl)⟩ (Nat.le_of_ble_eq_true rfl) rfl dX11_ask_21 (fun r33 S33 H locs hp33 hQ _ => ?_)
    obtain ⟨hI, o33, b33⟩ := hp33
    exact xri E hr hlk hQ (⟨hI, (o_trans (o_trans o_refl o21 (by decide)) o33 (by decide)), (ib_wk b33 (by decide) (by decide))⟩) dX11_ask_24
  · have h37 := ib_nle k27
    have b38 : Bd r21 (-6) (-1) := ⟨(b21).1, ((rf_lt b21 (by decide : Bd 0 (0) (0)) h37).1).2⟩
    clear g21_0
    refine lv_iload_n hx hb dX11_ask_13 rfl (lv_at hl 0 rfl) ?_
    refine lv_goto (tgt := 24) hx hb dX11_ask_14 (by decide) ?_
    exact xri E hr hlk hQ (⟨hI, (o_trans o_refl o21 (by decide)), (ib_wk b38 (by decide) (by decide))⟩) dX11_ask_24
set_option maxHeartbeats 4000000 in
set_option maxRecDepth 100000 in
theorem gX11_leaves_0 (l : Launch) (g : GG) (ad : Nat → Nat) (hD : Dj ad 122) (S : SS) (hI : InvX g ad S) (a1 : Int32) (hq1 : 0 ≤ 1201 * fld (S 2) 1 + (-1) * fld (S 2) 0) (hq2 : 0 ≤ 8 * fld (S 2) 1 + (-1) * fld (S 2) 7) (hq3 : 0 ≤ 3 * fld (S 2) 1 + (-1) * fld (S 2) 12) : Met l yX11_leaves (wG (.code yX11_leaves cX11_leaves 4 (some .int))) (Rm 5) (XPre g ad 122 S [.ref (ad 0), .int a1]) (va_Qi (fun _ S' => InvX g ad S' ∧ (∀ j, j ∉ ([119, 120, 121] : List Nat) → S' j = S j)) (QB g ad 122) (FA ad 122)) 0 0 (FA ad 122) := by
  refine xmet cX11_leaves "EbbWreck" (by decide) rfl (Nat.le_of_ble_eq_true rfl) (fun p e s m below meth c E hr hlk hml hQ ls hl => ?_)
  have hx := E.1
  have hb := E.2.1
  have hs : Sp ad 122 (FA ad 122) := Sp.fa hD
  have hl : lv_has ls 4 [(0, .ref (ad 0)), (1, .int a1)] := hl
  obtain ⟨v1, v3, v5, v6, v7, v9, c11, b2, b4, b8, b10⟩ := invX_2 hI
  have c11 : S 2 = .inr (1, [.int v1, .int v3, .int v5, .ref (ad 3), .ref (ad 5), .ref (ad 6), .int v6, .int v7, .ref (ad 7), .ref (ad 8), .ref (ad 9), .ref (ad 10), .int v9, .ref (ad 15), .ref (ad 16)]) := c11
  have q12 : fld (S 2) 1 = v3.toInt := fld_of c11 rfl
  have q13 : fld (S 2) 0 = v1.toInt := fld_of c11 rfl
  have q14 : fld (S 2) 7 = v7.toInt := fld_of c11 rfl
  have q15 : fld (S 2) 12 = v9.toInt := fld_of c11 rfl
  refine lv_aload_n hx hb dX11_leaves_0 rfl (lv_at hl 0 rfl) ?_
  obtain ⟨v16, v18, v19, c20, b17⟩ := invX_0 hI
  have c20 : S 0 = .inr (11, [.ref (ad 1), .int v16, .int v18, .int v19, .ref (ad 2), .ref (ad 20), .ref (ad 38), .ref (ad 93), .ref (ad 94), .ref (ad 95), .ref (ad 102), .ref (ad 104), .ref (ad 107), .ref (ad 111), .ref (ad 119)]) := c20
  refine xget E hQ 0 (by decide) c20 rfl 14 (by decide) q530 rfl dX11_leaves_1 ?_
  refine lv_iload_n hx hb dX11_leaves_4 rfl (lv_at hl 1 rfl) ?_
  obtain ⟨v22, c24, b23⟩ := invX_119 hI
  have c24 : S 119 = .inr (3, [.ref (ad 2), .ref (ad 111), .ref (ad 120), .int v22, .ref (ad 121)]) := c24
  refine xcVi E hs hQ hml hl.1 119 (gX3_collect_119 l g ad hD S hI a1 (by omega) (by omega) (by omega)) mX3_collect q1195 (by decide) c24 rfl rfl ⟨(Nat.le_of_ble_eq_true rfl), (Nat.le_of_ble_eq_true rfl)⟩ ⟨(Nat.le_of_ble_eq_true rfl), (Nat.le_of_ble_eq_true rfl)⟩ (Nat.le_of_ble_eq_true rfl) rfl dX11_leaves_5 (fun r21 S21 H locs hp21 hQ _ => ?_)
  obtain ⟨hI, o21, b21, g21_0⟩ := hp21
  have c25 : S21 2 = .inr (1, [.int v1, .int v3, .int v5, .ref (ad 3), .ref (ad 5), .ref (ad 6), .int v6, .int v7, .ref (ad 7), .ref (ad 8), .ref (ad 9), .ref (ad 10), .int v9, .ref (ad 15), .ref (ad 16)]) := ((o21 2 (by decide)).trans c11)
  have q26 : fld (S21 2) 1 = v3.toInt := fld_of c25 rfl
  refine lv_istore_n (lv' := [(2, .int r21), (0, .ref (ad 0)), (1, .int a1)]) hx hb dX11_leaves_8 rfl hl (by decide) rfl (fun ls hl => ?_)
  refine lv_iload_n hx hb dX11_leaves_9 rfl (lv_at hl 0 rfl) ?_
  refine lv_if_ge (tgt := 15) hx hb dX11_leaves_10 (by decide) (fun k27 => ?_) (fun k27 => ?_)
  · have h28 := ib_le k27
    have b29 : Bd r21 (0) (49) := ⟨((rf_le (by decide : Bd 0 (0) (0)) b21 h28).2).1, (b21).2⟩
    have g30 := g21_0.resolve_left (by omega)
    clear g21_0
    have b31 : Bd v3 (1) (12) := ⟨by omega, by omega⟩
    refine lv_aload_n hx hb dX11_leaves_15 rfl (lv_at hl 1 rfl) ?_
    have c32 : S21 0 = .inr (11, [.ref (ad 1), .int v16, .int v18, .int v19, .ref (ad 2), .ref (ad 20), .ref (ad 38), .ref (ad 93), .ref (ad 94), .ref (ad 95), .ref (ad 102), .ref (ad 104), .ref (ad 107), .ref (ad 111), .ref (ad 119)]) := ((o21 0 (by decide)).trans c20)
    refine xget E hQ 0 (by decide) c32 rfl 14 (by decide) q530 rfl dX11_leaves_16 ?_
    obtain ⟨v34, c36, b35⟩ := invX_119 hI
    have c36 : S21 119 = .inr (3, [.ref (ad 2), .ref (ad 111), .ref (ad 120), .int v34, .ref (ad 121)]) := c36
    refine xcVi E hs hQ hml hl.1 119 (gX3_bestCell_119 l g ad hD S21 hI (by omega)) mX3_bestCell q1257 (by decide) c36 rfl rfl ⟨(Nat.le_of_ble_eq_true rfl), (Nat.le_of_ble_eq_true rfl)⟩ ⟨(Nat.le_of_ble_eq_true rfl), (Nat.le_of_ble_eq_true rfl)⟩ (Nat.le_of_ble_eq_true rfl) rfl dX11_leaves_19 (fun r33 S33 H locs hp33 hQ _ => ?_)
    obtain ⟨hI, o33, b33⟩ := hp33
    refine lv_istore_n (lv' := [(3, .int r33), (2, .int r21), (0, .ref (ad 0)), (1, .int a1)]) hx hb dX11_leaves_22 rfl hl (by decide) rfl (fun ls hl => ?_)
    refine lv_iload_n hx hb dX11_leaves_23 rfl (lv_at hl 0 rfl) ?_
    refine lv_iconst (v := (-1)) hx hb dX11_leaves_24 (by decide) ?_
    refine lv_icmp_ne (tgt := 32) hx hb dX11_leaves_25 (by decide) (fun k37 => ?_) (fun k37 => ?_)
    · have h38 := ib_ne k37
      have b39 : Bd r33 (0) (11) := rf_nlo b33 (by decide : Bd (-1) (-1) (-1)) h38
      refine lv_aload_n hx hb dX11_leaves_32 rfl (lv_at hl 2 rfl) ?_
      have c40 : S33 0 = .inr (11, [.ref (ad 1), .int v16, .int v18, .int v19, .ref (ad 2), .ref (ad 20), .ref (ad 38), .ref (ad 93), .ref (ad 94), .ref (ad 95), .ref (ad 102), .ref (ad 104), .ref (ad 107), .ref (ad 111), .ref (ad 119)]) := ((o33 0 (by decide)).trans c32)
      refine xget E hQ 0 (by decide) c40 rfl 14 (by decide) q530 rfl dX11_leaves_33 ?_
      refine lv_iload_n hx hb dX11_leaves_36 rfl (lv_at hl 0 rfl) ?_
      have c41 : S33 2 = .inr (1, [.int v1, .int v3, .int v5, .ref (ad 3), .ref (ad 5), .ref (ad 6), .int v6, .int v7, .ref (ad 7), .ref (ad 8), .ref (ad 9), .ref (ad 10), .int v9, .ref (ad 15), .ref (ad 16)]) := ((o33 2 (by decide)).trans c25)
      have q42 : fld (S33 2) 1 = v3.toInt := fld_of c41 rfl
      have c44 : S33 119 = .inr (3, [.ref (ad 2), .ref (ad 111), .ref (ad 120), .int v34, .ref (ad 121)]) := ((o33 119 (by decide)).trans c36)
      refine xcVi E hs hQ hml hl.1 119 (gX3_worstAfter_119 l g ad hD S33 hI r33 b39 (by omega)) mX3_worstAfter q1271 (by decide) c44 rfl rfl ⟨(Nat.le_of_ble_eq_true rfl), (Nat.le_of_ble_eq_true rfl)⟩ ⟨(Nat.le_of_ble_eq_true rfl), (Nat.le_of_ble_eq_true rfl)⟩ (Nat.le_of_ble_eq_true rfl) rfl dX11_leaves_37 (fun r43 S43 H locs hp43 hQ _ => ?_)
      obtain ⟨hI, o43⟩ := hp43
      exact xri E hr hlk hQ (⟨hI, (o_trans (o_trans (o_trans o_refl o21 (by decide)) o33 (by decide)) o43 (by decide))⟩) dX11_leaves_40
    · have h45 := ib_eq k37
      have b46 : Bd r33 (-1) (-1) := ⟨(b33).1, ((rf_eq b33 (by decide : Bd (-1) (-1) (-1)) h45).1).2⟩
      refine lv_iload_n hx hb dX11_leaves_28 rfl (lv_at hl 1 rfl) ?_
      refine lv_goto (tgt := 40) hx hb dX11_leaves_29 (by decide) ?_
      exact xri E hr hlk hQ (⟨hI, (o_trans (o_trans o_refl o21 (by decide)) o33 (by decide))⟩) dX11_leaves_40
  · have h47 := ib_nle k27
    have b48 : Bd r21 (-6) (-1) := ⟨(b21).1, ((rf_lt b21 (by decide : Bd 0 (0) (0)) h47).1).2⟩
    clear g21_0
    refine lv_iload_n hx hb dX11_leaves_13 rfl (lv_at hl 0 rfl) ?_
    exact xri E hr hlk hQ (⟨hI, (o_trans o_refl o21 (by decide))⟩) dX11_leaves_14
