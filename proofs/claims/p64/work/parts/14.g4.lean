set_option maxHeartbeats 4000000 in
set_option maxRecDepth 100000 in
theorem gX0_addAct_16 (l : Launch) (g : GG) (ad : Nat → Nat) (hD : Dj ad 122) (S : SS) (hI : InvX g ad S) (a1 : Int32) (a2 : Int32) (a3 : Int32) (ba2 : Bd a2 (0) (7)) (ba3 : Bd a3 (0) (400)) (hAR2 : ARp (S 16) (S 17) (S 18) (S 19)) (hw : a1.toInt = 0 → a2.toInt ≤ 2 ∧ a3.toInt ≤ 11) : Met l yX0_addAct (wG (.code yX0_addAct cX0_addAct 4 none)) (Rm 1) (XPre g ad 122 S [.ref (ad 16), .int a1, .int a2, .int a3]) (va_Qv (fun S' => InvX g ad S' ∧ (∀ j, j ∉ ([16, 17, 18, 19] : List Nat) → S' j = S j) ∧ (ARp (S' 16) (S' 17) (S' 18) (S' 19))) (QB g ad 122) (FA ad 122)) 0 0 (FA ad 122) := by
  refine xmet cX0_addAct "EbbWreck$Acts" (by decide) rfl (Nat.le_of_ble_eq_true rfl) (fun p e s m below meth c E hr hlk hml hQ ls hl => ?_)
  have hx := E.1
  have hb := E.2.1
  have hs : Sp ad 122 (FA ad 122) := Sp.fa hD
  have hl : lv_has ls 4 [(0, .ref (ad 16)), (1, .int a1), (2, .int a2), (3, .int a3)] := hl
  obtain ⟨v1, c3, b2⟩ := invX_16 hI
  have c3 : S 16 = .inr (0, [.int v1, .ref (ad 17), .ref (ad 18), .ref (ad 19)]) := c3
  obtain ⟨f4, c5⟩ := invX_17 hI
  obtain ⟨f7, c8, b9⟩ := invX_18 hI
  obtain ⟨f10, c11, b12⟩ := invX_19 hI
  refine lv_aload_n hx hb dX0_addAct_0 rfl (lv_at hl 0 rfl) ?_
  refine xcVi E hs hQ hml hl.1 16 (gX0_isFull_16 l g ad hD S hI ) mX0_isFull q1357 (by decide) c3 rfl rfl ⟨(Nat.le_of_ble_eq_true rfl), (Nat.le_of_ble_eq_true rfl)⟩ ⟨(Nat.le_of_ble_eq_true rfl), (Nat.le_of_ble_eq_true rfl)⟩ (Nat.le_of_ble_eq_true rfl) rfl dX0_addAct_1 (fun r13 S13 H locs hp13 hQ _ => ?_)
  obtain ⟨rfl, b13, g13_0⟩ := hp13
  have q14 : fld (S 16) 0 = v1.toInt := fld_of c3 rfl
  refine lv_if_ne (tgt := 47) hx hb dX0_addAct_4 (by decide) (fun k15 => ?_) (fun k15 => ?_)
  · have h16 := ib_ne k15
    have b17 : Bd r13 (1) (1) := rf_nlo b13 (by decide : Bd 0 (0) (0)) h16
    clear g13_0
    exact xrv E hr hlk hQ (⟨hI, o_refl, hAR2⟩) dX0_addAct_47
  · have h18 := ib_eq k15
    have b19 : Bd r13 (0) (0) := ⟨(b13).1, ((rf_eq b13 (by decide : Bd 0 (0) (0)) h18).1).2⟩
    have g20 := g13_0.resolve_left (by omega)
    clear g13_0
    have b21 : Bd v1 (0) (39) := ⟨by omega, by omega⟩
    refine lv_aload_n hx hb dX0_addAct_7 rfl (lv_at hl 0 rfl) ?_
    refine xget E hQ 16 (by decide) c3 rfl 1 (by decide) q219 rfl dX0_addAct_8 ?_
    refine lv_aload_n hx hb dX0_addAct_11 rfl (lv_at hl 0 rfl) ?_
    refine xget E hQ 16 (by decide) c3 rfl 0 (by decide) q215 rfl dX0_addAct_12 ?_
    refine lv_iload_n hx hb dX0_addAct_15 rfl (lv_at hl 1 rfl) ?_
    refine xiast E hs hQ 17 (by decide) c5 (ib_in b21 (by decide) (by decide)) dX0_addAct_16 (fun H locs S22 eS22 hQ => ?_)
    have hI := invX_up_17 hI eS22 ⟨_, rfl⟩
    have c23 : S22 17 = .inl (g.2 0, 40, .inl (upd f4 (v1 : Int32).toNatClampNeg a1)) := up_at eS22 rfl
    refine lv_aload_n hx hb dX0_addAct_17 rfl (lv_at hl 0 rfl) ?_
    have c24 : S22 16 = .inr (0, [.int v1, .ref (ad 17), .ref (ad 18), .ref (ad 19)]) := (up_ne eS22 (by decide) c3)
    refine xget E hQ 16 (by decide) c24 rfl 2 (by decide) q222 rfl dX0_addAct_18 ?_
    refine lv_aload_n hx hb dX0_addAct_21 rfl (lv_at hl 0 rfl) ?_
    refine xget E hQ 16 (by decide) c24 rfl 0 (by decide) q215 rfl dX0_addAct_22 ?_
    refine lv_iload_n hx hb dX0_addAct_25 rfl (lv_at hl 2 rfl) ?_
    have c25 : S22 18 = .inl (g.2 0, 40, .inl f7) := (up_ne eS22 (by decide) c8)
    refine xiast E hs hQ 18 (by decide) c25 (ib_in b21 (by decide) (by decide)) dX0_addAct_26 (fun H locs S26 eS26 hQ => ?_)
    have hI := invX_up_18 hI eS26 ⟨_, rfl, upd_b b9 ba2⟩
    have b28 : ∀ j, Bd ((upd f7 (v1 : Int32).toNatClampNeg a2) j) (0) (7) := upd_b b9 ba2
    have c27 : S26 18 = .inl (g.2 0, 40, .inl (upd f7 (v1 : Int32).toNatClampNeg a2)) := up_at eS26 rfl
    refine lv_aload_n hx hb dX0_addAct_27 rfl (lv_at hl 0 rfl) ?_
    have c29 : S26 16 = .inr (0, [.int v1, .ref (ad 17), .ref (ad 18), .ref (ad 19)]) := (up_ne eS26 (by decide) c24)
    refine xget E hQ 16 (by decide) c29 rfl 3 (by decide) q224 rfl dX0_addAct_28 ?_
    refine lv_aload_n hx hb dX0_addAct_31 rfl (lv_at hl 0 rfl) ?_
    refine xget E hQ 16 (by decide) c29 rfl 0 (by decide) q215 rfl dX0_addAct_32 ?_
    refine lv_iload_n hx hb dX0_addAct_35 rfl (lv_at hl 3 rfl) ?_
    have c30 : S26 19 = .inl (g.2 0, 40, .inl f10) := (up_ne eS26 (by decide) (up_ne eS22 (by decide) c11))
    refine xiast E hs hQ 19 (by decide) c30 (ib_in b21 (by decide) (by decide)) dX0_addAct_36 (fun H locs S31 eS31 hQ => ?_)
    have hI := invX_up_19 hI eS31 ⟨_, rfl, upd_b b12 ba3⟩
    have b33 : ∀ j, Bd ((upd f10 (v1 : Int32).toNatClampNeg a3) j) (0) (400) := upd_b b12 ba3
    have c32 : S31 19 = .inl (g.2 0, 40, .inl (upd f10 (v1 : Int32).toNatClampNeg a3)) := up_at eS31 rfl
    refine lv_aload_n hx hb dX0_addAct_37 rfl (lv_at hl 0 rfl) ?_
    refine lv_dup hx hb dX0_addAct_38 rfl ?_
    have c34 : S31 16 = .inr (0, [.int v1, .ref (ad 17), .ref (ad 18), .ref (ad 19)]) := (up_ne eS31 (by decide) c29)
    refine xget E hQ 16 (by decide) c34 rfl 0 (by decide) q215 rfl dX0_addAct_39 ?_
    refine lv_iconst (v := 1) hx hb dX0_addAct_42 (by decide) ?_
    refine lv_iadd hx hb dX0_addAct_43 ?_
    refine lv_topi (fun z35 e36 => ?_)
    have t37 := ib_add e36 b21 (by decide : Bd 1 (1) (1)) (by decide) (by decide)
    have b38 : Bd z35 (1) (40) := ib_addb t37 b21 (by decide : Bd 1 (1) (1))
    have t37 : z35.toInt = v1.toInt + 1 := fold_add t37 rfl (by decide)
    refine xputi E hs hQ 16 (by decide) c34 rfl 0 (by decide) q215 rfl rfl (Nat.le_of_ble_eq_true rfl) dX0_addAct_44 (fun H locs S39 eS39 hQ => ?_)
    have hI := invX_up_16 hI eS39 ⟨z35, rfl, (ib_wk b38 (by decide) (by decide))⟩
    have c40 : S39 16 = .inr (0, [.int z35, .ref (ad 17), .ref (ad 18), .ref (ad 19)]) := up_at eS39 rfl
    have c41 : S39 17 = .inl (g.2 0, 40, .inl (upd f4 (v1 : Int32).toNatClampNeg a1)) := (up_ne eS39 (by decide) (up_ne eS31 (by decide) (up_ne eS26 (by decide) c23)))
    have c42 : S39 18 = .inl (g.2 0, 40, .inl (upd f7 (v1 : Int32).toNatClampNeg a2)) := (up_ne eS39 (by decide) (up_ne eS31 (by decide) c27))
    have c43 : S39 19 = .inl (g.2 0, 40, .inl (upd f10 (v1 : Int32).toNatClampNeg a3)) := (up_ne eS39 (by decide) c32)
    exact xrv E hr hlk hQ (⟨hI, (up_o (up_o (up_o (up_o o_refl eS22 (by decide)) eS26 (by decide)) eS31 (by decide)) eS39 (by decide)), (ar_add c3 rfl c5 c8 c11 hAR2 (b21).1 hw c40 rfl c41 c42 c43 (by omega))⟩) dX0_addAct_47
set_option maxHeartbeats 4000000 in
set_option maxRecDepth 100000 in
theorem gX0_addSit_16 (l : Launch) (g : GG) (ad : Nat → Nat) (hD : Dj ad 122) (S : SS) (hI : InvX g ad S) (a1 : Int32) (a2 : Int32) (ba1 : Bd a1 (0) (2)) (ba2 : Bd a2 (0) (11)) (hAR2 : ARp (S 16) (S 17) (S 18) (S 19)) : Met l yX0_addSit (wG (.code yX0_addSit cX0_addSit 3 none)) (Rm 2) (XPre g ad 122 S [.ref (ad 16), .int a1, .int a2]) (va_Qv (fun S' => InvX g ad S' ∧ (∀ j, j ∉ ([16, 17, 18, 19] : List Nat) → S' j = S j) ∧ (ARp (S' 16) (S' 17) (S' 18) (S' 19))) (QB g ad 122) (FA ad 122)) 0 0 (FA ad 122) := by
  refine xmet cX0_addSit "EbbWreck$Acts" (by decide) rfl (Nat.le_of_ble_eq_true rfl) (fun p e s m below meth c E hr hlk hml hQ ls hl => ?_)
  have hx := E.1
  have hb := E.2.1
  have hs : Sp ad 122 (FA ad 122) := Sp.fa hD
  have hl : lv_has ls 3 [(0, .ref (ad 16)), (1, .int a1), (2, .int a2)] := hl
  obtain ⟨v1, c3, b2⟩ := invX_16 hI
  have c3 : S 16 = .inr (0, [.int v1, .ref (ad 17), .ref (ad 18), .ref (ad 19)]) := c3
  obtain ⟨f4, c5⟩ := invX_17 hI
  obtain ⟨f7, c8, b9⟩ := invX_18 hI
  obtain ⟨f10, c11, b12⟩ := invX_19 hI
  refine lv_aload_n hx hb dX0_addSit_0 rfl (lv_at hl 0 rfl) ?_
  refine lv_iconst (v := 0) hx hb dX0_addSit_1 (by decide) ?_
  refine lv_iload_n hx hb dX0_addSit_2 rfl (lv_at hl 1 rfl) ?_
  refine lv_iload_n hx hb dX0_addSit_3 rfl (lv_at hl 2 rfl) ?_
  refine xcVv E hs hQ hml hl.1 16 (gX0_addAct_16 l g ad hD S hI 0 a1 a2 (ib_wk ba1 (by decide) (by decide)) (ib_wk ba2 (by decide) (by decide)) hAR2 (fun _ => ⟨by omega, by omega⟩)) mX0_addAct q1353 (by decide) c3 rfl rfl ⟨(Nat.le_of_ble_eq_true rfl), (Nat.le_of_ble_eq_true rfl)⟩ ⟨(Nat.le_of_ble_eq_true rfl), (Nat.le_of_ble_eq_true rfl)⟩ (Nat.le_of_ble_eq_true rfl) rfl dX0_addSit_4 (fun S13 H locs hp13 hQ _ => ?_)
  obtain ⟨hI, o13, u13_0⟩ := hp13
  exact xrv E hr hlk hQ (⟨hI, (o_trans o_refl o13 (by decide)), u13_0⟩) dX0_addSit_7
set_option maxHeartbeats 4000000 in
set_option maxRecDepth 100000 in
theorem gX0_addPush_16 (l : Launch) (g : GG) (ad : Nat → Nat) (hD : Dj ad 122) (S : SS) (hI : InvX g ad S) (a1 : Int32) (a2 : Int32) (a3 : Int32) (ba1 : Bd a1 (0) (7)) (ba2 : Bd a2 (0) (400)) (ba3 : Bd a3 (-1) (1)) (hAR2 : ARp (S 16) (S 17) (S 18) (S 19)) (hw0 : a3.toInt ≠ 0) : Met l yX0_addPush (wG (.code yX0_addPush cX0_addPush 4 none)) (Rm 2) (XPre g ad 122 S [.ref (ad 16), .int a1, .int a2, .int a3]) (va_Qv (fun S' => InvX g ad S' ∧ (∀ j, j ∉ ([16, 17, 18, 19] : List Nat) → S' j = S j) ∧ (ARp (S' 16) (S' 17) (S' 18) (S' 19))) (QB g ad 122) (FA ad 122)) 0 0 (FA ad 122) := by
  refine xmet cX0_addPush "EbbWreck$Acts" (by decide) rfl (Nat.le_of_ble_eq_true rfl) (fun p e s m below meth c E hr hlk hml hQ ls hl => ?_)
  have hx := E.1
  have hb := E.2.1
  have hs : Sp ad 122 (FA ad 122) := Sp.fa hD
  have hl : lv_has ls 4 [(0, .ref (ad 16)), (1, .int a1), (2, .int a2), (3, .int a3)] := hl
  obtain ⟨v1, c3, b2⟩ := invX_16 hI
  have c3 : S 16 = .inr (0, [.int v1, .ref (ad 17), .ref (ad 18), .ref (ad 19)]) := c3
  obtain ⟨f4, c5⟩ := invX_17 hI
  obtain ⟨f7, c8, b9⟩ := invX_18 hI
  obtain ⟨f10, c11, b12⟩ := invX_19 hI
  refine lv_aload_n hx hb dX0_addPush_0 rfl (lv_at hl 0 rfl) ?_
  refine lv_iload_n hx hb dX0_addPush_1 rfl (lv_at hl 3 rfl) ?_
  refine lv_iload_n hx hb dX0_addPush_2 rfl (lv_at hl 1 rfl) ?_
  refine lv_iload_n hx hb dX0_addPush_3 rfl (lv_at hl 2 rfl) ?_
  refine xcVv E hs hQ hml hl.1 16 (gX0_addAct_16 l g ad hD S hI a3 a1 a2 ba1 ba2 hAR2 (fun h => absurd h hw0)) mX0_addAct q1353 (by decide) c3 rfl rfl ⟨(Nat.le_of_ble_eq_true rfl), (Nat.le_of_ble_eq_true rfl)⟩ ⟨(Nat.le_of_ble_eq_true rfl), (Nat.le_of_ble_eq_true rfl)⟩ (Nat.le_of_ble_eq_true rfl) rfl dX0_addPush_4 (fun S13 H locs hp13 hQ _ => ?_)
  obtain ⟨hI, o13, u13_0⟩ := hp13
  exact xrv E hr hlk hQ (⟨hI, (o_trans o_refl o13 (by decide)), u13_0⟩) dX0_addPush_7
set_option maxHeartbeats 4000000 in
set_option maxRecDepth 100000 in
theorem gX1_takeBack_2 (l : Launch) (g : GG) (ad : Nat → Nat) (hD : Dj ad 122) (S : SS) (hI : InvX g ad S) (hAR2 : ARp (S 16) (S 17) (S 18) (S 19)) : Met l yX1_takeBack (wG (.code yX1_takeBack cX1_takeBack 2 (some .int))) (Rm 0) (XPre g ad 122 S [.ref (ad 2)]) (va_Qi (fun r S' => InvX g ad S' ∧ (∀ j, j ∉ ([15, 16] : List Nat) → S' j = S j) ∧ Bd r (-1) (7) ∧ (ARp (S' 16) (S' 17) (S' 18) (S' 19))) (QB g ad 122) (FA ad 122)) 0 0 (FA ad 122) := by
  refine xmet cX1_takeBack "EbbWreck$Coast" (by decide) rfl (Nat.le_of_ble_eq_true rfl) (fun p e s m below meth c E hr hlk hml hQ ls hl => ?_)
  have hx := E.1
  have hb := E.2.1
  have hs : Sp ad 122 (FA ad 122) := Sp.fa hD
  have hl : lv_has ls 2 [(0, .ref (ad 2))] := hl
  obtain ⟨v1, c3, b2⟩ := invX_16 hI
  have c3 : S 16 = .inr (0, [.int v1, .ref (ad 17), .ref (ad 18), .ref (ad 19)]) := c3
  obtain ⟨f4, c5⟩ := invX_17 hI
  obtain ⟨f7, c8, b9⟩ := invX_18 hI
  obtain ⟨f10, c11, b12⟩ := invX_19 hI
  refine lv_aload_n hx hb dX1_takeBack_0 rfl (lv_at hl 0 rfl) ?_
  obtain ⟨v13, v15, v17, v18, v19, v21, c23, b14, b16, b20, b22⟩ := invX_2 hI
  have c23 : S 2 = .inr (1, [.int v13, .int v15, .int v17, .ref (ad 3), .ref (ad 5), .ref (ad 6), .int v18, .int v19, .ref (ad 7), .ref (ad 8), .ref (ad 9), .ref (ad 10), .int v21, .ref (ad 15), .ref (ad 16)]) := c23
  refine xget E hQ 2 (by decide) c23 rfl 14 (by decide) q301 rfl dX1_takeBack_1 ?_
  refine xget E hQ 16 (by decide) c3 rfl 0 (by decide) q216 rfl dX1_takeBack_4 ?_
  refine lv_iconst (v := 1) hx hb dX1_takeBack_7 (by decide) ?_
  refine lv_icmp_ge (tgt := 13) hx hb dX1_takeBack_8 (by decide) (fun k24 => ?_) (fun k24 => ?_)
  · have h25 := ib_le k24
    have b26 : Bd v1 (1) (40) := ⟨((rf_le (by decide : Bd 1 (1) (1)) b2 h25).2).1, (b2).2⟩
    refine lv_aload_n hx hb dX1_takeBack_13 rfl (lv_at hl 0 rfl) ?_
    refine xget E hQ 2 (by decide) c23 rfl 14 (by decide) q301 rfl dX1_takeBack_14 ?_
    refine lv_dup hx hb dX1_takeBack_17 rfl ?_
    refine xget E hQ 16 (by decide) c3 rfl 0 (by decide) q216 rfl dX1_takeBack_18 ?_
    refine lv_iconst (v := 1) hx hb dX1_takeBack_21 (by decide) ?_
    refine lv_isub hx hb dX1_takeBack_22 ?_
    refine lv_topi (fun z27 e28 => ?_)
    have t29 := ib_sub e28 b26 (by decide : Bd 1 (1) (1)) (by decide) (by decide)
    have b30 : Bd z27 (0) (39) := ib_subb t29 b26 (by decide : Bd 1 (1) (1))
    have t29 : z27.toInt = v1.toInt - 1 := fold_sub t29 rfl (by decide)
    refine xputi E hs hQ 16 (by decide) c3 rfl 0 (by decide) q216 rfl rfl (Nat.le_of_ble_eq_true rfl) dX1_takeBack_23 (fun H locs S31 eS31 hQ => ?_)
    have hI := invX_up_16 hI eS31 ⟨z27, rfl, (ib_wk b30 (by decide) (by decide))⟩
    have c32 : S31 16 = .inr (0, [.int z27, .ref (ad 17), .ref (ad 18), .ref (ad 19)]) := up_at eS31 rfl
    refine lv_aload_n hx hb dX1_takeBack_26 rfl (lv_at hl 0 rfl) ?_
    have c33 : S31 2 = .inr (1, [.int v13, .int v15, .int v17, .ref (ad 3), .ref (ad 5), .ref (ad 6), .int v18, .int v19, .ref (ad 7), .ref (ad 8), .ref (ad 9), .ref (ad 10), .int v21, .ref (ad 15), .ref (ad 16)]) := (up_ne eS31 (by decide) c23)
    refine xget E hQ 2 (by decide) c33 rfl 14 (by decide) q301 rfl dX1_takeBack_27 ?_
    refine xget E hQ 16 (by decide) c32 rfl 2 (by decide) q223 rfl dX1_takeBack_30 ?_
    refine lv_aload_n hx hb dX1_takeBack_33 rfl (lv_at hl 0 rfl) ?_
    refine xget E hQ 2 (by decide) c33 rfl 14 (by decide) q301 rfl dX1_takeBack_34 ?_
    refine xget E hQ 16 (by decide) c32 rfl 0 (by decide) q216 rfl dX1_takeBack_37 ?_
    have c34 : S31 18 = .inl (g.2 0, 40, .inl f7) := (up_ne eS31 (by decide) c8)
    refine xiald E hQ 18 (by decide) c34 (ib_in b30 (by decide) (by decide)) dX1_takeBack_40 ?_
    refine lv_topi (fun z35 e36 => ?_)
    have b37 : Bd z35 (0) (7) := (by rw [e36]; exact b9 _)
    refine lv_istore_n (lv' := [(1, .int z35), (0, .ref (ad 2))]) hx hb dX1_takeBack_41 rfl hl (by decide) rfl (fun ls hl => ?_)
    refine lv_aload_n hx hb dX1_takeBack_42 rfl (lv_at hl 1 rfl) ?_
    refine xget E hQ 2 (by decide) c33 rfl 14 (by decide) q301 rfl dX1_takeBack_43 ?_
    refine xget E hQ 16 (by decide) c32 rfl 1 (by decide) q221 rfl dX1_takeBack_46 ?_
    refine lv_aload_n hx hb dX1_takeBack_49 rfl (lv_at hl 1 rfl) ?_
    refine xget E hQ 2 (by decide) c33 rfl 14 (by decide) q301 rfl dX1_takeBack_50 ?_
    refine xget E hQ 16 (by decide) c32 rfl 0 (by decide) q216 rfl dX1_takeBack_53 ?_
    have c38 : S31 17 = .inl (g.2 0, 40, .inl f4) := (up_ne eS31 (by decide) c5)
    refine xiald E hQ 17 (by decide) c38 (ib_in b30 (by decide) (by decide)) dX1_takeBack_56 ?_
    refine lv_topi (fun z39 e40 => ?_)
    refine lv_if_eq (tgt := 62) hx hb dX1_takeBack_57 (by decide) (fun k41 => ?_) (fun k41 => ?_)
    · have h42 := ib_eq k41
      have b43 : Bd z39 (0) (0) := ⟨((rf_eq (ib_full z39) (by decide : Bd 0 (0) (0)) h42).1).1, ((rf_eq (ib_full z39) (by decide : Bd 0 (0) (0)) h42).1).2⟩
      refine lv_aload_n hx hb dX1_takeBack_62 rfl (lv_at hl 1 rfl) ?_
      refine xget E hQ 2 (by decide) c33 rfl 13 (by decide) q297 rfl dX1_takeBack_63 ?_
      refine lv_iload_n hx hb dX1_takeBack_66 rfl (lv_at hl 0 rfl) ?_
      refine lv_aload_n hx hb dX1_takeBack_67 rfl (lv_at hl 1 rfl) ?_
      refine xget E hQ 2 (by decide) c33 rfl 14 (by decide) q301 rfl dX1_takeBack_68 ?_
      refine xget E hQ 16 (by decide) c32 rfl 3 (by decide) q226 rfl dX1_takeBack_71 ?_
      refine lv_aload_n hx hb dX1_takeBack_74 rfl (lv_at hl 1 rfl) ?_
      refine xget E hQ 2 (by decide) c33 rfl 14 (by decide) q301 rfl dX1_takeBack_75 ?_
      refine xget E hQ 16 (by decide) c32 rfl 0 (by decide) q216 rfl dX1_takeBack_78 ?_
      have c44 : S31 19 = .inl (g.2 0, 40, .inl f10) := (up_ne eS31 (by decide) c11)
      refine xiald E hQ 19 (by decide) c44 (ib_in b30 (by decide) (by decide)) dX1_takeBack_81 ?_
      refine lv_topi (fun z45 e46 => ?_)
      have ar47 := ar_at hAR2 c3 rfl c5 c8 c11 (z := z27) (by omega) (by omega) e40 (by omega) e36
      have b48 : Bd z35 (0) (2) := ⟨(b37).1, ar47.1⟩
      have b49 : Bd z45 (0) (11) := ⟨(by rw [e46]; exact (b12 _).1), (by rw [e46]; exact ar47.2)⟩
      obtain ⟨f50, c51, b52⟩ := invX_15 hI
      refine xiast E hs hQ 15 (by decide) c51 (ib_in b48 (by decide) (by decide)) dX1_takeBack_82 (fun H locs S53 eS53 hQ => ?_)
      have hI := invX_up_15 hI eS53 ⟨_, rfl, upd_b b52 b49⟩
      have b55 : ∀ j, Bd ((upd f50 (z35 : Int32).toNatClampNeg z45) j) (0) (11) := upd_b b52 b49
      have c54 : S53 15 = .inl (g.2 0, 3, .inl (upd f50 (z35 : Int32).toNatClampNeg z45)) := up_at eS53 rfl
      refine lv_iconst (v := (-1)) hx hb dX1_takeBack_83 (by decide) ?_
      have c56 : S53 16 = .inr (0, [.int z27, .ref (ad 17), .ref (ad 18), .ref (ad 19)]) := (up_ne eS53 (by decide) c32)
      exact xri E hr hlk hQ (⟨hI, (up_o (up_o o_refl eS31 (by decide)) eS53 (by decide)), (ib_wk (by decide : Bd (-1) (-1) (-1)) (by decide) (by decide)), (ar_dec hAR2 (by rw [fld_of c56 rfl, fld_of c3 rfl]; omega) ((up_eq (j := 17) eS53 (by decide)).trans (up_eq (j := 17) eS31 (by decide))) ((up_eq (j := 18) eS53 (by decide)).trans (up_eq (j := 18) eS31 (by decide))) ((up_eq (j := 19) eS53 (by decide)).trans (up_eq (j := 19) eS31 (by decide))))⟩) dX1_takeBack_84
    · have h57 := ib_ne k41
      refine lv_iload_n hx hb dX1_takeBack_60 rfl (lv_at hl 0 rfl) ?_
      exact xri E hr hlk hQ (⟨hI, (up_o o_refl eS31 (by decide)), (ib_wk b37 (by decide) (by decide)), (ar_dec hAR2 (by rw [fld_of c32 rfl, fld_of c3 rfl]; omega) (up_eq (j := 17) eS31 (by decide)) (up_eq (j := 18) eS31 (by decide)) (up_eq (j := 19) eS31 (by decide)))⟩) dX1_takeBack_61
  · have h58 := ib_nle k24
    have b59 : Bd v1 (0) (0) := ⟨(b2).1, ((rf_lt b2 (by decide : Bd 1 (1) (1)) h58).1).2⟩
    refine lv_iconst (v := (-1)) hx hb dX1_takeBack_11 (by decide) ?_
    exact xri E hr hlk hQ (⟨hI, o_refl, (ib_wk (by decide : Bd (-1) (-1) (-1)) (by decide) (by decide)), hAR2⟩) dX1_takeBack_12
set_option maxHeartbeats 4000000 in
set_option maxRecDepth 100000 in
theorem gX11_sit_0 (l : Launch) (g : GG) (ad : Nat → Nat) (hD : Dj ad 122) (S : SS) (hI : InvX g ad S) (a1 : Int32) (a2 : Int32) (hq1 : 0 ≤ 1201 * fld (S 2) 1 + (-1) * fld (S 2) 0) (hq2 : 0 ≤ 8 * fld (S 2) 1 + (-1) * fld (S 2) 7) (hq3 : 0 ≤ 3 * fld (S 2) 1 + (-1) * fld (S 2) 12) (hAR2 : ARp (S 16) (S 17) (S 18) (S 19)) : Met l yX11_sit (wG (.code yX11_sit cX11_sit 4 (some .int))) (Rm 3) (XPre g ad 122 S [.ref (ad 0), .int a1, .int a2]) (va_Qi (fun r S' => InvX g ad S' ∧ (∀ j, j ∉ ([15, 16, 17, 18, 19] : List Nat) → S' j = S j) ∧ Bd r (-5) (11) ∧ (ARp (S' 16) (S' 17) (S' 18) (S' 19))) (QB g ad 122) (FA ad 122)) 0 0 (FA ad 122) := by
  refine xmet cX11_sit "EbbWreck" (by decide) rfl (Nat.le_of_ble_eq_true rfl) (fun p e s m below meth c E hr hlk hml hQ ls hl => ?_)
  have hx := E.1
  have hb := E.2.1
  have hs : Sp ad 122 (FA ad 122) := Sp.fa hD
  have hl : lv_has ls 4 [(0, .ref (ad 0)), (1, .int a1), (2, .int a2)] := hl
  obtain ⟨v1, v3, v5, v6, v7, v9, c11, b2, b4, b8, b10⟩ := invX_2 hI
  have c11 : S 2 = .inr (1, [.int v1, .int v3, .int v5, .ref (ad 3), .ref (ad 5), .ref (ad 6), .int v6, .int v7, .ref (ad 7), .ref (ad 8), .ref (ad 9), .ref (ad 10), .int v9, .ref (ad 15), .ref (ad 16)]) := c11
  have q12 : fld (S 2) 1 = v3.toInt := fld_of c11 rfl
  have q13 : fld (S 2) 0 = v1.toInt := fld_of c11 rfl
  have q14 : fld (S 2) 7 = v7.toInt := fld_of c11 rfl
  have q15 : fld (S 2) 12 = v9.toInt := fld_of c11 rfl
  obtain ⟨v16, c18, b17⟩ := invX_16 hI
  have c18 : S 16 = .inr (0, [.int v16, .ref (ad 17), .ref (ad 18), .ref (ad 19)]) := c18
  obtain ⟨f19, c20⟩ := invX_17 hI
  obtain ⟨f22, c23, b24⟩ := invX_18 hI
  obtain ⟨f25, c26, b27⟩ := invX_19 hI
  refine lv_aload_n hx hb dX11_sit_0 rfl (lv_at hl 0 rfl) ?_
  obtain ⟨v28, v30, v31, c32, b29⟩ := invX_0 hI
  have c32 : S 0 = .inr (11, [.ref (ad 1), .int v28, .int v30, .int v31, .ref (ad 2), .ref (ad 20), .ref (ad 38), .ref (ad 93), .ref (ad 94), .ref (ad 95), .ref (ad 102), .ref (ad 104), .ref (ad 107), .ref (ad 111), .ref (ad 119)]) := c32
  refine xget E hQ 0 (by decide) c32 rfl 4 (by decide) q520 rfl dX11_sit_1 ?_
  refine lv_iload_n hx hb dX11_sit_4 rfl (lv_at hl 1 rfl) ?_
  refine xcVi E hs hQ hml hl.1 2 (gX1_hasSitter_2 l g ad hD S hI a1) mX1_hasSitter q848 (by decide) c11 rfl rfl ⟨(Nat.le_of_ble_eq_true rfl), (Nat.le_of_ble_eq_true rfl)⟩ ⟨(Nat.le_of_ble_eq_true rfl), (Nat.le_of_ble_eq_true rfl)⟩ (Nat.le_of_ble_eq_true rfl) rfl dX11_sit_5 (fun r33 S33 H locs hp33 hQ _ => ?_)
  obtain ⟨rfl, b33, g33_0⟩ := hp33
  refine lv_if_eq (tgt := 22) hx hb dX11_sit_8 (by decide) (fun k34 => ?_) (fun k34 => ?_)
  · have h35 := ib_eq k34
    have b36 : Bd r33 (0) (0) := ⟨(b33).1, ((rf_eq b33 (by decide : Bd 0 (0) (0)) h35).1).2⟩
    clear g33_0
    refine lv_bipush (v := (-2)) hx hb dX11_sit_22 (by decide) ?_
    exact xri E hr hlk hQ (⟨hI, o_refl, (ib_wk (by decide : Bd (-2) (-2) (-2)) (by decide) (by decide)), hAR2⟩) dX11_sit_24
  · have h37 := ib_ne k34
    have b38 : Bd r33 (1) (1) := rf_nlo b33 (by decide : Bd 0 (0) (0)) h37
    have g39 := g33_0.resolve_left (by omega)
    clear g33_0
    have b40 : Bd a1 (0) (2) := ⟨by omega, by omega⟩
    have b41 : Bd v9 (1) (3) := ⟨by omega, by omega⟩
    refine lv_aload_n hx hb dX11_sit_11 rfl (lv_at hl 0 rfl) ?_
    refine xget E hQ 0 (by decide) c32 rfl 4 (by decide) q520 rfl dX11_sit_12 ?_
    refine lv_iload_n hx hb dX11_sit_15 rfl (lv_at hl 2 rfl) ?_
    refine xcVi E hs hQ hml hl.1 2 (gX1_hasCell_2 l g ad hD S hI a2) mX1_hasCell q823 (by decide) c11 rfl rfl ⟨(Nat.le_of_ble_eq_true rfl), (Nat.le_of_ble_eq_true rfl)⟩ ⟨(Nat.le_of_ble_eq_true rfl), (Nat.le_of_ble_eq_true rfl)⟩ (Nat.le_of_ble_eq_true rfl) rfl dX11_sit_16 (fun r42 S42 H locs hp42 hQ _ => ?_)
    obtain ⟨rfl, b42, g42_0⟩ := hp42
    refine lv_if_ne (tgt := 25) hx hb dX11_sit_19 (by decide) (fun k43 => ?_) (fun k43 => ?_)
    · have h44 := ib_ne k43
      have b45 : Bd r42 (1) (1) := rf_nlo b42 (by decide : Bd 0 (0) (0)) h44
      have g46 := g42_0.resolve_left (by omega)
      clear g42_0
      have b47 : Bd a2 (0) (11) := ⟨by omega, by omega⟩
      have b48 : Bd v3 (1) (12) := ⟨by omega, by omega⟩
      refine lv_aload_n hx hb dX11_sit_25 rfl (lv_at hl 0 rfl) ?_
      refine xget E hQ 0 (by decide) c32 rfl 4 (by decide) q520 rfl dX11_sit_26 ?_
      refine xget E hQ 2 (by decide) c11 rfl 14 (by decide) q303 rfl dX11_sit_29 ?_
      refine xcVi E hs hQ hml hl.1 16 (gX0_isFull_16 l g ad hD S hI ) mX0_isFull q1345 (by decide) c18 rfl rfl ⟨(Nat.le_of_ble_eq_true rfl), (Nat.le_of_ble_eq_true rfl)⟩ ⟨(Nat.le_of_ble_eq_true rfl), (Nat.le_of_ble_eq_true rfl)⟩ (Nat.le_of_ble_eq_true rfl) rfl dX11_sit_32 (fun r49 S49 H locs hp49 hQ _ => ?_)
      obtain ⟨rfl, b49, g49_0⟩ := hp49
      have q50 : fld (S 16) 0 = v16.toInt := fld_of c18 rfl
      refine lv_if_eq (tgt := 41) hx hb dX11_sit_35 (by decide) (fun k51 => ?_) (fun k51 => ?_)
      · have h52 := ib_eq k51
        have b53 : Bd r49 (0) (0) := ⟨(b49).1, ((rf_eq b49 (by decide : Bd 0 (0) (0)) h52).1).2⟩
        have g54 := g49_0.resolve_left (by omega)
        clear g49_0
        have b55 : Bd v16 (0) (39) := ⟨by omega, by omega⟩
        refine lv_aload_n hx hb dX11_sit_41 rfl (lv_at hl 0 rfl) ?_
        refine xget E hQ 0 (by decide) c32 rfl 4 (by decide) q520 rfl dX11_sit_42 ?_
        refine xget E hQ 2 (by decide) c11 rfl 13 (by decide) q299 rfl dX11_sit_45 ?_
        refine lv_iload_n hx hb dX11_sit_48 rfl (lv_at hl 1 rfl) ?_
        obtain ⟨f56, c57, b58⟩ := invX_15 hI
        refine xiald E hQ 15 (by decide) c57 (ib_in b40 (by decide) (by decide)) dX11_sit_49 ?_
        refine lv_topi (fun z59 e60 => ?_)
        have b61 : Bd z59 (0) (11) := (by rw [e60]; exact b58 _)
        refine lv_istore_n (lv' := [(3, .int z59), (0, .ref (ad 0)), (1, .int a1), (2, .int a2)]) hx hb dX11_sit_50 rfl hl (by decide) rfl (fun ls hl => ?_)
        refine lv_aload_n hx hb dX11_sit_51 rfl (lv_at hl 1 rfl) ?_
        refine xget E hQ 0 (by decide) c32 rfl 4 (by decide) q520 rfl dX11_sit_52 ?_
        refine xget E hQ 2 (by decide) c11 rfl 14 (by decide) q303 rfl dX11_sit_55 ?_
        refine lv_iload_n hx hb dX11_sit_58 rfl (lv_at hl 2 rfl) ?_
        refine lv_iload_n hx hb dX11_sit_59 rfl (lv_at hl 0 rfl) ?_
        refine xcVv E hs hQ hml hl.1 16 (gX0_addSit_16 l g ad hD S hI a1 z59 b40 b61 hAR2) mX0_addSit q1349 (by decide) c18 rfl rfl ⟨(Nat.le_of_ble_eq_true rfl), (Nat.le_of_ble_eq_true rfl)⟩ ⟨(Nat.le_of_ble_eq_true rfl), (Nat.le_of_ble_eq_true rfl)⟩ (Nat.le_of_ble_eq_true rfl) rfl dX11_sit_60 (fun S62 H locs hp62 hQ _ => ?_)
        obtain ⟨hI, o62, u62_0⟩ := hp62
        refine lv_aload_n hx hb dX11_sit_63 rfl (lv_at hl 1 rfl) ?_
        have c63 : S62 0 = .inr (11, [.ref (ad 1), .int v28, .int v30, .int v31, .ref (ad 2), .ref (ad 20), .ref (ad 38), .ref (ad 93), .ref (ad 94), .ref (ad 95), .ref (ad 102), .ref (ad 104), .ref (ad 107), .ref (ad 111), .ref (ad 119)]) := ((o62 0 (by decide)).trans c32)
        refine xget E hQ 0 (by decide) c63 rfl 4 (by decide) q520 rfl dX11_sit_64 ?_
        have c64 : S62 2 = .inr (1, [.int v1, .int v3, .int v5, .ref (ad 3), .ref (ad 5), .ref (ad 6), .int v6, .int v7, .ref (ad 7), .ref (ad 8), .ref (ad 9), .ref (ad 10), .int v9, .ref (ad 15), .ref (ad 16)]) := ((o62 2 (by decide)).trans c11)
        refine xget E hQ 2 (by decide) c64 rfl 13 (by decide) q299 rfl dX11_sit_67 ?_
        refine lv_iload_n hx hb dX11_sit_70 rfl (lv_at hl 2 rfl) ?_
        refine lv_iload_n hx hb dX11_sit_71 rfl (lv_at hl 3 rfl) ?_
        have c65 : S62 15 = .inl (g.2 0, 3, .inl f56) := ((o62 15 (by decide)).trans c57)
        refine xiast E hs hQ 15 (by decide) c65 (ib_in b40 (by decide) (by decide)) dX11_sit_72 (fun H locs S66 eS66 hQ => ?_)
        have hI := invX_up_15 hI eS66 ⟨_, rfl, upd_b b58 b47⟩
        have b68 : ∀ j, Bd ((upd f56 (a1 : Int32).toNatClampNeg a2) j) (0) (11) := upd_b b58 b47
        have c67 : S66 15 = .inl (g.2 0, 3, .inl (upd f56 (a1 : Int32).toNatClampNeg a2)) := up_at eS66 rfl
        refine lv_iload_n hx hb dX11_sit_73 rfl (lv_at hl 0 rfl) ?_
        exact xri E hr hlk hQ (⟨hI, (up_o (o_trans o_refl o62 (by decide)) eS66 (by decide)), (ib_wk b61 (by decide) (by decide)), (ar_tr u62_0 (up_eq (j := 16) eS66 (by decide)) (up_eq (j := 17) eS66 (by decide)) (up_eq (j := 18) eS66 (by decide)) (up_eq (j := 19) eS66 (by decide)))⟩) dX11_sit_74
      · have h69 := ib_ne k51
        have b70 : Bd r49 (1) (1) := rf_nlo b49 (by decide : Bd 0 (0) (0)) h69
        clear g49_0
        refine lv_bipush (v := (-5)) hx hb dX11_sit_38 (by decide) ?_
        exact xri E hr hlk hQ (⟨hI, o_refl, (ib_wk (by decide : Bd (-5) (-5) (-5)) (by decide) (by decide)), hAR2⟩) dX11_sit_40
    · have h71 := ib_eq k43
      have b72 : Bd r42 (0) (0) := ⟨(b42).1, ((rf_eq b42 (by decide : Bd 0 (0) (0)) h71).1).2⟩
      clear g42_0
      refine lv_bipush (v := (-2)) hx hb dX11_sit_22 (by decide) ?_
      exact xri E hr hlk hQ (⟨hI, o_refl, (ib_wk (by decide : Bd (-2) (-2) (-2)) (by decide) (by decide)), hAR2⟩) dX11_sit_24
set_option maxHeartbeats 4000000 in
set_option maxRecDepth 100000 in
theorem gX11_shove_0 (l : Launch) (g : GG) (ad : Nat → Nat) (hD : Dj ad 122) (S : SS) (hI : InvX g ad S) (a1 : Int32) (a2 : Int32) (a3 : Int32) (hq1 : 0 ≤ 1201 * fld (S 2) 1 + (-1) * fld (S 2) 0) (hq2 : 0 ≤ 8 * fld (S 2) 1 + (-1) * fld (S 2) 7) (hq3 : 0 ≤ 3 * fld (S 2) 1 + (-1) * fld (S 2) 12) (hAR2 : ARp (S 16) (S 17) (S 18) (S 19)) : Met l yX11_shove (wG (.code yX11_shove cX11_shove 4 (some .int))) (Rm 5) (XPre g ad 122 S [.ref (ad 0), .int a1, .int a2, .int a3]) (va_Qi (fun _ S' => InvX g ad S' ∧ (∀ j, j ∉ ([16, 17, 18, 19, 95, 96, 97, 98] : List Nat) → S' j = S j) ∧ (ARp (S' 16) (S' 17) (S' 18) (S' 19))) (QB g ad 122) (FA ad 122)) 0 0 (FA ad 122) := by
  refine xmet cX11_shove "EbbWreck" (by decide) rfl (Nat.le_of_ble_eq_true rfl) (fun p e s m below meth c E hr hlk hml hQ ls hl => ?_)
  have hx := E.1
  have hb := E.2.1
  have hs : Sp ad 122 (FA ad 122) := Sp.fa hD
  have hl : lv_has ls 4 [(0, .ref (ad 0)), (1, .int a1), (2, .int a2), (3, .int a3)] := hl
  obtain ⟨v1, v3, v5, v6, v7, v9, c11, b2, b4, b8, b10⟩ := invX_2 hI
  have c11 : S 2 = .inr (1, [.int v1, .int v3, .int v5, .ref (ad 3), .ref (ad 5), .ref (ad 6), .int v6, .int v7, .ref (ad 7), .ref (ad 8), .ref (ad 9), .ref (ad 10), .int v9, .ref (ad 15), .ref (ad 16)]) := c11
  have q12 : fld (S 2) 1 = v3.toInt := fld_of c11 rfl
  have q13 : fld (S 2) 0 = v1.toInt := fld_of c11 rfl
  have q14 : fld (S 2) 7 = v7.toInt := fld_of c11 rfl
  have q15 : fld (S 2) 12 = v9.toInt := fld_of c11 rfl
  obtain ⟨v16, c18, b17⟩ := invX_16 hI
  have c18 : S 16 = .inr (0, [.int v16, .ref (ad 17), .ref (ad 18), .ref (ad 19)]) := c18
  obtain ⟨f19, c20⟩ := invX_17 hI
  obtain ⟨f22, c23, b24⟩ := invX_18 hI
  obtain ⟨f25, c26, b27⟩ := invX_19 hI
  refine lv_aload_n hx hb dX11_shove_0 rfl (lv_at hl 0 rfl) ?_
  obtain ⟨v28, v30, v31, c32, b29⟩ := invX_0 hI
  have c32 : S 0 = .inr (11, [.ref (ad 1), .int v28, .int v30, .int v31, .ref (ad 2), .ref (ad 20), .ref (ad 38), .ref (ad 93), .ref (ad 94), .ref (ad 95), .ref (ad 102), .ref (ad 104), .ref (ad 107), .ref (ad 111), .ref (ad 119)]) := c32
  refine xget E hQ 0 (by decide) c32 rfl 4 (by decide) q520 rfl dX11_shove_1 ?_
  refine lv_iload_n hx hb dX11_shove_4 rfl (lv_at hl 1 rfl) ?_
  refine xcVi E hs hQ hml hl.1 2 (gX1_hasThing_2 l g ad hD S hI a1) mX1_hasThing q832 (by decide) c11 rfl rfl ⟨(Nat.le_of_ble_eq_true rfl), (Nat.le_of_ble_eq_true rfl)⟩ ⟨(Nat.le_of_ble_eq_true rfl), (Nat.le_of_ble_eq_true rfl)⟩ (Nat.le_of_ble_eq_true rfl) rfl dX11_shove_5 (fun r33 S33 H locs hp33 hQ _ => ?_)
  obtain ⟨rfl, b33, g33_0⟩ := hp33
  refine lv_if_eq (tgt := 29) hx hb dX11_shove_8 (by decide) (fun k34 => ?_) (fun k34 => ?_)
  · have h35 := ib_eq k34
    have b36 : Bd r33 (0) (0) := ⟨(b33).1, ((rf_eq b33 (by decide : Bd 0 (0) (0)) h35).1).2⟩
    clear g33_0
    refine lv_bipush (v := (-2)) hx hb dX11_shove_29 (by decide) ?_
    exact xri E hr hlk hQ (⟨hI, o_refl, hAR2⟩) dX11_shove_31
  · have h37 := ib_ne k34
    have b38 : Bd r33 (1) (1) := rf_nlo b33 (by decide : Bd 0 (0) (0)) h37
    have g39 := g33_0.resolve_left (by omega)
    clear g33_0
    have b40 : Bd a1 (0) (7) := ⟨by omega, by omega⟩
    have b41 : Bd v7 (1) (8) := ⟨by omega, by omega⟩
    refine lv_iload_n hx hb dX11_shove_11 rfl (lv_at hl 2 rfl) ?_
    refine lv_sipush (v := 400) hx hb dX11_shove_12 (by decide) ?_
    refine xcSi E hs hQ hml hl.1 (gX11_isWithin l g ad hD S hI a2 400) mX11_isWithin q883 rfl ⟨(Nat.le_of_ble_eq_true rfl), (Nat.le_of_ble_eq_true rfl)⟩ ⟨(Nat.le_of_ble_eq_true rfl), (Nat.le_of_ble_eq_true rfl)⟩ (Nat.le_of_ble_eq_true rfl) rfl dX11_shove_15 (fun r42 S42 H locs hp42 hQ => ?_)
    obtain ⟨rfl, b42, g42_0⟩ := hp42
    have q43 : (400 : Int32).toInt = 400 := by decide
    refine lv_if_eq (tgt := 29) hx hb dX11_shove_18 (by decide) (fun k44 => ?_) (fun k44 => ?_)
    · have h45 := ib_eq k44
      have b46 : Bd r42 (0) (0) := ⟨(b42).1, ((rf_eq b42 (by decide : Bd 0 (0) (0)) h45).1).2⟩
      clear g42_0
      refine lv_bipush (v := (-2)) hx hb dX11_shove_29 (by decide) ?_
      exact xri E hr hlk hQ (⟨hI, o_refl, hAR2⟩) dX11_shove_31
    · have h47 := ib_ne k44
      have b48 : Bd r42 (1) (1) := rf_nlo b42 (by decide : Bd 0 (0) (0)) h47
      have g49 := g42_0.resolve_left (by omega)
      clear g42_0
      have b50 : Bd a2 (0) (400) := ⟨by omega, by omega⟩
      refine lv_iload_n hx hb dX11_shove_21 rfl (lv_at hl 3 rfl) ?_
      refine lv_iconst (v := 1) hx hb dX11_shove_22 (by decide) ?_
      refine xcSi E hs hQ hml hl.1 (gX11_isWithin l g ad hD S hI a3 1) mX11_isWithin q883 rfl ⟨(Nat.le_of_ble_eq_true rfl), (Nat.le_of_ble_eq_true rfl)⟩ ⟨(Nat.le_of_ble_eq_true rfl), (Nat.le_of_ble_eq_true rfl)⟩ (Nat.le_of_ble_eq_true rfl) rfl dX11_shove_23 (fun r51 S51 H locs hp51 hQ => ?_)
      obtain ⟨rfl, b51, g51_0⟩ := hp51
      have q52 : (1 : Int32).toInt = 1 := by decide
      refine lv_if_ne (tgt := 32) hx hb dX11_shove_26 (by decide) (fun k53 => ?_) (fun k53 => ?_)
      · have h54 := ib_ne k53
        have b55 : Bd r51 (1) (1) := rf_nlo b51 (by decide : Bd 0 (0) (0)) h54
        have g56 := g51_0.resolve_left (by omega)
        clear g51_0
        have b57 : Bd a3 (0) (1) := ⟨by omega, by omega⟩
        refine lv_aload_n hx hb dX11_shove_32 rfl (lv_at hl 0 rfl) ?_
        refine xget E hQ 0 (by decide) c32 rfl 4 (by decide) q520 rfl dX11_shove_33 ?_
        refine xget E hQ 2 (by decide) c11 rfl 14 (by decide) q303 rfl dX11_shove_36 ?_
        refine xcVi E hs hQ hml hl.1 16 (gX0_isFull_16 l g ad hD S hI ) mX0_isFull q1345 (by decide) c18 rfl rfl ⟨(Nat.le_of_ble_eq_true rfl), (Nat.le_of_ble_eq_true rfl)⟩ ⟨(Nat.le_of_ble_eq_true rfl), (Nat.le_of_ble_eq_true rfl)⟩ (Nat.le_of_ble_eq_true rfl) rfl dX11_shove_39 (fun r58 S58 H locs hp58 hQ _ => ?_)
        obtain ⟨rfl, b58, g58_0⟩ := hp58
        have q59 : fld (S 16) 0 = v16.toInt := fld_of c18 rfl
        refine lv_if_ne (tgt := 60) hx hb dX11_shove_42 (by decide) (fun k60 => ?_) (fun k60 => ?_)
        · have h61 := ib_ne k60
          have b62 : Bd r58 (1) (1) := rf_nlo b58 (by decide : Bd 0 (0) (0)) h61
          clear g58_0
          refine lv_bipush (v := (-5)) hx hb dX11_shove_60 (by decide) ?_
          exact xri E hr hlk hQ (⟨hI, o_refl, hAR2⟩) dX11_shove_62
        · have h63 := ib_eq k60
          have b64 : Bd r58 (0) (0) := ⟨(b58).1, ((rf_eq b58 (by decide : Bd 0 (0) (0)) h63).1).2⟩
          have g65 := g58_0.resolve_left (by omega)
          clear g58_0
          have b66 : Bd v16 (0) (39) := ⟨by omega, by omega⟩
          refine lv_aload_n hx hb dX11_shove_45 rfl (lv_at hl 0 rfl) ?_
          refine xget E hQ 0 (by decide) c32 rfl 4 (by decide) q520 rfl dX11_shove_46 ?_
          refine xget E hQ 2 (by decide) c11 rfl 14 (by decide) q303 rfl dX11_shove_49 ?_
          refine lv_iload_n hx hb dX11_shove_52 rfl (lv_at hl 1 rfl) ?_
          refine lv_iload_n hx hb dX11_shove_53 rfl (lv_at hl 2 rfl) ?_
          refine xcVi E hs hQ hml hl.1 16 (gX0_isPushed_16 l g ad hD S hI a1 a2) mX0_isPushed q1362 (by decide) c18 rfl rfl ⟨(Nat.le_of_ble_eq_true rfl), (Nat.le_of_ble_eq_true rfl)⟩ ⟨(Nat.le_of_ble_eq_true rfl), (Nat.le_of_ble_eq_true rfl)⟩ (Nat.le_of_ble_eq_true rfl) rfl dX11_shove_54 (fun r67 S67 H locs hp67 hQ _ => ?_)
          obtain ⟨rfl, b67⟩ := hp67
          refine lv_if_eq (tgt := 63) hx hb dX11_shove_57 (by decide) (fun k68 => ?_) (fun k68 => ?_)
          · have h69 := ib_eq k68
            have b70 : Bd r67 (0) (0) := ⟨(b67).1, ((rf_eq b67 (by decide : Bd 0 (0) (0)) h69).1).2⟩
            refine lv_aload_n hx hb dX11_shove_63 rfl (lv_at hl 0 rfl) ?_
            refine xget E hQ 0 (by decide) c32 rfl 4 (by decide) q520 rfl dX11_shove_64 ?_
            refine xget E hQ 2 (by decide) c11 rfl 14 (by decide) q303 rfl dX11_shove_67 ?_
            refine lv_iload_n hx hb dX11_shove_70 rfl (lv_at hl 1 rfl) ?_
            refine lv_iload_n hx hb dX11_shove_71 rfl (lv_at hl 2 rfl) ?_
            refine lv_iload_n hx hb dX11_shove_72 rfl (lv_at hl 3 rfl) ?_
            refine lv_iconst (v := 1) hx hb dX11_shove_73 (by decide) ?_
            refine lv_icmp_ne (tgt := 81) hx hb dX11_shove_74 (by decide) (fun k71 => ?_) (fun k71 => ?_)
            · have h72 := ib_ne k71
              have b73 : Bd a3 (0) (0) := rf_nhi b57 (by decide : Bd 1 (1) (1)) h72
              refine lv_iconst (v := 1) hx hb dX11_shove_81 (by decide) ?_
              refine xcVv E hs hQ hml hl.1 16 (gX0_addPush_16 l g ad hD S hI a1 a2 1 b40 b50 (ib_wk (by decide : Bd 1 (1) (1)) (by decide) (by decide)) hAR2 (by decide)) mX0_addPush q1367 (by decide) c18 rfl rfl ⟨(Nat.le_of_ble_eq_true rfl), (Nat.le_of_ble_eq_true rfl)⟩ ⟨(Nat.le_of_ble_eq_true rfl), (Nat.le_of_ble_eq_true rfl)⟩ (Nat.le_of_ble_eq_true rfl) rfl dX11_shove_82 (fun S74 H locs hp74 hQ _ => ?_)
              obtain ⟨hI, o74, u74_0⟩ := hp74
              refine lv_aload_n hx hb dX11_shove_85 rfl (lv_at hl 0 rfl) ?_
              have c75 : S74 0 = .inr (11, [.ref (ad 1), .int v28, .int v30, .int v31, .ref (ad 2), .ref (ad 20), .ref (ad 38), .ref (ad 93), .ref (ad 94), .ref (ad 95), .ref (ad 102), .ref (ad 104), .ref (ad 107), .ref (ad 111), .ref (ad 119)]) := ((o74 0 (by decide)).trans c32)
              refine xget E hQ 0 (by decide) c75 rfl 9 (by decide) q525 rfl dX11_shove_86 ?_
              refine lv_iload_n hx hb dX11_shove_89 rfl (lv_at hl 1 rfl) ?_
              have c76 : S74 2 = .inr (1, [.int v1, .int v3, .int v5, .ref (ad 3), .ref (ad 5), .ref (ad 6), .int v6, .int v7, .ref (ad 7), .ref (ad 8), .ref (ad 9), .ref (ad 10), .int v9, .ref (ad 15), .ref (ad 16)]) := ((o74 2 (by decide)).trans c11)
              have q77 : fld (S74 2) 1 = v3.toInt := fld_of c76 rfl
              obtain ⟨v79, v80, c82, b81⟩ := invX_95 hI
              have c82 : S74 95 = .inr (2, [.ref (ad 2), .ref (ad 96), .ref (ad 97), .ref (ad 98), .ref (ad 99), .ref (ad 100), .ref (ad 101), .int v79, .int v80]) := c82
              refine xcVv E hs hQ hml hl.1 95 (gX2_settle_95 l g ad hD S74 hI a1 b40 (by omega)) mX2_settle q1371 (by decide) c82 rfl rfl ⟨(Nat.le_of_ble_eq_true rfl), (Nat.le_of_ble_eq_true rfl)⟩ ⟨(Nat.le_of_ble_eq_true rfl), (Nat.le_of_ble_eq_true rfl)⟩ (Nat.le_of_ble_eq_true rfl) rfl dX11_shove_90 (fun S78 H locs hp78 hQ _ => ?_)
              obtain ⟨hI, o78⟩ := hp78
              refine lv_aload_n hx hb dX11_shove_93 rfl (lv_at hl 0 rfl) ?_
              have c83 : S78 0 = .inr (11, [.ref (ad 1), .int v28, .int v30, .int v31, .ref (ad 2), .ref (ad 20), .ref (ad 38), .ref (ad 93), .ref (ad 94), .ref (ad 95), .ref (ad 102), .ref (ad 104), .ref (ad 107), .ref (ad 111), .ref (ad 119)]) := ((o78 0 (by decide)).trans c75)
              refine xget E hQ 0 (by decide) c83 rfl 4 (by decide) q520 rfl dX11_shove_94 ?_
              have c84 : S78 2 = .inr (1, [.int v1, .int v3, .int v5, .ref (ad 3), .ref (ad 5), .ref (ad 6), .int v6, .int v7, .ref (ad 7), .ref (ad 8), .ref (ad 9), .ref (ad 10), .int v9, .ref (ad 15), .ref (ad 16)]) := ((o78 2 (by decide)).trans c76)
              refine xget E hQ 2 (by decide) c84 rfl 14 (by decide) q303 rfl dX11_shove_97 ?_
              refine lv_iload_n hx hb dX11_shove_100 rfl (lv_at hl 1 rfl) ?_
              obtain ⟨v86, c88, b87⟩ := invX_16 hI
              have c88 : S78 16 = .inr (0, [.int v86, .ref (ad 17), .ref (ad 18), .ref (ad 19)]) := c88
              refine xcVi E hs hQ hml hl.1 16 (gX0_pushesOf_16 l g ad hD S78 hI a1) mX0_pushesOf q1372 (by decide) c88 rfl rfl ⟨(Nat.le_of_ble_eq_true rfl), (Nat.le_of_ble_eq_true rfl)⟩ ⟨(Nat.le_of_ble_eq_true rfl), (Nat.le_of_ble_eq_true rfl)⟩ (Nat.le_of_ble_eq_true rfl) rfl dX11_shove_101 (fun r85 S85 H locs hp85 hQ _ => ?_)
              subst hp85
              exact xri E hr hlk hQ (⟨hI, (o_trans (o_trans o_refl o74 (by decide)) o78 (by decide)), (ar_tr u74_0 (o78 16 (by decide)) (o78 17 (by decide)) (o78 18 (by decide)) (o78 19 (by decide)))⟩) dX11_shove_104
            · have h89 := ib_eq k71
              have b90 : Bd a3 (1) (1) := ⟨((rf_eq b57 (by decide : Bd 1 (1) (1)) h89).1).1, (b57).2⟩
              refine lv_iconst (v := (-1)) hx hb dX11_shove_77 (by decide) ?_
              refine lv_goto (tgt := 82) hx hb dX11_shove_78 (by decide) ?_
              refine xcVv E hs hQ hml hl.1 16 (gX0_addPush_16 l g ad hD S hI a1 a2 (-1) b40 b50 (ib_wk (by decide : Bd (-1) (-1) (-1)) (by decide) (by decide)) hAR2 (by decide)) mX0_addPush q1367 (by decide) c18 rfl rfl ⟨(Nat.le_of_ble_eq_true rfl), (Nat.le_of_ble_eq_true rfl)⟩ ⟨(Nat.le_of_ble_eq_true rfl), (Nat.le_of_ble_eq_true rfl)⟩ (Nat.le_of_ble_eq_true rfl) rfl dX11_shove_82 (fun S91 H locs hp91 hQ _ => ?_)
              obtain ⟨hI, o91, u91_0⟩ := hp91
              refine lv_aload_n hx hb dX11_shove_85 rfl (lv_at hl 0 rfl) ?_
              have c92 : S91 0 = .inr (11, [.ref (ad 1), .int v28, .int v30, .int v31, .ref (ad 2), .ref (ad 20), .ref (ad 38), .ref (ad 93), .ref (ad 94), .ref (ad 95), .ref (ad 102), .ref (ad 104), .ref (ad 107), .ref (ad 111), .ref (ad 119)]) := ((o91 0 (by decide)).trans c32)
              refine xget E hQ 0 (by decide) c92 rfl 9 (by decide) q525 rfl dX11_shove_86 ?_
              refine lv_iload_n hx hb dX11_shove_89 rfl (lv_at hl 1 rfl) ?_
              have c93 : S91 2 = .inr (1, [.int v1, .int v3, .int v5, .ref (ad 3), .ref (ad 5), .ref (ad 6), .int v6, .int v7, .ref (ad 7), .ref (ad 8), .ref (ad 9), .ref (ad 10), .int v9, .ref (ad 15), .ref (ad 16)]) := ((o91 2 (by decide)).trans c11)
              have q94 : fld (S91 2) 1 = v3.toInt := fld_of c93 rfl
              obtain ⟨v96, v97, c99, b98⟩ := invX_95 hI
              have c99 : S91 95 = .inr (2, [.ref (ad 2), .ref (ad 96), .ref (ad 97), .ref (ad 98), .ref (ad 99), .ref (ad 100), .ref (ad 101), .int v96, .int v97]) := c99
              refine xcVv E hs hQ hml hl.1 95 (gX2_settle_95 l g ad hD S91 hI a1 b40 (by omega)) mX2_settle q1371 (by decide) c99 rfl rfl ⟨(Nat.le_of_ble_eq_true rfl), (Nat.le_of_ble_eq_true rfl)⟩ ⟨(Nat.le_of_ble_eq_true rfl), (Nat.le_of_ble_eq_true rfl)⟩ (Nat.le_of_ble_eq_true rfl) rfl dX11_shove_90 (fun S95 H locs hp95 hQ _ => ?_)
              obtain ⟨hI, o95⟩ := hp95
              refine lv_aload_n hx hb dX11_shove_93 rfl (lv_at hl 0 rfl) ?_
              have c100 : S95 0 = .inr (11, [.ref (ad 1), .int v28, .int v30, .int v31, .ref (ad 2), .ref (ad 20), .ref (ad 38), .ref (ad 93), .ref (ad 94), .ref (ad 95), .ref (ad 102), .ref (ad 104), .ref (ad 107), .ref (ad 111), .ref (ad 119)]) := ((o95 0 (by decide)).trans c92)
              refine xget E hQ 0 (by decide) c100 rfl 4 (by decide) q520 rfl dX11_shove_94 ?_
              have c101 : S95 2 = .inr (1, [.int v1, .int v3, .int v5, .ref (ad 3), .ref (ad 5), .ref (ad 6), .int v6, .int v7, .ref (ad 7), .ref (ad 8), .ref (ad 9), .ref (ad 10), .int v9, .ref (ad 15), .ref (ad 16)]) := ((o95 2 (by decide)).trans c93)
              refine xget E hQ 2 (by decide) c101 rfl 14 (by decide) q303 rfl dX11_shove_97 ?_
              refine lv_iload_n hx hb dX11_shove_100 rfl (lv_at hl 1 rfl) ?_
              obtain ⟨v103, c105, b104⟩ := invX_16 hI
              have c105 : S95 16 = .inr (0, [.int v103, .ref (ad 17), .ref (ad 18), .ref (ad 19)]) := c105
              refine xcVi E hs hQ hml hl.1 16 (gX0_pushesOf_16 l g ad hD S95 hI a1) mX0_pushesOf q1372 (by decide) c105 rfl rfl ⟨(Nat.le_of_ble_eq_true rfl), (Nat.le_of_ble_eq_true rfl)⟩ ⟨(Nat.le_of_ble_eq_true rfl), (Nat.le_of_ble_eq_true rfl)⟩ (Nat.le_of_ble_eq_true rfl) rfl dX11_shove_101 (fun r102 S102 H locs hp102 hQ _ => ?_)
              subst hp102
              exact xri E hr hlk hQ (⟨hI, (o_trans (o_trans o_refl o91 (by decide)) o95 (by decide)), (ar_tr u91_0 (o95 16 (by decide)) (o95 17 (by decide)) (o95 18 (by decide)) (o95 19 (by decide)))⟩) dX11_shove_104
          · have h106 := ib_ne k68
            have b107 : Bd r67 (1) (1) := rf_nlo b67 (by decide : Bd 0 (0) (0)) h106
            refine lv_bipush (v := (-5)) hx hb dX11_shove_60 (by decide) ?_
            exact xri E hr hlk hQ (⟨hI, o_refl, hAR2⟩) dX11_shove_62
      · have h108 := ib_eq k53
        have b109 : Bd r51 (0) (0) := ⟨(b51).1, ((rf_eq b51 (by decide : Bd 0 (0) (0)) h108).1).2⟩
        clear g51_0
        refine lv_bipush (v := (-2)) hx hb dX11_shove_29 (by decide) ?_
        exact xri E hr hlk hQ (⟨hI, o_refl, hAR2⟩) dX11_shove_31
set_option maxHeartbeats 4000000 in
set_option maxRecDepth 100000 in
theorem gX11_undo_0 (l : Launch) (g : GG) (ad : Nat → Nat) (hD : Dj ad 122) (S : SS) (hI : InvX g ad S) (hq1 : 0 ≤ 1201 * fld (S 2) 1 + (-1) * fld (S 2) 0) (hq2 : 0 ≤ 8 * fld (S 2) 1 + (-1) * fld (S 2) 7) (hq3 : 0 ≤ 3 * fld (S 2) 1 + (-1) * fld (S 2) 12) (hAR2 : ARp (S 16) (S 17) (S 18) (S 19)) : Met l yX11_undo (wG (.code yX11_undo cX11_undo 2 (some .int))) (Rm 5) (XPre g ad 122 S [.ref (ad 0)]) (va_Qi (fun r S' => InvX g ad S' ∧ (∀ j, j ∉ ([15, 16, 95, 96, 97, 98] : List Nat) → S' j = S j) ∧ Bd r (-5) (40) ∧ (ARp (S' 16) (S' 17) (S' 18) (S' 19))) (QB g ad 122) (FA ad 122)) 0 0 (FA ad 122) := by
  refine xmet cX11_undo "EbbWreck" (by decide) rfl (Nat.le_of_ble_eq_true rfl) (fun p e s m below meth c E hr hlk hml hQ ls hl => ?_)
  have hx := E.1
  have hb := E.2.1
  have hs : Sp ad 122 (FA ad 122) := Sp.fa hD
  have hl : lv_has ls 2 [(0, .ref (ad 0))] := hl
  obtain ⟨v1, v3, v5, v6, v7, v9, c11, b2, b4, b8, b10⟩ := invX_2 hI
  have c11 : S 2 = .inr (1, [.int v1, .int v3, .int v5, .ref (ad 3), .ref (ad 5), .ref (ad 6), .int v6, .int v7, .ref (ad 7), .ref (ad 8), .ref (ad 9), .ref (ad 10), .int v9, .ref (ad 15), .ref (ad 16)]) := c11
  have q12 : fld (S 2) 1 = v3.toInt := fld_of c11 rfl
  have q13 : fld (S 2) 0 = v1.toInt := fld_of c11 rfl
  have q14 : fld (S 2) 7 = v7.toInt := fld_of c11 rfl
  have q15 : fld (S 2) 12 = v9.toInt := fld_of c11 rfl
  obtain ⟨v16, c18, b17⟩ := invX_16 hI
  have c18 : S 16 = .inr (0, [.int v16, .ref (ad 17), .ref (ad 18), .ref (ad 19)]) := c18
  obtain ⟨f19, c20⟩ := invX_17 hI
  obtain ⟨f22, c23, b24⟩ := invX_18 hI
  obtain ⟨f25, c26, b27⟩ := invX_19 hI
  refine lv_aload_n hx hb dX11_undo_0 rfl (lv_at hl 0 rfl) ?_
  obtain ⟨v28, v30, v31, c32, b29⟩ := invX_0 hI
  have c32 : S 0 = .inr (11, [.ref (ad 1), .int v28, .int v30, .int v31, .ref (ad 2), .ref (ad 20), .ref (ad 38), .ref (ad 93), .ref (ad 94), .ref (ad 95), .ref (ad 102), .ref (ad 104), .ref (ad 107), .ref (ad 111), .ref (ad 119)]) := c32
  refine xget E hQ 0 (by decide) c32 rfl 4 (by decide) q520 rfl dX11_undo_1 ?_
  refine xcVi E hs hQ hml hl.1 2 (gX1_isTold_2 l g ad hD S hI ) mX1_isTold q878 (by decide) c11 rfl rfl ⟨(Nat.le_of_ble_eq_true rfl), (Nat.le_of_ble_eq_true rfl)⟩ ⟨(Nat.le_of_ble_eq_true rfl), (Nat.le_of_ble_eq_true rfl)⟩ (Nat.le_of_ble_eq_true rfl) rfl dX11_undo_4 (fun r33 S33 H locs hp33 hQ _ => ?_)
  obtain ⟨rfl, b33, g33_0⟩ := hp33
  refine lv_if_ne (tgt := 13) hx hb dX11_undo_7 (by decide) (fun k34 => ?_) (fun k34 => ?_)
  · have h35 := ib_ne k34
    have b36 : Bd r33 (1) (1) := rf_nlo b33 (by decide : Bd 0 (0) (0)) h35
    have g37 := g33_0.resolve_left (by omega)
    clear g33_0
    have b38 : Bd v1 (1) (1201) := ⟨by omega, by omega⟩
    refine lv_aload_n hx hb dX11_undo_13 rfl (lv_at hl 0 rfl) ?_
    refine xget E hQ 0 (by decide) c32 rfl 4 (by decide) q520 rfl dX11_undo_14 ?_
    refine xget E hQ 2 (by decide) c11 rfl 14 (by decide) q303 rfl dX11_undo_17 ?_
    refine xget E hQ 16 (by decide) c18 rfl 0 (by decide) q218 rfl dX11_undo_20 ?_
    refine lv_iconst (v := 1) hx hb dX11_undo_23 (by decide) ?_
    refine lv_icmp_ge (tgt := 30) hx hb dX11_undo_24 (by decide) (fun k39 => ?_) (fun k39 => ?_)
    · have h40 := ib_le k39
      have b41 : Bd v16 (1) (40) := ⟨((rf_le (by decide : Bd 1 (1) (1)) b17 h40).2).1, (b17).2⟩
      refine lv_aload_n hx hb dX11_undo_30 rfl (lv_at hl 0 rfl) ?_
      refine xget E hQ 0 (by decide) c32 rfl 4 (by decide) q520 rfl dX11_undo_31 ?_
      refine xcVi E hs hQ hml hl.1 2 (gX1_takeBack_2 l g ad hD S hI hAR2) mX1_takeBack q1380 (by decide) c11 rfl rfl ⟨(Nat.le_of_ble_eq_true rfl), (Nat.le_of_ble_eq_true rfl)⟩ ⟨(Nat.le_of_ble_eq_true rfl), (Nat.le_of_ble_eq_true rfl)⟩ (Nat.le_of_ble_eq_true rfl) rfl dX11_undo_34 (fun r42 S42 H locs hp42 hQ _ => ?_)
      obtain ⟨hI, o42, b42, u42_0⟩ := hp42
      refine lv_istore_n (lv' := [(1, .int r42), (0, .ref (ad 0))]) hx hb dX11_undo_37 rfl hl (by decide) rfl (fun ls hl => ?_)
      refine lv_iload_n hx hb dX11_undo_38 rfl (lv_at hl 0 rfl) ?_
      refine lv_iconst (v := (-1)) hx hb dX11_undo_39 (by decide) ?_
      refine lv_icmp_eq (tgt := 51) hx hb dX11_undo_40 (by decide) (fun k43 => ?_) (fun k43 => ?_)
      · have h44 := ib_eq k43
        have b45 : Bd r42 (-1) (-1) := ⟨(b42).1, ((rf_eq b42 (by decide : Bd (-1) (-1) (-1)) h44).1).2⟩
        refine lv_aload_n hx hb dX11_undo_51 rfl (lv_at hl 1 rfl) ?_
        have c46 : S42 0 = .inr (11, [.ref (ad 1), .int v28, .int v30, .int v31, .ref (ad 2), .ref (ad 20), .ref (ad 38), .ref (ad 93), .ref (ad 94), .ref (ad 95), .ref (ad 102), .ref (ad 104), .ref (ad 107), .ref (ad 111), .ref (ad 119)]) := ((o42 0 (by decide)).trans c32)
        refine xget E hQ 0 (by decide) c46 rfl 4 (by decide) q520 rfl dX11_undo_52 ?_
        have c47 : S42 2 = .inr (1, [.int v1, .int v3, .int v5, .ref (ad 3), .ref (ad 5), .ref (ad 6), .int v6, .int v7, .ref (ad 7), .ref (ad 8), .ref (ad 9), .ref (ad 10), .int v9, .ref (ad 15), .ref (ad 16)]) := ((o42 2 (by decide)).trans c11)
        refine xget E hQ 2 (by decide) c47 rfl 14 (by decide) q303 rfl dX11_undo_55 ?_
        obtain ⟨v48, c50, b49⟩ := invX_16 hI
        have c50 : S42 16 = .inr (0, [.int v48, .ref (ad 17), .ref (ad 18), .ref (ad 19)]) := c50
        refine xget E hQ 16 (by decide) c50 rfl 0 (by decide) q218 rfl dX11_undo_58 ?_
        exact xri E hr hlk hQ (⟨hI, (o_trans o_refl o42 (by decide)), (ib_wk b49 (by decide) (by decide)), u42_0⟩) dX11_undo_61
      · have h51 := ib_ne k43
        have b52 : Bd r42 (0) (7) := rf_nlo b42 (by decide : Bd (-1) (-1) (-1)) h51
        refine lv_aload_n hx hb dX11_undo_43 rfl (lv_at hl 1 rfl) ?_
        have c53 : S42 0 = .inr (11, [.ref (ad 1), .int v28, .int v30, .int v31, .ref (ad 2), .ref (ad 20), .ref (ad 38), .ref (ad 93), .ref (ad 94), .ref (ad 95), .ref (ad 102), .ref (ad 104), .ref (ad 107), .ref (ad 111), .ref (ad 119)]) := ((o42 0 (by decide)).trans c32)
        refine xget E hQ 0 (by decide) c53 rfl 9 (by decide) q525 rfl dX11_undo_44 ?_
        refine lv_iload_n hx hb dX11_undo_47 rfl (lv_at hl 0 rfl) ?_
        have c54 : S42 2 = .inr (1, [.int v1, .int v3, .int v5, .ref (ad 3), .ref (ad 5), .ref (ad 6), .int v6, .int v7, .ref (ad 7), .ref (ad 8), .ref (ad 9), .ref (ad 10), .int v9, .ref (ad 15), .ref (ad 16)]) := ((o42 2 (by decide)).trans c11)
        have q55 : fld (S42 2) 1 = v3.toInt := fld_of c54 rfl
        obtain ⟨v57, v58, c60, b59⟩ := invX_95 hI
        have c60 : S42 95 = .inr (2, [.ref (ad 2), .ref (ad 96), .ref (ad 97), .ref (ad 98), .ref (ad 99), .ref (ad 100), .ref (ad 101), .int v57, .int v58]) := c60
        refine xcVv E hs hQ hml hl.1 95 (gX2_settle_95 l g ad hD S42 hI r42 b52 (by omega)) mX2_settle q1371 (by decide) c60 rfl rfl ⟨(Nat.le_of_ble_eq_true rfl), (Nat.le_of_ble_eq_true rfl)⟩ ⟨(Nat.le_of_ble_eq_true rfl), (Nat.le_of_ble_eq_true rfl)⟩ (Nat.le_of_ble_eq_true rfl) rfl dX11_undo_48 (fun S56 H locs hp56 hQ _ => ?_)
        obtain ⟨hI, o56⟩ := hp56
        refine lv_aload_n hx hb dX11_undo_51 rfl (lv_at hl 1 rfl) ?_
        have c61 : S56 0 = .inr (11, [.ref (ad 1), .int v28, .int v30, .int v31, .ref (ad 2), .ref (ad 20), .ref (ad 38), .ref (ad 93), .ref (ad 94), .ref (ad 95), .ref (ad 102), .ref (ad 104), .ref (ad 107), .ref (ad 111), .ref (ad 119)]) := ((o56 0 (by decide)).trans c53)
        refine xget E hQ 0 (by decide) c61 rfl 4 (by decide) q520 rfl dX11_undo_52 ?_
        have c62 : S56 2 = .inr (1, [.int v1, .int v3, .int v5, .ref (ad 3), .ref (ad 5), .ref (ad 6), .int v6, .int v7, .ref (ad 7), .ref (ad 8), .ref (ad 9), .ref (ad 10), .int v9, .ref (ad 15), .ref (ad 16)]) := ((o56 2 (by decide)).trans c54)
        refine xget E hQ 2 (by decide) c62 rfl 14 (by decide) q303 rfl dX11_undo_55 ?_
        obtain ⟨v63, c65, b64⟩ := invX_16 hI
        have c65 : S56 16 = .inr (0, [.int v63, .ref (ad 17), .ref (ad 18), .ref (ad 19)]) := c65
        refine xget E hQ 16 (by decide) c65 rfl 0 (by decide) q218 rfl dX11_undo_58 ?_
        exact xri E hr hlk hQ (⟨hI, (o_trans (o_trans o_refl o42 (by decide)) o56 (by decide)), (ib_wk b64 (by decide) (by decide)), (ar_tr u42_0 (o56 16 (by decide)) (o56 17 (by decide)) (o56 18 (by decide)) (o56 19 (by decide)))⟩) dX11_undo_61
    · have h66 := ib_nle k39
      have b67 : Bd v16 (0) (0) := ⟨(b17).1, ((rf_lt b17 (by decide : Bd 1 (1) (1)) h66).1).2⟩
      refine lv_bipush (v := (-5)) hx hb dX11_undo_27 (by decide) ?_
      exact xri E hr hlk hQ (⟨hI, o_refl, (ib_wk (by decide : Bd (-5) (-5) (-5)) (by decide) (by decide)), hAR2⟩) dX11_undo_29
  · have h68 := ib_eq k34
    have b69 : Bd r33 (0) (0) := ⟨(b33).1, ((rf_eq b33 (by decide : Bd 0 (0) (0)) h68).1).2⟩
    clear g33_0
    refine lv_bipush (v := (-2)) hx hb dX11_undo_10 (by decide) ?_
    exact xri E hr hlk hQ (⟨hI, o_refl, (ib_wk (by decide : Bd (-2) (-2) (-2)) (by decide) (by decide)), hAR2⟩) dX11_undo_12
set_option maxHeartbeats 4000000 in
set_option maxRecDepth 100000 in
theorem gX11_anew_0 (l : Launch) (g : GG) (ad : Nat → Nat) (hD : Dj ad 122) (S : SS) (hI : InvX g ad S) (hq1 : 0 ≤ 1201 * fld (S 2) 1 + (-1) * fld (S 2) 0) (hq2 : 0 ≤ 8 * fld (S 2) 1 + (-1) * fld (S 2) 7) (hq3 : 0 ≤ 3 * fld (S 2) 1 + (-1) * fld (S 2) 12) (hAR2 : ARp (S 16) (S 17) (S 18) (S 19)) : Met l yX11_anew (wG (.code yX11_anew cX11_anew 3 (some .int))) (Rm 6) (XPre g ad 122 S [.ref (ad 0)]) (va_Qi (fun r S' => InvX g ad S' ∧ (∀ j, j ∉ ([15, 16, 95, 96, 97, 98] : List Nat) → S' j = S j) ∧ Bd r (-2) (40) ∧ (ARp (S' 16) (S' 17) (S' 18) (S' 19))) (QB g ad 122) (FA ad 122)) 0 0 (FA ad 122) := by
  refine xmet cX11_anew "EbbWreck" (by decide) rfl (Nat.le_of_ble_eq_true rfl) (fun p e s m below meth c E hr hlk hml hQ ls hl => ?_)
  have hx := E.1
  have hb := E.2.1
  have hs : Sp ad 122 (FA ad 122) := Sp.fa hD
  have hl : lv_has ls 3 [(0, .ref (ad 0))] := hl
  obtain ⟨v1, v3, v5, v6, v7, v9, c11, b2, b4, b8, b10⟩ := invX_2 hI
  have c11 : S 2 = .inr (1, [.int v1, .int v3, .int v5, .ref (ad 3), .ref (ad 5), .ref (ad 6), .int v6, .int v7, .ref (ad 7), .ref (ad 8), .ref (ad 9), .ref (ad 10), .int v9, .ref (ad 15), .ref (ad 16)]) := c11
  have q12 : fld (S 2) 1 = v3.toInt := fld_of c11 rfl
  have q13 : fld (S 2) 0 = v1.toInt := fld_of c11 rfl
  have q14 : fld (S 2) 7 = v7.toInt := fld_of c11 rfl
  have q15 : fld (S 2) 12 = v9.toInt := fld_of c11 rfl
  obtain ⟨v16, c18, b17⟩ := invX_16 hI
  have c18 : S 16 = .inr (0, [.int v16, .ref (ad 17), .ref (ad 18), .ref (ad 19)]) := c18
  obtain ⟨f19, c20⟩ := invX_17 hI
  obtain ⟨f22, c23, b24⟩ := invX_18 hI
  obtain ⟨f25, c26, b27⟩ := invX_19 hI
  refine lv_aload_n hx hb dX11_anew_0 rfl (lv_at hl 0 rfl) ?_
  obtain ⟨v28, v30, v31, c32, b29⟩ := invX_0 hI
  have c32 : S 0 = .inr (11, [.ref (ad 1), .int v28, .int v30, .int v31, .ref (ad 2), .ref (ad 20), .ref (ad 38), .ref (ad 93), .ref (ad 94), .ref (ad 95), .ref (ad 102), .ref (ad 104), .ref (ad 107), .ref (ad 111), .ref (ad 119)]) := c32
  refine xget E hQ 0 (by decide) c32 rfl 4 (by decide) q520 rfl dX11_anew_1 ?_
  refine xcVi E hs hQ hml hl.1 2 (gX1_isTold_2 l g ad hD S hI ) mX1_isTold q878 (by decide) c11 rfl rfl ⟨(Nat.le_of_ble_eq_true rfl), (Nat.le_of_ble_eq_true rfl)⟩ ⟨(Nat.le_of_ble_eq_true rfl), (Nat.le_of_ble_eq_true rfl)⟩ (Nat.le_of_ble_eq_true rfl) rfl dX11_anew_4 (fun r33 S33 H locs hp33 hQ _ => ?_)
  obtain ⟨rfl, b33, g33_0⟩ := hp33
  refine lv_if_ne (tgt := 13) hx hb dX11_anew_7 (by decide) (fun k34 => ?_) (fun k34 => ?_)
  · have h35 := ib_ne k34
    have b36 : Bd r33 (1) (1) := rf_nlo b33 (by decide : Bd 0 (0) (0)) h35
    have g37 := g33_0.resolve_left (by omega)
    clear g33_0
    have b38 : Bd v1 (1) (1201) := ⟨by omega, by omega⟩
    refine lv_aload_n hx hb dX11_anew_13 rfl (lv_at hl 0 rfl) ?_
    refine xget E hQ 0 (by decide) c32 rfl 4 (by decide) q520 rfl dX11_anew_14 ?_
    refine xget E hQ 2 (by decide) c11 rfl 14 (by decide) q303 rfl dX11_anew_17 ?_
    refine xget E hQ 16 (by decide) c18 rfl 0 (by decide) q218 rfl dX11_anew_20 ?_
    refine lv_istore_n (lv' := [(1, .int v16), (0, .ref (ad 0))]) hx hb dX11_anew_23 rfl hl (by decide) rfl (fun ls hl => ?_)
    refine lv_iconst (v := 0) hx hb dX11_anew_24 (by decide) ?_
    refine lv_istore_n (lv' := [(2, .int 0), (1, .int v16), (0, .ref (ad 0))]) hx hb dX11_anew_25 rfl hl (by decide) rfl (fun ls hl => ?_)
    obtain ⟨v39, v40, c42, b41⟩ := invX_95 hI
    have c42 : S 95 = .inr (2, [.ref (ad 2), .ref (ad 96), .ref (ad 97), .ref (ad 98), .ref (ad 99), .ref (ad 100), .ref (ad 101), .int v39, .int v40]) := c42
    have loop26 : ∀ (n : Nat) (S_26 : SS) (H : Heap) (locs : List Loc) (ls : Array Slot) (x26_2 : Int32) (y26_16_0 : Int32) (y26_95_7 : Int32) (y26_95_8 : Int32), Bd x26_2 (0) (40) → Bd y26_16_0 (0) (40) → Bd y26_95_8 (0) (11) → (-1) * x26_2.toInt + 40 < ((n : Nat) : Int) → InvX g ad S_26 → (∀ j, j ∉ ([15, 16, 95, 96, 97, 98] : List Nat) → S_26 j = S j) → S_26 16 = .inr (0, [.int y26_16_0, .ref (ad 17), .ref (ad 18), .ref (ad 19)]) → S_26 95 = .inr (2, [.ref (ad 2), .ref (ad 96), .ref (ad 97), .ref (ad 98), .ref (ad 99), .ref (ad 100), .ref (ad 101), .int y26_95_7, .int y26_95_8]) → ARp (S_26 16) (S_26 17) (S_26 18) (S_26 19) → Hp g ad 122 S_26 (FA ad 122) s.heap H locs → lv_has ls 3 [(2, .int x26_2), (1, .int v16), (0, .ref (ad 0))] → W p l e (Rm 6) s m [.ref (ad 0)].toArray below meth c H locs 0 0 (MQ below (va_Qi (fun r S' => InvX g ad S' ∧ (∀ j, j ∉ ([15, 16, 95, 96, 97, 98] : List Nat) → S' j = S j) ∧ Bd r (-2) (40) ∧ (ARp (S' 16) (S' 17) (S' 18) (S' 19))) (QB g ad 122) (FA ad 122)) [.ref (ad 0)].toArray s 0 0 (FA ad 122)) (F0 m 26 ls []) := by
      intro n
      induction n with
      | zero => intro S_26 H locs ls x26_2 y26_16_0 y26_95_7 y26_95_8 Bx26_2 By26_16_0 By26_95_8 hn26_ hI hf26 cl26_16 cl26_95 hC26 hQ hl; exfalso; have := (Bx26_2).2; omega
      | succ n26_ ih26 =>
        intro S_26 H locs ls x26_2 y26_16_0 y26_95_7 y26_95_8 Bx26_2 By26_16_0 By26_95_8 hn26_ hI hf26 cl26_16 cl26_95 hC26 hQ hl
        refine lv_iload_n hx hb dX11_anew_26 rfl (lv_at hl 0 rfl) ?_
        refine lv_iload_n hx hb dX11_anew_27 rfl (lv_at hl 1 rfl) ?_
        refine lv_icmp_ge (tgt := 45) hx hb dX11_anew_28 (by decide) (fun k43 => ?_) (fun k43 => ?_)
        · have h44 := ib_le k43
          refine lv_aload_n hx hb dX11_anew_45 rfl (lv_at hl 2 rfl) ?_
          have c45 : S_26 0 = .inr (11, [.ref (ad 1), .int v28, .int v30, .int v31, .ref (ad 2), .ref (ad 20), .ref (ad 38), .ref (ad 93), .ref (ad 94), .ref (ad 95), .ref (ad 102), .ref (ad 104), .ref (ad 107), .ref (ad 111), .ref (ad 119)]) := ((hf26 0 (by decide)).trans c32)
          refine xget E hQ 0 (by decide) c45 rfl 9 (by decide) q525 rfl dX11_anew_46 ?_
          have c46 : S_26 2 = .inr (1, [.int v1, .int v3, .int v5, .ref (ad 3), .ref (ad 5), .ref (ad 6), .int v6, .int v7, .ref (ad 7), .ref (ad 8), .ref (ad 9), .ref (ad 10), .int v9, .ref (ad 15), .ref (ad 16)]) := ((hf26 2 (by decide)).trans c11)
          have q47 : fld (S_26 2) 1 = v3.toInt := fld_of c46 rfl
          have q48 : fld (S_26 2) 0 = v1.toInt := fld_of c46 rfl
          have q49 : fld (S_26 2) 7 = v7.toInt := fld_of c46 rfl
          have q50 : fld (S_26 2) 12 = v9.toInt := fld_of c46 rfl
          refine xcVv E hs hQ hml hl.1 95 (gX2_settleAll_95 l g ad hD S_26 hI (by omega) (by omega) (by omega)) mX2_settleAll q762 (by decide) cl26_95 rfl rfl ⟨(Nat.le_of_ble_eq_true rfl), (Nat.le_of_ble_eq_true rfl)⟩ ⟨(Nat.le_of_ble_eq_true rfl), (Nat.le_of_ble_eq_true rfl)⟩ (Nat.le_of_ble_eq_true rfl) rfl dX11_anew_49 (fun S51 H locs hp51 hQ _ => ?_)
          obtain ⟨hI, o51⟩ := hp51
          refine lv_iload_n hx hb dX11_anew_52 rfl (lv_at hl 1 rfl) ?_
          exact xri E hr hlk hQ (⟨hI, (o_trans (o_trans o_refl hf26 (by decide)) o51 (by decide)), (ib_wk b17 (by decide) (by decide)), (ar_tr hC26 (o51 16 (by decide)) (o51 17 (by decide)) (o51 18 (by decide)) (o51 19 (by decide)))⟩) dX11_anew_53
        · have h52 := ib_nle k43
          have b53 : Bd x26_2 (0) (39) := ⟨(Bx26_2).1, ((rf_lt Bx26_2 b17 h52).1).2⟩
          have b54 : Bd v16 (1) (40) := ⟨((rf_lt Bx26_2 b17 h52).2).1, (b17).2⟩
          refine lv_aload_n hx hb dX11_anew_31 rfl (lv_at hl 2 rfl) ?_
          have c55 : S_26 0 = .inr (11, [.ref (ad 1), .int v28, .int v30, .int v31, .ref (ad 2), .ref (ad 20), .ref (ad 38), .ref (ad 93), .ref (ad 94), .ref (ad 95), .ref (ad 102), .ref (ad 104), .ref (ad 107), .ref (ad 111), .ref (ad 119)]) := ((hf26 0 (by decide)).trans c32)
          refine xget E hQ 0 (by decide) c55 rfl 4 (by decide) q520 rfl dX11_anew_32 ?_
          have c57 : S_26 2 = .inr (1, [.int v1, .int v3, .int v5, .ref (ad 3), .ref (ad 5), .ref (ad 6), .int v6, .int v7, .ref (ad 7), .ref (ad 8), .ref (ad 9), .ref (ad 10), .int v9, .ref (ad 15), .ref (ad 16)]) := ((hf26 2 (by decide)).trans c11)
          refine xcVi E hs hQ hml hl.1 2 (gX1_takeBack_2 l g ad hD S_26 hI hC26) mX1_takeBack q1380 (by decide) c57 rfl rfl ⟨(Nat.le_of_ble_eq_true rfl), (Nat.le_of_ble_eq_true rfl)⟩ ⟨(Nat.le_of_ble_eq_true rfl), (Nat.le_of_ble_eq_true rfl)⟩ (Nat.le_of_ble_eq_true rfl) rfl dX11_anew_35 (fun r56 S56 H locs hp56 hQ _ => ?_)
          obtain ⟨hI, o56, b56, u56_0⟩ := hp56
          refine lv_pop hx hb dX11_anew_38 rfl ?_
          obtain ⟨z58, e59⟩ : ∃ z : Int32, z = x26_2 + 1 := ⟨_, rfl⟩
          have t60 := ib_add e59 b53 (by decide : Bd 1 (1) (1)) (by decide) (by decide)
          have b61 : Bd z58 (1) (40) := ib_addb t60 b53 (by decide : Bd 1 (1) (1))
          have t60 : z58.toInt = x26_2.toInt + 1 := fold_add t60 rfl (by decide)
          refine lv_iinc (v := z58) (lv' := [(2, .int z58), (1, .int v16), (0, .ref (ad 0))]) hx hb dX11_anew_39 hl (k := 0) rfl (by rw [e59]; rfl) (by decide) rfl (fun ls hl => ?_)
          refine lv_goto (tgt := 26) hx hb dX11_anew_42 (by decide) ?_
          obtain ⟨v62, c64, b63⟩ := invX_16 hI
          have c64 : S56 16 = .inr (0, [.int v62, .ref (ad 17), .ref (ad 18), .ref (ad 19)]) := c64
          have c65 : S56 95 = .inr (2, [.ref (ad 2), .ref (ad 96), .ref (ad 97), .ref (ad 98), .ref (ad 99), .ref (ad 100), .ref (ad 101), .int y26_95_7, .int y26_95_8]) := ((o56 95 (by decide)).trans cl26_95)
          exact ih26 _ _ _ _ z58 v62 y26_95_7 y26_95_8 (ib_wk b61 (by decide) (by decide)) b63 By26_95_8 (by omega) hI (o_trans hf26 o56 (by decide)) c64 c65 u56_0 hQ (lv_sub hl [0, 1, 2] rfl)
    obtain ⟨n26, hn26⟩ := fu_n (40)
    exact loop26 n26 _ _ _ _ 0 v16 v39 v40 (ib_wk (by decide : Bd 0 (0) (0)) (by decide) (by decide)) b17 b41 (by have : (0 : Int32).toInt = 0 := (by decide); omega) hI o_refl c18 c42 hAR2 hQ (lv_sub hl [0, 1, 2] rfl)
  · have h66 := ib_eq k34
    have b67 : Bd r33 (0) (0) := ⟨(b33).1, ((rf_eq b33 (by decide : Bd 0 (0) (0)) h66).1).2⟩
    clear g33_0
    refine lv_bipush (v := (-2)) hx hb dX11_anew_10 (by decide) ?_
    exact xri E hr hlk hQ (⟨hI, o_refl, (ib_wk (by decide : Bd (-2) (-2) (-2)) (by decide) (by decide)), hAR2⟩) dX11_anew_12
set_option maxHeartbeats 4000000 in
set_option maxRecDepth 100000 in
theorem gX0_copyFrom_16_34 (l : Launch) (g : GG) (ad : Nat → Nat) (hD : Dj ad 122) (S : SS) (hI : InvX g ad S) (hAR20 : ARp (S 34) (S 35) (S 36) (S 37)) : Met l yX0_copyFrom (wG (.code yX0_copyFrom cX0_copyFrom 2 none)) (Rm 1) (XPre g ad 122 S [.ref (ad 16), .ref (ad 34)]) (va_Qv (fun S' => InvX g ad S' ∧ (∀ j, j ∉ ([16, 17, 18, 19] : List Nat) → S' j = S j) ∧ (0 ≤ fld (S 34) 0 + (-1) * fld (S' 16) 0 ∧ 0 ≤ fld (S' 16) 0 + (-1) * fld (S 34) 0) ∧ (ARp (S' 16) (S' 17) (S' 18) (S' 19))) (QB g ad 122) (FA ad 122)) 0 0 (FA ad 122) := by
  refine xmet cX0_copyFrom "EbbWreck$Acts" (by decide) rfl (Nat.le_of_ble_eq_true rfl) (fun p e s m below meth c E hr hlk hml hQ ls hl => ?_)
  have hx := E.1
  have hb := E.2.1
  have hs : Sp ad 122 (FA ad 122) := Sp.fa hD
  have hl : lv_has ls 2 [(0, .ref (ad 16)), (1, .ref (ad 34))] := hl
  obtain ⟨v1, c3, b2⟩ := invX_34 hI
  have c3 : S 34 = .inr (0, [.int v1, .ref (ad 35), .ref (ad 36), .ref (ad 37)]) := c3
  obtain ⟨v4, c6, b5⟩ := invX_16 hI
  have c6 : S 16 = .inr (0, [.int v4, .ref (ad 17), .ref (ad 18), .ref (ad 19)]) := c6
  obtain ⟨f7, c8⟩ := invX_35 hI
  obtain ⟨f10, c11, b12⟩ := invX_36 hI
  obtain ⟨f13, c14, b15⟩ := invX_37 hI
  refine lv_aload_n hx hb dX0_copyFrom_0 rfl (lv_at hl 0 rfl) ?_
  refine lv_aload_n hx hb dX0_copyFrom_1 rfl (lv_at hl 1 rfl) ?_
  refine xget E hQ 34 (by decide) c3 rfl 0 (by decide) q215 rfl dX0_copyFrom_2 ?_
  refine xputi E hs hQ 16 (by decide) c6 rfl 0 (by decide) q215 rfl rfl (Nat.le_of_ble_eq_true rfl) dX0_copyFrom_5 (fun H locs S16 eS16 hQ => ?_)
  have hI := invX_up_16 hI eS16 ⟨v1, rfl, b2⟩
  have c17 : S16 16 = .inr (0, [.int v1, .ref (ad 17), .ref (ad 18), .ref (ad 19)]) := up_at eS16 rfl
  refine lv_aload_n hx hb dX0_copyFrom_8 rfl (lv_at hl 1 rfl) ?_
  have c18 : S16 34 = .inr (0, [.int v1, .ref (ad 35), .ref (ad 36), .ref (ad 37)]) := (up_ne eS16 (by decide) c3)
  refine xget E hQ 34 (by decide) c18 rfl 1 (by decide) q219 rfl dX0_copyFrom_9 ?_
  refine lv_iconst (v := 0) hx hb dX0_copyFrom_12 (by decide) ?_
  refine lv_aload_n hx hb dX0_copyFrom_13 rfl (lv_at hl 0 rfl) ?_
  refine xget E hQ 16 (by decide) c17 rfl 1 (by decide) q219 rfl dX0_copyFrom_14 ?_
  refine lv_iconst (v := 0) hx hb dX0_copyFrom_17 (by decide) ?_
  refine lv_bipush (v := 40) hx hb dX0_copyFrom_18 (by decide) ?_
  have c19 : S16 35 = .inl (g.2 0, 40, .inl f7) := (up_ne eS16 (by decide) c8)
  obtain ⟨f20, c21⟩ := invX_17 hI
  refine xcopyi E hs hQ hml hl.1 35 (by decide) 17 (by decide) c19 c21 q761 (by decide) (by decide) (by decide) (Nat.le_of_ble_eq_true rfl) (Nat.le_of_ble_eq_true rfl) (Nat.le_of_ble_eq_true rfl) (Nat.le_of_ble_eq_true rfl) dX0_copyFrom_20 (fun H locs S23 eS23 hQ => ?_)
  have hI := invX_up_17 hI eS23 ⟨_, rfl⟩
  have c24 : S23 17 = .inl (g.2 0, 40, .inl (va_cpy f7 f20 (0 : Int32).toNatClampNeg (0 : Int32).toNatClampNeg (40 : Int32).toNatClampNeg)) := up_at eS23 rfl
  refine lv_aload_n hx hb dX0_copyFrom_23 rfl (lv_at hl 1 rfl) ?_
  have c25 : S23 34 = .inr (0, [.int v1, .ref (ad 35), .ref (ad 36), .ref (ad 37)]) := (up_ne eS23 (by decide) c18)
  refine xget E hQ 34 (by decide) c25 rfl 2 (by decide) q222 rfl dX0_copyFrom_24 ?_
  refine lv_iconst (v := 0) hx hb dX0_copyFrom_27 (by decide) ?_
  refine lv_aload_n hx hb dX0_copyFrom_28 rfl (lv_at hl 0 rfl) ?_
  have c26 : S23 16 = .inr (0, [.int v1, .ref (ad 17), .ref (ad 18), .ref (ad 19)]) := (up_ne eS23 (by decide) c17)
  refine xget E hQ 16 (by decide) c26 rfl 2 (by decide) q222 rfl dX0_copyFrom_29 ?_
  refine lv_iconst (v := 0) hx hb dX0_copyFrom_32 (by decide) ?_
  refine lv_bipush (v := 40) hx hb dX0_copyFrom_33 (by decide) ?_
  have c27 : S23 36 = .inl (g.2 0, 40, .inl f10) := (up_ne eS23 (by decide) (up_ne eS16 (by decide) c11))
  obtain ⟨f28, c29, b30⟩ := invX_18 hI
  refine xcopyi E hs hQ hml hl.1 36 (by decide) 18 (by decide) c27 c29 q761 (by decide) (by decide) (by decide) (Nat.le_of_ble_eq_true rfl) (Nat.le_of_ble_eq_true rfl) (Nat.le_of_ble_eq_true rfl) (Nat.le_of_ble_eq_true rfl) dX0_copyFrom_35 (fun H locs S31 eS31 hQ => ?_)
  have hI := invX_up_18 hI eS31 ⟨_, rfl, cpy_b b12 b30⟩
  have b33 : ∀ j, Bd ((va_cpy f10 f28 (0 : Int32).toNatClampNeg (0 : Int32).toNatClampNeg (40 : Int32).toNatClampNeg) j) (0) (7) := cpy_b b12 b30
  have c32 : S31 18 = .inl (g.2 0, 40, .inl (va_cpy f10 f28 (0 : Int32).toNatClampNeg (0 : Int32).toNatClampNeg (40 : Int32).toNatClampNeg)) := up_at eS31 rfl
  refine lv_aload_n hx hb dX0_copyFrom_38 rfl (lv_at hl 1 rfl) ?_
  have c34 : S31 34 = .inr (0, [.int v1, .ref (ad 35), .ref (ad 36), .ref (ad 37)]) := (up_ne eS31 (by decide) c25)
  refine xget E hQ 34 (by decide) c34 rfl 3 (by decide) q224 rfl dX0_copyFrom_39 ?_
  refine lv_iconst (v := 0) hx hb dX0_copyFrom_42 (by decide) ?_
  refine lv_aload_n hx hb dX0_copyFrom_43 rfl (lv_at hl 0 rfl) ?_
  have c35 : S31 16 = .inr (0, [.int v1, .ref (ad 17), .ref (ad 18), .ref (ad 19)]) := (up_ne eS31 (by decide) c26)
  refine xget E hQ 16 (by decide) c35 rfl 3 (by decide) q224 rfl dX0_copyFrom_44 ?_
  refine lv_iconst (v := 0) hx hb dX0_copyFrom_47 (by decide) ?_
  refine lv_bipush (v := 40) hx hb dX0_copyFrom_48 (by decide) ?_
  have c36 : S31 37 = .inl (g.2 0, 40, .inl f13) := (up_ne eS31 (by decide) (up_ne eS23 (by decide) (up_ne eS16 (by decide) c14)))
  obtain ⟨f37, c38, b39⟩ := invX_19 hI
  refine xcopyi E hs hQ hml hl.1 37 (by decide) 19 (by decide) c36 c38 q761 (by decide) (by decide) (by decide) (Nat.le_of_ble_eq_true rfl) (Nat.le_of_ble_eq_true rfl) (Nat.le_of_ble_eq_true rfl) (Nat.le_of_ble_eq_true rfl) dX0_copyFrom_50 (fun H locs S40 eS40 hQ => ?_)
  have hI := invX_up_19 hI eS40 ⟨_, rfl, cpy_b b15 b39⟩
  have b42 : ∀ j, Bd ((va_cpy f13 f37 (0 : Int32).toNatClampNeg (0 : Int32).toNatClampNeg (40 : Int32).toNatClampNeg) j) (0) (400) := cpy_b b15 b39
  have c41 : S40 19 = .inl (g.2 0, 40, .inl (va_cpy f13 f37 (0 : Int32).toNatClampNeg (0 : Int32).toNatClampNeg (40 : Int32).toNatClampNeg)) := up_at eS40 rfl
  have q43 : fld (S 34) 0 = v1.toInt := fld_of c3 rfl
  have c44 : S40 16 = .inr (0, [.int v1, .ref (ad 17), .ref (ad 18), .ref (ad 19)]) := (up_ne eS40 (by decide) c35)
  have q45 : fld (S40 16) 0 = v1.toInt := fld_of c44 rfl
  have c46 : S40 17 = .inl (g.2 0, 40, .inl (va_cpy f7 f20 (0 : Int32).toNatClampNeg (0 : Int32).toNatClampNeg (40 : Int32).toNatClampNeg)) := (up_ne eS40 (by decide) (up_ne eS31 (by decide) c24))
  have c47 : S40 18 = .inl (g.2 0, 40, .inl (va_cpy f10 f28 (0 : Int32).toNatClampNeg (0 : Int32).toNatClampNeg (40 : Int32).toNatClampNeg)) := (up_ne eS40 (by decide) c32)
  exact xrv E hr hlk hQ (⟨hI, (up_o (up_o (up_o (up_o o_refl eS16 (by decide)) eS23 (by decide)) eS31 (by decide)) eS40 (by decide)), ⟨by omega, by omega⟩, (ar_cpy c3 rfl c8 c11 c14 hAR20 (b2).2 c44 rfl c46 c47 c41)⟩) dX0_copyFrom_53
set_option maxHeartbeats 4000000 in
set_option maxRecDepth 100000 in
theorem gX6_copyFrom_10_28 (l : Launch) (g : GG) (ad : Nat → Nat) (hD : Dj ad 122) (S : SS) (hI : InvX g ad S) : Met l yX6_copyFrom (wG (.code yX6_copyFrom cX6_copyFrom 2 none)) (Rm 1) (XPre g ad 122 S [.ref (ad 10), .ref (ad 28)]) (va_Qv (fun S' => InvX g ad S' ∧ (∀ j, j ∉ ([10, 11, 12, 13, 14] : List Nat) → S' j = S j)) (QB g ad 122) (FA ad 122)) 0 0 (FA ad 122) := by
  refine xmet cX6_copyFrom "EbbWreck$RuleBook" (by decide) rfl (Nat.le_of_ble_eq_true rfl) (fun p e s m below meth c E hr hlk hml hQ ls hl => ?_)
  have hx := E.1
  have hb := E.2.1
  have hs : Sp ad 122 (FA ad 122) := Sp.fa hD
  have hl : lv_has ls 2 [(0, .ref (ad 10)), (1, .ref (ad 28))] := hl
  refine lv_aload_n hx hb dX6_copyFrom_0 rfl (lv_at hl 0 rfl) ?_
  refine lv_aload_n hx hb dX6_copyFrom_1 rfl (lv_at hl 1 rfl) ?_
  obtain ⟨v1, c3, b2⟩ := invX_28 hI
  have c3 : S 28 = .inr (6, [.int v1, .ref (ad 29), .ref (ad 30), .ref (ad 31), .ref (ad 32)]) := c3
  refine xget E hQ 28 (by decide) c3 rfl 0 (by decide) q186 rfl dX6_copyFrom_2 ?_
  obtain ⟨v4, c6, b5⟩ := invX_10 hI
  have c6 : S 10 = .inr (6, [.int v4, .ref (ad 11), .ref (ad 12), .ref (ad 13), .ref (ad 14)]) := c6
  refine xputi E hs hQ 10 (by decide) c6 rfl 0 (by decide) q186 rfl rfl (Nat.le_of_ble_eq_true rfl) dX6_copyFrom_5 (fun H locs S7 eS7 hQ => ?_)
  have hI := invX_up_10 hI eS7 ⟨v1, rfl, b2⟩
  have c8 : S7 10 = .inr (6, [.int v1, .ref (ad 11), .ref (ad 12), .ref (ad 13), .ref (ad 14)]) := up_at eS7 rfl
  refine lv_aload_n hx hb dX6_copyFrom_8 rfl (lv_at hl 1 rfl) ?_
  have c9 : S7 28 = .inr (6, [.int v1, .ref (ad 29), .ref (ad 30), .ref (ad 31), .ref (ad 32)]) := (up_ne eS7 (by decide) c3)
  refine xget E hQ 28 (by decide) c9 rfl 1 (by decide) q189 rfl dX6_copyFrom_9 ?_
  refine lv_iconst (v := 0) hx hb dX6_copyFrom_12 (by decide) ?_
  refine lv_aload_n hx hb dX6_copyFrom_13 rfl (lv_at hl 0 rfl) ?_
  refine xget E hQ 10 (by decide) c8 rfl 1 (by decide) q189 rfl dX6_copyFrom_14 ?_
  refine lv_iconst (v := 0) hx hb dX6_copyFrom_17 (by decide) ?_
  refine lv_bipush (v := 6) hx hb dX6_copyFrom_18 (by decide) ?_
  obtain ⟨f10, c11⟩ := invX_29 hI
  obtain ⟨f13, c14⟩ := invX_11 hI
  refine xcopyi E hs hQ hml hl.1 29 (by decide) 11 (by decide) c11 c14 q756 (by decide) (by decide) (by decide) (Nat.le_of_ble_eq_true rfl) (Nat.le_of_ble_eq_true rfl) (Nat.le_of_ble_eq_true rfl) (Nat.le_of_ble_eq_true rfl) dX6_copyFrom_20 (fun H locs S16 eS16 hQ => ?_)
  have hI := invX_up_11 hI eS16 ⟨_, rfl⟩
  have c17 : S16 11 = .inl (g.2 0, 6, .inl (va_cpy f10 f13 (0 : Int32).toNatClampNeg (0 : Int32).toNatClampNeg (6 : Int32).toNatClampNeg)) := up_at eS16 rfl
  refine lv_aload_n hx hb dX6_copyFrom_23 rfl (lv_at hl 1 rfl) ?_
  have c18 : S16 28 = .inr (6, [.int v1, .ref (ad 29), .ref (ad 30), .ref (ad 31), .ref (ad 32)]) := (up_ne eS16 (by decide) c9)
  refine xget E hQ 28 (by decide) c18 rfl 2 (by decide) q191 rfl dX6_copyFrom_24 ?_
  refine lv_iconst (v := 0) hx hb dX6_copyFrom_27 (by decide) ?_
  refine lv_aload_n hx hb dX6_copyFrom_28 rfl (lv_at hl 0 rfl) ?_
  have c19 : S16 10 = .inr (6, [.int v1, .ref (ad 11), .ref (ad 12), .ref (ad 13), .ref (ad 14)]) := (up_ne eS16 (by decide) c8)
  refine xget E hQ 10 (by decide) c19 rfl 2 (by decide) q191 rfl dX6_copyFrom_29 ?_
  refine lv_iconst (v := 0) hx hb dX6_copyFrom_32 (by decide) ?_
  refine lv_bipush (v := 6) hx hb dX6_copyFrom_33 (by decide) ?_
  obtain ⟨f20, c21⟩ := invX_30 hI
  obtain ⟨f23, c24⟩ := invX_12 hI
  refine xcopyi E hs hQ hml hl.1 30 (by decide) 12 (by decide) c21 c24 q756 (by decide) (by decide) (by decide) (Nat.le_of_ble_eq_true rfl) (Nat.le_of_ble_eq_true rfl) (Nat.le_of_ble_eq_true rfl) (Nat.le_of_ble_eq_true rfl) dX6_copyFrom_35 (fun H locs S26 eS26 hQ => ?_)
  have hI := invX_up_12 hI eS26 ⟨_, rfl⟩
  have c27 : S26 12 = .inl (g.2 0, 6, .inl (va_cpy f20 f23 (0 : Int32).toNatClampNeg (0 : Int32).toNatClampNeg (6 : Int32).toNatClampNeg)) := up_at eS26 rfl
  refine lv_aload_n hx hb dX6_copyFrom_38 rfl (lv_at hl 1 rfl) ?_
  have c28 : S26 28 = .inr (6, [.int v1, .ref (ad 29), .ref (ad 30), .ref (ad 31), .ref (ad 32)]) := (up_ne eS26 (by decide) c18)
  refine xget E hQ 28 (by decide) c28 rfl 3 (by decide) q193 rfl dX6_copyFrom_39 ?_
  refine lv_iconst (v := 0) hx hb dX6_copyFrom_42 (by decide) ?_
  refine lv_aload_n hx hb dX6_copyFrom_43 rfl (lv_at hl 0 rfl) ?_
  have c29 : S26 10 = .inr (6, [.int v1, .ref (ad 11), .ref (ad 12), .ref (ad 13), .ref (ad 14)]) := (up_ne eS26 (by decide) c19)
  refine xget E hQ 10 (by decide) c29 rfl 3 (by decide) q193 rfl dX6_copyFrom_44 ?_
  refine lv_iconst (v := 0) hx hb dX6_copyFrom_47 (by decide) ?_
  refine lv_bipush (v := 6) hx hb dX6_copyFrom_48 (by decide) ?_
  obtain ⟨f30, c31⟩ := invX_31 hI
  obtain ⟨f33, c34⟩ := invX_13 hI
  refine xcopyi E hs hQ hml hl.1 31 (by decide) 13 (by decide) c31 c34 q756 (by decide) (by decide) (by decide) (Nat.le_of_ble_eq_true rfl) (Nat.le_of_ble_eq_true rfl) (Nat.le_of_ble_eq_true rfl) (Nat.le_of_ble_eq_true rfl) dX6_copyFrom_50 (fun H locs S36 eS36 hQ => ?_)
  have hI := invX_up_13 hI eS36 ⟨_, rfl⟩
  have c37 : S36 13 = .inl (g.2 0, 6, .inl (va_cpy f30 f33 (0 : Int32).toNatClampNeg (0 : Int32).toNatClampNeg (6 : Int32).toNatClampNeg)) := up_at eS36 rfl
  refine lv_aload_n hx hb dX6_copyFrom_53 rfl (lv_at hl 1 rfl) ?_
  have c38 : S36 28 = .inr (6, [.int v1, .ref (ad 29), .ref (ad 30), .ref (ad 31), .ref (ad 32)]) := (up_ne eS36 (by decide) c28)
  refine xget E hQ 28 (by decide) c38 rfl 4 (by decide) q195 rfl dX6_copyFrom_54 ?_
  refine lv_iconst (v := 0) hx hb dX6_copyFrom_57 (by decide) ?_
  refine lv_aload_n hx hb dX6_copyFrom_58 rfl (lv_at hl 0 rfl) ?_
  have c39 : S36 10 = .inr (6, [.int v1, .ref (ad 11), .ref (ad 12), .ref (ad 13), .ref (ad 14)]) := (up_ne eS36 (by decide) c29)
  refine xget E hQ 10 (by decide) c39 rfl 4 (by decide) q195 rfl dX6_copyFrom_59 ?_
  refine lv_iconst (v := 0) hx hb dX6_copyFrom_62 (by decide) ?_
  refine lv_bipush (v := 6) hx hb dX6_copyFrom_63 (by decide) ?_
  obtain ⟨f40, c41⟩ := invX_32 hI
  obtain ⟨f43, c44⟩ := invX_14 hI
  refine xcopyi E hs hQ hml hl.1 32 (by decide) 14 (by decide) c41 c44 q756 (by decide) (by decide) (by decide) (Nat.le_of_ble_eq_true rfl) (Nat.le_of_ble_eq_true rfl) (Nat.le_of_ble_eq_true rfl) (Nat.le_of_ble_eq_true rfl) dX6_copyFrom_65 (fun H locs S46 eS46 hQ => ?_)
  have hI := invX_up_14 hI eS46 ⟨_, rfl⟩
  have c47 : S46 14 = .inl (g.2 0, 6, .inl (va_cpy f40 f43 (0 : Int32).toNatClampNeg (0 : Int32).toNatClampNeg (6 : Int32).toNatClampNeg)) := up_at eS46 rfl
  exact xrv E hr hlk hQ (⟨hI, (up_o (up_o (up_o (up_o (up_o o_refl eS7 (by decide)) eS16 (by decide)) eS26 (by decide)) eS36 (by decide)) eS46 (by decide))⟩) dX6_copyFrom_68
set_option maxHeartbeats 4000000 in
set_option maxRecDepth 100000 in
theorem gX1_copyFrom_2_20 (l : Launch) (g : GG) (ad : Nat → Nat) (hD : Dj ad 122) (S : SS) (hI : InvX g ad S) (hAR20 : ARp (S 34) (S 35) (S 36) (S 37)) : Met l yX1_copyFrom (wG (.code yX1_copyFrom cX1_copyFrom 2 none)) (Rm 2) (XPre g ad 122 S [.ref (ad 2), .ref (ad 20)]) (va_Qv (fun S' => InvX g ad S' ∧ (∀ j, j ∉ ([2, 3, 4, 5, 6, 7, 8, 9, 10, 11, 12, 13, 14, 15, 16, 17, 18, 19] : List Nat) → S' j = S j) ∧ (0 ≤ fld (S 20) 0 + (-1) * fld (S' 2) 0 ∧ 0 ≤ fld (S' 2) 0 + (-1) * fld (S 20) 0) ∧ (0 ≤ fld (S 20) 1 + (-1) * fld (S' 2) 1 ∧ 0 ≤ fld (S' 2) 1 + (-1) * fld (S 20) 1) ∧ (0 ≤ fld (S 20) 7 + (-1) * fld (S' 2) 7 ∧ 0 ≤ fld (S' 2) 7 + (-1) * fld (S 20) 7) ∧ (0 ≤ fld (S 20) 12 + (-1) * fld (S' 2) 12 ∧ 0 ≤ fld (S' 2) 12 + (-1) * fld (S 20) 12) ∧ (ARp (S' 16) (S' 17) (S' 18) (S' 19))) (QB g ad 122) (FA ad 122)) 0 0 (FA ad 122) := by
  refine xmet cX1_copyFrom "EbbWreck$Coast" (by decide) rfl (Nat.le_of_ble_eq_true rfl) (fun p e s m below meth c E hr hlk hml hQ ls hl => ?_)
  have hx := E.1
  have hb := E.2.1
  have hs : Sp ad 122 (FA ad 122) := Sp.fa hD
  have hl : lv_has ls 2 [(0, .ref (ad 2)), (1, .ref (ad 20))] := hl
  obtain ⟨v1, v3, v5, v6, v7, v9, c11, b2, b4, b8, b10⟩ := invX_20 hI
  have c11 : S 20 = .inr (1, [.int v1, .int v3, .int v5, .ref (ad 21), .ref (ad 23), .ref (ad 24), .int v6, .int v7, .ref (ad 25), .ref (ad 26), .ref (ad 27), .ref (ad 28), .int v9, .ref (ad 33), .ref (ad 34)]) := c11
  obtain ⟨v12, v14, v16, v17, v18, v20, c22, b13, b15, b19, b21⟩ := invX_2 hI
  have c22 : S 2 = .inr (1, [.int v12, .int v14, .int v16, .ref (ad 3), .ref (ad 5), .ref (ad 6), .int v17, .int v18, .ref (ad 7), .ref (ad 8), .ref (ad 9), .ref (ad 10), .int v20, .ref (ad 15), .ref (ad 16)]) := c22
  obtain ⟨v23, c25, b24⟩ := invX_34 hI
  have c25 : S 34 = .inr (0, [.int v23, .ref (ad 35), .ref (ad 36), .ref (ad 37)]) := c25
  obtain ⟨f26, c27⟩ := invX_35 hI
  obtain ⟨f29, c30, b31⟩ := invX_36 hI
  obtain ⟨f32, c33, b34⟩ := invX_37 hI
  refine lv_aload_n hx hb dX1_copyFrom_0 rfl (lv_at hl 0 rfl) ?_
  refine lv_aload_n hx hb dX1_copyFrom_1 rfl (lv_at hl 1 rfl) ?_
  refine xget E hQ 20 (by decide) c11 rfl 0 (by decide) q236 rfl dX1_copyFrom_2 ?_
  refine xputi E hs hQ 2 (by decide) c22 rfl 0 (by decide) q236 rfl rfl (Nat.le_of_ble_eq_true rfl) dX1_copyFrom_5 (fun H locs S35 eS35 hQ => ?_)
  have hI := invX_up_2 hI eS35 ⟨v1, v14, v16, v17, v18, v20, rfl, b2, b15, b19, b21⟩
  have c36 : S35 2 = .inr (1, [.int v1, .int v14, .int v16, .ref (ad 3), .ref (ad 5), .ref (ad 6), .int v17, .int v18, .ref (ad 7), .ref (ad 8), .ref (ad 9), .ref (ad 10), .int v20, .ref (ad 15), .ref (ad 16)]) := up_at eS35 rfl
  refine lv_aload_n hx hb dX1_copyFrom_8 rfl (lv_at hl 0 rfl) ?_
  refine lv_aload_n hx hb dX1_copyFrom_9 rfl (lv_at hl 1 rfl) ?_
  have c37 : S35 20 = .inr (1, [.int v1, .int v3, .int v5, .ref (ad 21), .ref (ad 23), .ref (ad 24), .int v6, .int v7, .ref (ad 25), .ref (ad 26), .ref (ad 27), .ref (ad 28), .int v9, .ref (ad 33), .ref (ad 34)]) := (up_ne eS35 (by decide) c11)
  refine xget E hQ 20 (by decide) c37 rfl 1 (by decide) q239 rfl dX1_copyFrom_10 ?_
  refine xputi E hs hQ 2 (by decide) c36 rfl 1 (by decide) q239 rfl rfl (Nat.le_of_ble_eq_true rfl) dX1_copyFrom_13 (fun H locs S38 eS38 hQ => ?_)
  have hI := invX_up_2 hI eS38 ⟨v1, v3, v16, v17, v18, v20, rfl, b2, b4, b19, b21⟩
  have c39 : S38 2 = .inr (1, [.int v1, .int v3, .int v16, .ref (ad 3), .ref (ad 5), .ref (ad 6), .int v17, .int v18, .ref (ad 7), .ref (ad 8), .ref (ad 9), .ref (ad 10), .int v20, .ref (ad 15), .ref (ad 16)]) := up_at eS38 rfl
  refine lv_aload_n hx hb dX1_copyFrom_16 rfl (lv_at hl 0 rfl) ?_
  refine lv_aload_n hx hb dX1_copyFrom_17 rfl (lv_at hl 1 rfl) ?_
  have c40 : S38 20 = .inr (1, [.int v1, .int v3, .int v5, .ref (ad 21), .ref (ad 23), .ref (ad 24), .int v6, .int v7, .ref (ad 25), .ref (ad 26), .ref (ad 27), .ref (ad 28), .int v9, .ref (ad 33), .ref (ad 34)]) := (up_ne eS38 (by decide) c37)
  refine xget E hQ 20 (by decide) c40 rfl 2 (by decide) q247 rfl dX1_copyFrom_18 ?_
  refine xputi E hs hQ 2 (by decide) c39 rfl 2 (by decide) q247 rfl rfl (Nat.le_of_ble_eq_true rfl) dX1_copyFrom_21 (fun H locs S41 eS41 hQ => ?_)
  have hI := invX_up_2 hI eS41 ⟨v1, v3, v5, v17, v18, v20, rfl, b2, b4, b19, b21⟩
  have c42 : S41 2 = .inr (1, [.int v1, .int v3, .int v5, .ref (ad 3), .ref (ad 5), .ref (ad 6), .int v17, .int v18, .ref (ad 7), .ref (ad 8), .ref (ad 9), .ref (ad 10), .int v20, .ref (ad 15), .ref (ad 16)]) := up_at eS41 rfl
  refine lv_aload_n hx hb dX1_copyFrom_24 rfl (lv_at hl 0 rfl) ?_
  refine xget E hQ 2 (by decide) c42 rfl 3 (by decide) q251 rfl dX1_copyFrom_25 ?_
  refine lv_aload_n hx hb dX1_copyFrom_28 rfl (lv_at hl 1 rfl) ?_
  have c43 : S41 20 = .inr (1, [.int v1, .int v3, .int v5, .ref (ad 21), .ref (ad 23), .ref (ad 24), .int v6, .int v7, .ref (ad 25), .ref (ad 26), .ref (ad 27), .ref (ad 28), .int v9, .ref (ad 33), .ref (ad 34)]) := (up_ne eS41 (by decide) c40)
  refine xget E hQ 20 (by decide) c43 rfl 3 (by decide) q251 rfl dX1_copyFrom_29 ?_
  obtain ⟨v44, v46, v48, v50, c52, b45, b47, b49, b51⟩ := invX_21 hI
  have c52 : S41 21 = .inr (10, [.int v44, .int v46, .int v48, .int v50, .ref (ad 22)]) := c52
  refine xget E hQ 21 (by decide) c52 rfl 0 (by decide) q156 rfl dX1_copyFrom_32 ?_
  refine lv_aload_n hx hb dX1_copyFrom_35 rfl (lv_at hl 1 rfl) ?_
  refine xget E hQ 20 (by decide) c43 rfl 3 (by decide) q251 rfl dX1_copyFrom_36 ?_
  refine xget E hQ 21 (by decide) c52 rfl 1 (by decide) q159 rfl dX1_copyFrom_39 ?_
  refine lv_aload_n hx hb dX1_copyFrom_42 rfl (lv_at hl 1 rfl) ?_
  refine xget E hQ 20 (by decide) c43 rfl 3 (by decide) q251 rfl dX1_copyFrom_43 ?_
  refine xget E hQ 21 (by decide) c52 rfl 2 (by decide) q162 rfl dX1_copyFrom_46 ?_
  obtain ⟨v54, v56, v58, v60, c62, b55, b57, b59, b61⟩ := invX_3 hI
  have c62 : S41 3 = .inr (10, [.int v54, .int v56, .int v58, .int v60, .ref (ad 4)]) := c62
  refine xcVv E hs hQ hml hl.1 3 (gX10_tell_3 l g ad hD S41 hI v44 v46 v48 b45 b47 b49) mX10_tell q592 (by decide) c62 rfl rfl ⟨(Nat.le_of_ble_eq_true rfl), (Nat.le_of_ble_eq_true rfl)⟩ ⟨(Nat.le_of_ble_eq_true rfl), (Nat.le_of_ble_eq_true rfl)⟩ (Nat.le_of_ble_eq_true rfl) rfl dX1_copyFrom_49 (fun S53 H locs hp53 hQ _ => ?_)
  obtain ⟨hI, o53⟩ := hp53
  refine lv_aload_n hx hb dX1_copyFrom_52 rfl (lv_at hl 1 rfl) ?_
  have c63 : S53 20 = .inr (1, [.int v1, .int v3, .int v5, .ref (ad 21), .ref (ad 23), .ref (ad 24), .int v6, .int v7, .ref (ad 25), .ref (ad 26), .ref (ad 27), .ref (ad 28), .int v9, .ref (ad 33), .ref (ad 34)]) := ((o53 20 (by decide)).trans c43)
  refine xget E hQ 20 (by decide) c63 rfl 4 (by decide) q257 rfl dX1_copyFrom_53 ?_
  refine lv_iconst (v := 0) hx hb dX1_copyFrom_56 (by decide) ?_
  refine lv_aload_n hx hb dX1_copyFrom_57 rfl (lv_at hl 0 rfl) ?_
  have c64 : S53 2 = .inr (1, [.int v1, .int v3, .int v5, .ref (ad 3), .ref (ad 5), .ref (ad 6), .int v17, .int v18, .ref (ad 7), .ref (ad 8), .ref (ad 9), .ref (ad 10), .int v20, .ref (ad 15), .ref (ad 16)]) := ((o53 2 (by decide)).trans c42)
  refine xget E hQ 2 (by decide) c64 rfl 4 (by decide) q257 rfl dX1_copyFrom_58 ?_
  refine lv_iconst (v := 0) hx hb dX1_copyFrom_61 (by decide) ?_
  refine lv_bipush (v := 12) hx hb dX1_copyFrom_62 (by decide) ?_
  obtain ⟨f65, c66⟩ := invX_23 hI
  obtain ⟨f68, c69⟩ := invX_5 hI
  refine xcopyi E hs hQ hml hl.1 23 (by decide) 5 (by decide) c66 c69 q749 (by decide) (by decide) (by decide) (Nat.le_of_ble_eq_true rfl) (Nat.le_of_ble_eq_true rfl) (Nat.le_of_ble_eq_true rfl) (Nat.le_of_ble_eq_true rfl) dX1_copyFrom_64 (fun H locs S71 eS71 hQ => ?_)
  have hI := invX_up_5 hI eS71 ⟨_, rfl⟩
  have c72 : S71 5 = .inl (g.2 0, 12, .inl (va_cpy f65 f68 (0 : Int32).toNatClampNeg (0 : Int32).toNatClampNeg (12 : Int32).toNatClampNeg)) := up_at eS71 rfl
  refine lv_aload_n hx hb dX1_copyFrom_67 rfl (lv_at hl 1 rfl) ?_
  have c73 : S71 20 = .inr (1, [.int v1, .int v3, .int v5, .ref (ad 21), .ref (ad 23), .ref (ad 24), .int v6, .int v7, .ref (ad 25), .ref (ad 26), .ref (ad 27), .ref (ad 28), .int v9, .ref (ad 33), .ref (ad 34)]) := (up_ne eS71 (by decide) c63)
  refine xget E hQ 20 (by decide) c73 rfl 5 (by decide) q260 rfl dX1_copyFrom_68 ?_
  refine lv_iconst (v := 0) hx hb dX1_copyFrom_71 (by decide) ?_
  refine lv_aload_n hx hb dX1_copyFrom_72 rfl (lv_at hl 0 rfl) ?_
  have c74 : S71 2 = .inr (1, [.int v1, .int v3, .int v5, .ref (ad 3), .ref (ad 5), .ref (ad 6), .int v17, .int v18, .ref (ad 7), .ref (ad 8), .ref (ad 9), .ref (ad 10), .int v20, .ref (ad 15), .ref (ad 16)]) := (up_ne eS71 (by decide) c64)
  refine xget E hQ 2 (by decide) c74 rfl 5 (by decide) q260 rfl dX1_copyFrom_73 ?_
  refine lv_iconst (v := 0) hx hb dX1_copyFrom_76 (by decide) ?_
  refine lv_bipush (v := 12) hx hb dX1_copyFrom_77 (by decide) ?_
  obtain ⟨f75, c76⟩ := invX_24 hI
  obtain ⟨f78, c79⟩ := invX_6 hI
  refine xcopyi E hs hQ hml hl.1 24 (by decide) 6 (by decide) c76 c79 q749 (by decide) (by decide) (by decide) (Nat.le_of_ble_eq_true rfl) (Nat.le_of_ble_eq_true rfl) (Nat.le_of_ble_eq_true rfl) (Nat.le_of_ble_eq_true rfl) dX1_copyFrom_79 (fun H locs S81 eS81 hQ => ?_)
  have hI := invX_up_6 hI eS81 ⟨_, rfl⟩
  have c82 : S81 6 = .inl (g.2 0, 12, .inl (va_cpy f75 f78 (0 : Int32).toNatClampNeg (0 : Int32).toNatClampNeg (12 : Int32).toNatClampNeg)) := up_at eS81 rfl
  refine lv_aload_n hx hb dX1_copyFrom_82 rfl (lv_at hl 0 rfl) ?_
  refine lv_aload_n hx hb dX1_copyFrom_83 rfl (lv_at hl 1 rfl) ?_
  have c83 : S81 20 = .inr (1, [.int v1, .int v3, .int v5, .ref (ad 21), .ref (ad 23), .ref (ad 24), .int v6, .int v7, .ref (ad 25), .ref (ad 26), .ref (ad 27), .ref (ad 28), .int v9, .ref (ad 33), .ref (ad 34)]) := (up_ne eS81 (by decide) c73)
  refine xget E hQ 20 (by decide) c83 rfl 6 (by decide) q263 rfl dX1_copyFrom_84 ?_
  have c84 : S81 2 = .inr (1, [.int v1, .int v3, .int v5, .ref (ad 3), .ref (ad 5), .ref (ad 6), .int v17, .int v18, .ref (ad 7), .ref (ad 8), .ref (ad 9), .ref (ad 10), .int v20, .ref (ad 15), .ref (ad 16)]) := (up_ne eS81 (by decide) c74)
  refine xputi E hs hQ 2 (by decide) c84 rfl 6 (by decide) q263 rfl rfl (Nat.le_of_ble_eq_true rfl) dX1_copyFrom_87 (fun H locs S85 eS85 hQ => ?_)
  have hI := invX_up_2 hI eS85 ⟨v1, v3, v5, v6, v18, v20, rfl, b2, b4, b19, b21⟩
  have c86 : S85 2 = .inr (1, [.int v1, .int v3, .int v5, .ref (ad 3), .ref (ad 5), .ref (ad 6), .int v6, .int v18, .ref (ad 7), .ref (ad 8), .ref (ad 9), .ref (ad 10), .int v20, .ref (ad 15), .ref (ad 16)]) := up_at eS85 rfl
  refine lv_aload_n hx hb dX1_copyFrom_90 rfl (lv_at hl 0 rfl) ?_
  refine lv_aload_n hx hb dX1_copyFrom_91 rfl (lv_at hl 1 rfl) ?_
  have c87 : S85 20 = .inr (1, [.int v1, .int v3, .int v5, .ref (ad 21), .ref (ad 23), .ref (ad 24), .int v6, .int v7, .ref (ad 25), .ref (ad 26), .ref (ad 27), .ref (ad 28), .int v9, .ref (ad 33), .ref (ad 34)]) := (up_ne eS85 (by decide) c83)
  refine xget E hQ 20 (by decide) c87 rfl 7 (by decide) q270 rfl dX1_copyFrom_92 ?_
  refine xputi E hs hQ 2 (by decide) c86 rfl 7 (by decide) q270 rfl rfl (Nat.le_of_ble_eq_true rfl) dX1_copyFrom_95 (fun H locs S88 eS88 hQ => ?_)
  have hI := invX_up_2 hI eS88 ⟨v1, v3, v5, v6, v7, v20, rfl, b2, b4, b8, b21⟩
  have c89 : S88 2 = .inr (1, [.int v1, .int v3, .int v5, .ref (ad 3), .ref (ad 5), .ref (ad 6), .int v6, .int v7, .ref (ad 7), .ref (ad 8), .ref (ad 9), .ref (ad 10), .int v20, .ref (ad 15), .ref (ad 16)]) := up_at eS88 rfl
  refine lv_aload_n hx hb dX1_copyFrom_98 rfl (lv_at hl 1 rfl) ?_
  have c90 : S88 20 = .inr (1, [.int v1, .int v3, .int v5, .ref (ad 21), .ref (ad 23), .ref (ad 24), .int v6, .int v7, .ref (ad 25), .ref (ad 26), .ref (ad 27), .ref (ad 28), .int v9, .ref (ad 33), .ref (ad 34)]) := (up_ne eS88 (by decide) c87)
  refine xget E hQ 20 (by decide) c90 rfl 8 (by decide) q274 rfl dX1_copyFrom_99 ?_
  refine lv_iconst (v := 0) hx hb dX1_copyFrom_102 (by decide) ?_
  refine lv_aload_n hx hb dX1_copyFrom_103 rfl (lv_at hl 0 rfl) ?_
  refine xget E hQ 2 (by decide) c89 rfl 8 (by decide) q274 rfl dX1_copyFrom_104 ?_
  refine lv_iconst (v := 0) hx hb dX1_copyFrom_107 (by decide) ?_
  refine lv_bipush (v := 8) hx hb dX1_copyFrom_108 (by decide) ?_
  obtain ⟨f91, c92⟩ := invX_25 hI
  obtain ⟨f94, c95⟩ := invX_7 hI
  refine xcopyi E hs hQ hml hl.1 25 (by decide) 7 (by decide) c92 c95 q749 (by decide) (by decide) (by decide) (Nat.le_of_ble_eq_true rfl) (Nat.le_of_ble_eq_true rfl) (Nat.le_of_ble_eq_true rfl) (Nat.le_of_ble_eq_true rfl) dX1_copyFrom_110 (fun H locs S97 eS97 hQ => ?_)
  have hI := invX_up_7 hI eS97 ⟨_, rfl⟩
  have c98 : S97 7 = .inl (g.2 0, 8, .inl (va_cpy f91 f94 (0 : Int32).toNatClampNeg (0 : Int32).toNatClampNeg (8 : Int32).toNatClampNeg)) := up_at eS97 rfl
  refine lv_aload_n hx hb dX1_copyFrom_113 rfl (lv_at hl 1 rfl) ?_
  have c99 : S97 20 = .inr (1, [.int v1, .int v3, .int v5, .ref (ad 21), .ref (ad 23), .ref (ad 24), .int v6, .int v7, .ref (ad 25), .ref (ad 26), .ref (ad 27), .ref (ad 28), .int v9, .ref (ad 33), .ref (ad 34)]) := (up_ne eS97 (by decide) c90)
  refine xget E hQ 20 (by decide) c99 rfl 9 (by decide) q279 rfl dX1_copyFrom_114 ?_
  refine lv_iconst (v := 0) hx hb dX1_copyFrom_117 (by decide) ?_
  refine lv_aload_n hx hb dX1_copyFrom_118 rfl (lv_at hl 0 rfl) ?_
  have c100 : S97 2 = .inr (1, [.int v1, .int v3, .int v5, .ref (ad 3), .ref (ad 5), .ref (ad 6), .int v6, .int v7, .ref (ad 7), .ref (ad 8), .ref (ad 9), .ref (ad 10), .int v20, .ref (ad 15), .ref (ad 16)]) := (up_ne eS97 (by decide) c89)
  refine xget E hQ 2 (by decide) c100 rfl 9 (by decide) q279 rfl dX1_copyFrom_119 ?_
  refine lv_iconst (v := 0) hx hb dX1_copyFrom_122 (by decide) ?_
  refine lv_bipush (v := 8) hx hb dX1_copyFrom_123 (by decide) ?_
  obtain ⟨f101, c102, b103⟩ := invX_26 hI
  obtain ⟨f104, c105, b106⟩ := invX_8 hI
  refine xcopyi E hs hQ hml hl.1 26 (by decide) 8 (by decide) c102 c105 q749 (by decide) (by decide) (by decide) (Nat.le_of_ble_eq_true rfl) (Nat.le_of_ble_eq_true rfl) (Nat.le_of_ble_eq_true rfl) (Nat.le_of_ble_eq_true rfl) dX1_copyFrom_125 (fun H locs S107 eS107 hQ => ?_)
  have hI := invX_up_8 hI eS107 ⟨_, rfl, cpy_b b103 b106⟩
  have b109 : ∀ j, Bd ((va_cpy f101 f104 (0 : Int32).toNatClampNeg (0 : Int32).toNatClampNeg (8 : Int32).toNatClampNeg) j) (0) (11) := cpy_b b103 b106
  have c108 : S107 8 = .inl (g.2 0, 8, .inl (va_cpy f101 f104 (0 : Int32).toNatClampNeg (0 : Int32).toNatClampNeg (8 : Int32).toNatClampNeg)) := up_at eS107 rfl
  refine lv_aload_n hx hb dX1_copyFrom_128 rfl (lv_at hl 1 rfl) ?_
  have c110 : S107 20 = .inr (1, [.int v1, .int v3, .int v5, .ref (ad 21), .ref (ad 23), .ref (ad 24), .int v6, .int v7, .ref (ad 25), .ref (ad 26), .ref (ad 27), .ref (ad 28), .int v9, .ref (ad 33), .ref (ad 34)]) := (up_ne eS107 (by decide) c99)
  refine xget E hQ 20 (by decide) c110 rfl 10 (by decide) q284 rfl dX1_copyFrom_129 ?_
  refine lv_iconst (v := 0) hx hb dX1_copyFrom_132 (by decide) ?_
  refine lv_aload_n hx hb dX1_copyFrom_133 rfl (lv_at hl 0 rfl) ?_
  have c111 : S107 2 = .inr (1, [.int v1, .int v3, .int v5, .ref (ad 3), .ref (ad 5), .ref (ad 6), .int v6, .int v7, .ref (ad 7), .ref (ad 8), .ref (ad 9), .ref (ad 10), .int v20, .ref (ad 15), .ref (ad 16)]) := (up_ne eS107 (by decide) c100)
  refine xget E hQ 2 (by decide) c111 rfl 10 (by decide) q284 rfl dX1_copyFrom_134 ?_
  refine lv_iconst (v := 0) hx hb dX1_copyFrom_137 (by decide) ?_
  refine lv_bipush (v := 8) hx hb dX1_copyFrom_138 (by decide) ?_
  obtain ⟨f112, c113, b114⟩ := invX_27 hI
  obtain ⟨f115, c116, b117⟩ := invX_9 hI
  refine xcopyi E hs hQ hml hl.1 27 (by decide) 9 (by decide) c113 c116 q749 (by decide) (by decide) (by decide) (Nat.le_of_ble_eq_true rfl) (Nat.le_of_ble_eq_true rfl) (Nat.le_of_ble_eq_true rfl) (Nat.le_of_ble_eq_true rfl) dX1_copyFrom_140 (fun H locs S118 eS118 hQ => ?_)
  have hI := invX_up_9 hI eS118 ⟨_, rfl, cpy_b b114 b117⟩
  have b120 : ∀ j, Bd ((va_cpy f112 f115 (0 : Int32).toNatClampNeg (0 : Int32).toNatClampNeg (8 : Int32).toNatClampNeg) j) (0) (99) := cpy_b b114 b117
  have c119 : S118 9 = .inl (g.2 0, 8, .inl (va_cpy f112 f115 (0 : Int32).toNatClampNeg (0 : Int32).toNatClampNeg (8 : Int32).toNatClampNeg)) := up_at eS118 rfl
  refine lv_aload_n hx hb dX1_copyFrom_143 rfl (lv_at hl 0 rfl) ?_
  have c121 : S118 2 = .inr (1, [.int v1, .int v3, .int v5, .ref (ad 3), .ref (ad 5), .ref (ad 6), .int v6, .int v7, .ref (ad 7), .ref (ad 8), .ref (ad 9), .ref (ad 10), .int v20, .ref (ad 15), .ref (ad 16)]) := (up_ne eS118 (by decide) c111)
  refine xget E hQ 2 (by decide) c121 rfl 11 (by decide) q289 rfl dX1_copyFrom_144 ?_
  refine lv_aload_n hx hb dX1_copyFrom_147 rfl (lv_at hl 1 rfl) ?_
  have c122 : S118 20 = .inr (1, [.int v1, .int v3, .int v5, .ref (ad 21), .ref (ad 23), .ref (ad 24), .int v6, .int v7, .ref (ad 25), .ref (ad 26), .ref (ad 27), .ref (ad 28), .int v9, .ref (ad 33), .ref (ad 34)]) := (up_ne eS118 (by decide) c110)
  refine xget E hQ 20 (by decide) c122 rfl 11 (by decide) q289 rfl dX1_copyFrom_148 ?_
  obtain ⟨v124, c126, b125⟩ := invX_10 hI
  have c126 : S118 10 = .inr (6, [.int v124, .ref (ad 11), .ref (ad 12), .ref (ad 13), .ref (ad 14)]) := c126
  refine xcVv E hs hQ hml hl.1 10 (gX6_copyFrom_10_28 l g ad hD S118 hI ) mX6_copyFrom q752 (by decide) c126 rfl rfl ⟨(Nat.le_of_ble_eq_true rfl), (Nat.le_of_ble_eq_true rfl)⟩ ⟨(Nat.le_of_ble_eq_true rfl), (Nat.le_of_ble_eq_true rfl)⟩ (Nat.le_of_ble_eq_true rfl) rfl dX1_copyFrom_151 (fun S123 H locs hp123 hQ _ => ?_)
  obtain ⟨hI, o123⟩ := hp123
  refine lv_aload_n hx hb dX1_copyFrom_154 rfl (lv_at hl 0 rfl) ?_
  refine lv_aload_n hx hb dX1_copyFrom_155 rfl (lv_at hl 1 rfl) ?_
  have c127 : S123 20 = .inr (1, [.int v1, .int v3, .int v5, .ref (ad 21), .ref (ad 23), .ref (ad 24), .int v6, .int v7, .ref (ad 25), .ref (ad 26), .ref (ad 27), .ref (ad 28), .int v9, .ref (ad 33), .ref (ad 34)]) := ((o123 20 (by decide)).trans c122)
  refine xget E hQ 20 (by decide) c127 rfl 12 (by decide) q293 rfl dX1_copyFrom_156 ?_
  have c128 : S123 2 = .inr (1, [.int v1, .int v3, .int v5, .ref (ad 3), .ref (ad 5), .ref (ad 6), .int v6, .int v7, .ref (ad 7), .ref (ad 8), .ref (ad 9), .ref (ad 10), .int v20, .ref (ad 15), .ref (ad 16)]) := ((o123 2 (by decide)).trans c121)
  refine xputi E hs hQ 2 (by decide) c128 rfl 12 (by decide) q293 rfl rfl (Nat.le_of_ble_eq_true rfl) dX1_copyFrom_159 (fun H locs S129 eS129 hQ => ?_)
  have hI := invX_up_2 hI eS129 ⟨v1, v3, v5, v6, v7, v9, rfl, b2, b4, b8, b10⟩
  have c130 : S129 2 = .inr (1, [.int v1, .int v3, .int v5, .ref (ad 3), .ref (ad 5), .ref (ad 6), .int v6, .int v7, .ref (ad 7), .ref (ad 8), .ref (ad 9), .ref (ad 10), .int v9, .ref (ad 15), .ref (ad 16)]) := up_at eS129 rfl
  refine lv_aload_n hx hb dX1_copyFrom_162 rfl (lv_at hl 1 rfl) ?_
  have c131 : S129 20 = .inr (1, [.int v1, .int v3, .int v5, .ref (ad 21), .ref (ad 23), .ref (ad 24), .int v6, .int v7, .ref (ad 25), .ref (ad 26), .ref (ad 27), .ref (ad 28), .int v9, .ref (ad 33), .ref (ad 34)]) := (up_ne eS129 (by decide) c127)
  refine xget E hQ 20 (by decide) c131 rfl 13 (by decide) q297 rfl dX1_copyFrom_163 ?_
  refine lv_iconst (v := 0) hx hb dX1_copyFrom_166 (by decide) ?_
  refine lv_aload_n hx hb dX1_copyFrom_167 rfl (lv_at hl 0 rfl) ?_
  refine xget E hQ 2 (by decide) c130 rfl 13 (by decide) q297 rfl dX1_copyFrom_168 ?_
  refine lv_iconst (v := 0) hx hb dX1_copyFrom_171 (by decide) ?_
  refine lv_iconst (v := 3) hx hb dX1_copyFrom_172 (by decide) ?_
  obtain ⟨f132, c133, b134⟩ := invX_33 hI
  obtain ⟨f135, c136, b137⟩ := invX_15 hI
  refine xcopyi E hs hQ hml hl.1 33 (by decide) 15 (by decide) c133 c136 q749 (by decide) (by decide) (by decide) (Nat.le_of_ble_eq_true rfl) (Nat.le_of_ble_eq_true rfl) (Nat.le_of_ble_eq_true rfl) (Nat.le_of_ble_eq_true rfl) dX1_copyFrom_173 (fun H locs S138 eS138 hQ => ?_)
  have hI := invX_up_15 hI eS138 ⟨_, rfl, cpy_b b134 b137⟩
  have b140 : ∀ j, Bd ((va_cpy f132 f135 (0 : Int32).toNatClampNeg (0 : Int32).toNatClampNeg (3 : Int32).toNatClampNeg) j) (0) (11) := cpy_b b134 b137
  have c139 : S138 15 = .inl (g.2 0, 3, .inl (va_cpy f132 f135 (0 : Int32).toNatClampNeg (0 : Int32).toNatClampNeg (3 : Int32).toNatClampNeg)) := up_at eS138 rfl
  refine lv_aload_n hx hb dX1_copyFrom_176 rfl (lv_at hl 0 rfl) ?_
  have c141 : S138 2 = .inr (1, [.int v1, .int v3, .int v5, .ref (ad 3), .ref (ad 5), .ref (ad 6), .int v6, .int v7, .ref (ad 7), .ref (ad 8), .ref (ad 9), .ref (ad 10), .int v9, .ref (ad 15), .ref (ad 16)]) := (up_ne eS138 (by decide) c130)
  refine xget E hQ 2 (by decide) c141 rfl 14 (by decide) q301 rfl dX1_copyFrom_177 ?_
  refine lv_aload_n hx hb dX1_copyFrom_180 rfl (lv_at hl 1 rfl) ?_
  have c142 : S138 20 = .inr (1, [.int v1, .int v3, .int v5, .ref (ad 21), .ref (ad 23), .ref (ad 24), .int v6, .int v7, .ref (ad 25), .ref (ad 26), .ref (ad 27), .ref (ad 28), .int v9, .ref (ad 33), .ref (ad 34)]) := (up_ne eS138 (by decide) c131)
  refine xget E hQ 20 (by decide) c142 rfl 14 (by decide) q301 rfl dX1_copyFrom_181 ?_
  have c143 : S138 34 = .inr (0, [.int v23, .ref (ad 35), .ref (ad 36), .ref (ad 37)]) := (up_ne eS138 (by decide) (up_ne eS129 (by decide) ((o123 34 (by decide)).trans (up_ne eS118 (by decide) (up_ne eS107 (by decide) (up_ne eS97 (by decide) (up_ne eS88 (by decide) (up_ne eS85 (by decide) (up_ne eS81 (by decide) (up_ne eS71 (by decide) ((o53 34 (by decide)).trans (up_ne eS41 (by decide) (up_ne eS38 (by decide) (up_ne eS35 (by decide) c25))))))))))))))
  obtain ⟨v145, c147, b146⟩ := invX_16 hI
  have c147 : S138 16 = .inr (0, [.int v145, .ref (ad 17), .ref (ad 18), .ref (ad 19)]) := c147
  refine xcVv E hs hQ hml hl.1 16 (gX0_copyFrom_16_34 l g ad hD S138 hI (ar_tr hAR20 ((up_eq (j := 34) eS138 (by decide)).trans ((up_eq (j := 34) eS129 (by decide)).trans ((o123 34 (by decide)).trans ((up_eq (j := 34) eS118 (by decide)).trans ((up_eq (j := 34) eS107 (by decide)).trans ((up_eq (j := 34) eS97 (by decide)).trans ((up_eq (j := 34) eS88 (by decide)).trans ((up_eq (j := 34) eS85 (by decide)).trans ((up_eq (j := 34) eS81 (by decide)).trans ((up_eq (j := 34) eS71 (by decide)).trans ((o53 34 (by decide)).trans ((up_eq (j := 34) eS41 (by decide)).trans ((up_eq (j := 34) eS38 (by decide)).trans (up_eq (j := 34) eS35 (by decide))))))))))))))) ((up_eq (j := 35) eS138 (by decide)).trans ((up_eq (j := 35) eS129 (by decide)).trans ((o123 35 (by decide)).trans ((up_eq (j := 35) eS118 (by decide)).trans ((up_eq (j := 35) eS107 (by decide)).trans ((up_eq (j := 35) eS97 (by decide)).trans ((up_eq (j := 35) eS88 (by decide)).trans ((up_eq (j := 35) eS85 (by decide)).trans ((up_eq (j := 35) eS81 (by decide)).trans ((up_eq (j := 35) eS71 (by decide)).trans ((o53 35 (by decide)).trans ((up_eq (j := 35) eS41 (by decide)).trans ((up_eq (j := 35) eS38 (by decide)).trans (up_eq (j := 35) eS35 (by decide))))))))))))))) ((up_eq (j := 36) eS138 (by decide)).trans ((up_eq (j := 36) eS129 (by decide)).trans ((o123 36 (by decide)).trans ((up_eq (j := 36) eS118 (by decide)).trans ((up_eq (j := 36) eS107 (by decide)).trans ((up_eq (j := 36) eS97 (by decide)).trans ((up_eq (j := 36) eS88 (by decide)).trans ((up_eq (j := 36) eS85 (by decide)).trans ((up_eq (j := 36) eS81 (by decide)).trans ((up_eq (j := 36) eS71 (by decide)).trans ((o53 36 (by decide)).trans ((up_eq (j := 36) eS41 (by decide)).trans ((up_eq (j := 36) eS38 (by decide)).trans (up_eq (j := 36) eS35 (by decide))))))))))))))) ((up_eq (j := 37) eS138 (by decide)).trans ((up_eq (j := 37) eS129 (by decide)).trans ((o123 37 (by decide)).trans ((up_eq (j := 37) eS118 (by decide)).trans ((up_eq (j := 37) eS107 (by decide)).trans ((up_eq (j := 37) eS97 (by decide)).trans ((up_eq (j := 37) eS88 (by decide)).trans ((up_eq (j := 37) eS85 (by decide)).trans ((up_eq (j := 37) eS81 (by decide)).trans ((up_eq (j := 37) eS71 (by decide)).trans ((o53 37 (by decide)).trans ((up_eq (j := 37) eS41 (by decide)).trans ((up_eq (j := 37) eS38 (by decide)).trans (up_eq (j := 37) eS35 (by decide))))))))))))))))) mX0_copyFrom q757 (by decide) c147 rfl rfl ⟨(Nat.le_of_ble_eq_true rfl), (Nat.le_of_ble_eq_true rfl)⟩ ⟨(Nat.le_of_ble_eq_true rfl), (Nat.le_of_ble_eq_true rfl)⟩ (Nat.le_of_ble_eq_true rfl) rfl dX1_copyFrom_184 (fun S144 H locs hp144 hQ _ => ?_)
  obtain ⟨hI, o144, g144_0, u144_0⟩ := hp144
  have q148 : fld (S138 34) 0 = v23.toInt := fld_of c143 rfl
  obtain ⟨v149, c151, b150⟩ := invX_16 hI
  have c151 : S144 16 = .inr (0, [.int v149, .ref (ad 17), .ref (ad 18), .ref (ad 19)]) := c151
  have q152 : fld (S144 16) 0 = v149.toInt := fld_of c151 rfl
  have q153 : fld (S 20) 0 = v1.toInt := fld_of c11 rfl
  have c154 : S144 2 = .inr (1, [.int v1, .int v3, .int v5, .ref (ad 3), .ref (ad 5), .ref (ad 6), .int v6, .int v7, .ref (ad 7), .ref (ad 8), .ref (ad 9), .ref (ad 10), .int v9, .ref (ad 15), .ref (ad 16)]) := ((o144 2 (by decide)).trans c141)
  have q155 : fld (S144 2) 0 = v1.toInt := fld_of c154 rfl
  have q156 : fld (S 20) 1 = v3.toInt := fld_of c11 rfl
  have q157 : fld (S144 2) 1 = v3.toInt := fld_of c154 rfl
  have q158 : fld (S 20) 7 = v7.toInt := fld_of c11 rfl
  have q159 : fld (S144 2) 7 = v7.toInt := fld_of c154 rfl
  have q160 : fld (S 20) 12 = v9.toInt := fld_of c11 rfl
  have q161 : fld (S144 2) 12 = v9.toInt := fld_of c154 rfl
  exact xrv E hr hlk hQ (⟨hI, (o_trans (up_o (up_o (o_trans (up_o (up_o (up_o (up_o (up_o (up_o (up_o (o_trans (up_o (up_o (up_o o_refl eS35 (by decide)) eS38 (by decide)) eS41 (by decide)) o53 (by decide)) eS71 (by decide)) eS81 (by decide)) eS85 (by decide)) eS88 (by decide)) eS97 (by decide)) eS107 (by decide)) eS118 (by decide)) o123 (by decide)) eS129 (by decide)) eS138 (by decide)) o144 (by decide)), ⟨by omega, by omega⟩, ⟨by omega, by omega⟩, ⟨by omega, by omega⟩, ⟨by omega, by omega⟩, u144_0⟩) dX1_copyFrom_187
set_option maxHeartbeats 4000000 in
set_option maxRecDepth 100000 in
theorem gX0_copyFrom_53_16 (l : Launch) (g : GG) (ad : Nat → Nat) (hD : Dj ad 122) (S : SS) (hI : InvX g ad S) (hAR2 : ARp (S 16) (S 17) (S 18) (S 19)) : Met l yX0_copyFrom (wG (.code yX0_copyFrom cX0_copyFrom 2 none)) (Rm 1) (XPre g ad 122 S [.ref (ad 53), .ref (ad 16)]) (va_Qv (fun S' => InvX g ad S' ∧ (∀ j, j ∉ ([53, 54, 55, 56] : List Nat) → S' j = S j) ∧ (0 ≤ fld (S 16) 0 + (-1) * fld (S' 53) 0 ∧ 0 ≤ fld (S' 53) 0 + (-1) * fld (S 16) 0) ∧ (ARp (S' 53) (S' 54) (S' 55) (S' 56))) (QB g ad 122) (FA ad 122)) 0 0 (FA ad 122) := by
  refine xmet cX0_copyFrom "EbbWreck$Acts" (by decide) rfl (Nat.le_of_ble_eq_true rfl) (fun p e s m below meth c E hr hlk hml hQ ls hl => ?_)
  have hx := E.1
  have hb := E.2.1
  have hs : Sp ad 122 (FA ad 122) := Sp.fa hD
  have hl : lv_has ls 2 [(0, .ref (ad 53)), (1, .ref (ad 16))] := hl
  obtain ⟨v1, c3, b2⟩ := invX_16 hI
  have c3 : S 16 = .inr (0, [.int v1, .ref (ad 17), .ref (ad 18), .ref (ad 19)]) := c3
  obtain ⟨v4, c6, b5⟩ := invX_53 hI
  have c6 : S 53 = .inr (0, [.int v4, .ref (ad 54), .ref (ad 55), .ref (ad 56)]) := c6
  obtain ⟨f7, c8⟩ := invX_17 hI
  obtain ⟨f10, c11, b12⟩ := invX_18 hI
  obtain ⟨f13, c14, b15⟩ := invX_19 hI
  refine lv_aload_n hx hb dX0_copyFrom_0 rfl (lv_at hl 0 rfl) ?_
  refine lv_aload_n hx hb dX0_copyFrom_1 rfl (lv_at hl 1 rfl) ?_
  refine xget E hQ 16 (by decide) c3 rfl 0 (by decide) q215 rfl dX0_copyFrom_2 ?_
  refine xputi E hs hQ 53 (by decide) c6 rfl 0 (by decide) q215 rfl rfl (Nat.le_of_ble_eq_true rfl) dX0_copyFrom_5 (fun H locs S16 eS16 hQ => ?_)
  have hI := invX_up_53 hI eS16 ⟨v1, rfl, b2⟩
  have c17 : S16 53 = .inr (0, [.int v1, .ref (ad 54), .ref (ad 55), .ref (ad 56)]) := up_at eS16 rfl
  refine lv_aload_n hx hb dX0_copyFrom_8 rfl (lv_at hl 1 rfl) ?_
  have c18 : S16 16 = .inr (0, [.int v1, .ref (ad 17), .ref (ad 18), .ref (ad 19)]) := (up_ne eS16 (by decide) c3)
  refine xget E hQ 16 (by decide) c18 rfl 1 (by decide) q219 rfl dX0_copyFrom_9 ?_
  refine lv_iconst (v := 0) hx hb dX0_copyFrom_12 (by decide) ?_
  refine lv_aload_n hx hb dX0_copyFrom_13 rfl (lv_at hl 0 rfl) ?_
  refine xget E hQ 53 (by decide) c17 rfl 1 (by decide) q219 rfl dX0_copyFrom_14 ?_
  refine lv_iconst (v := 0) hx hb dX0_copyFrom_17 (by decide) ?_
  refine lv_bipush (v := 40) hx hb dX0_copyFrom_18 (by decide) ?_
  have c19 : S16 17 = .inl (g.2 0, 40, .inl f7) := (up_ne eS16 (by decide) c8)
  obtain ⟨f20, c21⟩ := invX_54 hI
  refine xcopyi E hs hQ hml hl.1 17 (by decide) 54 (by decide) c19 c21 q761 (by decide) (by decide) (by decide) (Nat.le_of_ble_eq_true rfl) (Nat.le_of_ble_eq_true rfl) (Nat.le_of_ble_eq_true rfl) (Nat.le_of_ble_eq_true rfl) dX0_copyFrom_20 (fun H locs S23 eS23 hQ => ?_)
  have hI := invX_up_54 hI eS23 ⟨_, rfl⟩
  have c24 : S23 54 = .inl (g.2 0, 40, .inl (va_cpy f7 f20 (0 : Int32).toNatClampNeg (0 : Int32).toNatClampNeg (40 : Int32).toNatClampNeg)) := up_at eS23 rfl
  refine lv_aload_n hx hb dX0_copyFrom_23 rfl (lv_at hl 1 rfl) ?_
  have c25 : S23 16 = .inr (0, [.int v1, .ref (ad 17), .ref (ad 18), .ref (ad 19)]) := (up_ne eS23 (by decide) c18)
  refine xget E hQ 16 (by decide) c25 rfl 2 (by decide) q222 rfl dX0_copyFrom_24 ?_
  refine lv_iconst (v := 0) hx hb dX0_copyFrom_27 (by decide) ?_
  refine lv_aload_n hx hb dX0_copyFrom_28 rfl (lv_at hl 0 rfl) ?_
  have c26 : S23 53 = .inr (0, [.int v1, .ref (ad 54), .ref (ad 55), .ref (ad 56)]) := (up_ne eS23 (by decide) c17)
  refine xget E hQ 53 (by decide) c26 rfl 2 (by decide) q222 rfl dX0_copyFrom_29 ?_
  refine lv_iconst (v := 0) hx hb dX0_copyFrom_32 (by decide) ?_
  refine lv_bipush (v := 40) hx hb dX0_copyFrom_33 (by decide) ?_
  have c27 : S23 18 = .inl (g.2 0, 40, .inl f10) := (up_ne eS23 (by decide) (up_ne eS16 (by decide) c11))
  obtain ⟨f28, c29, b30⟩ := invX_55 hI
  refine xcopyi E hs hQ hml hl.1 18 (by decide) 55 (by decide) c27 c29 q761 (by decide) (by decide) (by decide) (Nat.le_of_ble_eq_true rfl) (Nat.le_of_ble_eq_true rfl) (Nat.le_of_ble_eq_true rfl) (Nat.le_of_ble_eq_true rfl) dX0_copyFrom_35 (fun H locs S31 eS31 hQ => ?_)
  have hI := invX_up_55 hI eS31 ⟨_, rfl, cpy_b b12 b30⟩
  have b33 : ∀ j, Bd ((va_cpy f10 f28 (0 : Int32).toNatClampNeg (0 : Int32).toNatClampNeg (40 : Int32).toNatClampNeg) j) (0) (7) := cpy_b b12 b30
  have c32 : S31 55 = .inl (g.2 0, 40, .inl (va_cpy f10 f28 (0 : Int32).toNatClampNeg (0 : Int32).toNatClampNeg (40 : Int32).toNatClampNeg)) := up_at eS31 rfl
  refine lv_aload_n hx hb dX0_copyFrom_38 rfl (lv_at hl 1 rfl) ?_
  have c34 : S31 16 = .inr (0, [.int v1, .ref (ad 17), .ref (ad 18), .ref (ad 19)]) := (up_ne eS31 (by decide) c25)
  refine xget E hQ 16 (by decide) c34 rfl 3 (by decide) q224 rfl dX0_copyFrom_39 ?_
  refine lv_iconst (v := 0) hx hb dX0_copyFrom_42 (by decide) ?_
  refine lv_aload_n hx hb dX0_copyFrom_43 rfl (lv_at hl 0 rfl) ?_
  have c35 : S31 53 = .inr (0, [.int v1, .ref (ad 54), .ref (ad 55), .ref (ad 56)]) := (up_ne eS31 (by decide) c26)
  refine xget E hQ 53 (by decide) c35 rfl 3 (by decide) q224 rfl dX0_copyFrom_44 ?_
  refine lv_iconst (v := 0) hx hb dX0_copyFrom_47 (by decide) ?_
  refine lv_bipush (v := 40) hx hb dX0_copyFrom_48 (by decide) ?_
  have c36 : S31 19 = .inl (g.2 0, 40, .inl f13) := (up_ne eS31 (by decide) (up_ne eS23 (by decide) (up_ne eS16 (by decide) c14)))
  obtain ⟨f37, c38, b39⟩ := invX_56 hI
  refine xcopyi E hs hQ hml hl.1 19 (by decide) 56 (by decide) c36 c38 q761 (by decide) (by decide) (by decide) (Nat.le_of_ble_eq_true rfl) (Nat.le_of_ble_eq_true rfl) (Nat.le_of_ble_eq_true rfl) (Nat.le_of_ble_eq_true rfl) dX0_copyFrom_50 (fun H locs S40 eS40 hQ => ?_)
  have hI := invX_up_56 hI eS40 ⟨_, rfl, cpy_b b15 b39⟩
  have b42 : ∀ j, Bd ((va_cpy f13 f37 (0 : Int32).toNatClampNeg (0 : Int32).toNatClampNeg (40 : Int32).toNatClampNeg) j) (0) (400) := cpy_b b15 b39
  have c41 : S40 56 = .inl (g.2 0, 40, .inl (va_cpy f13 f37 (0 : Int32).toNatClampNeg (0 : Int32).toNatClampNeg (40 : Int32).toNatClampNeg)) := up_at eS40 rfl
  have q43 : fld (S 16) 0 = v1.toInt := fld_of c3 rfl
  have c44 : S40 53 = .inr (0, [.int v1, .ref (ad 54), .ref (ad 55), .ref (ad 56)]) := (up_ne eS40 (by decide) c35)
  have q45 : fld (S40 53) 0 = v1.toInt := fld_of c44 rfl
  have c46 : S40 54 = .inl (g.2 0, 40, .inl (va_cpy f7 f20 (0 : Int32).toNatClampNeg (0 : Int32).toNatClampNeg (40 : Int32).toNatClampNeg)) := (up_ne eS40 (by decide) (up_ne eS31 (by decide) c24))
  have c47 : S40 55 = .inl (g.2 0, 40, .inl (va_cpy f10 f28 (0 : Int32).toNatClampNeg (0 : Int32).toNatClampNeg (40 : Int32).toNatClampNeg)) := (up_ne eS40 (by decide) c32)
  exact xrv E hr hlk hQ (⟨hI, (up_o (up_o (up_o (up_o o_refl eS16 (by decide)) eS23 (by decide)) eS31 (by decide)) eS40 (by decide)), ⟨by omega, by omega⟩, (ar_cpy c3 rfl c8 c11 c14 hAR2 (b2).2 c44 rfl c46 c47 c41)⟩) dX0_copyFrom_53
set_option maxHeartbeats 4000000 in
set_option maxRecDepth 100000 in
theorem gX6_copyFrom_47_10 (l : Launch) (g : GG) (ad : Nat → Nat) (hD : Dj ad 122) (S : SS) (hI : InvX g ad S) : Met l yX6_copyFrom (wG (.code yX6_copyFrom cX6_copyFrom 2 none)) (Rm 1) (XPre g ad 122 S [.ref (ad 47), .ref (ad 10)]) (va_Qv (fun S' => InvX g ad S' ∧ (∀ j, j ∉ ([47, 48, 49, 50, 51] : List Nat) → S' j = S j)) (QB g ad 122) (FA ad 122)) 0 0 (FA ad 122) := by
  refine xmet cX6_copyFrom "EbbWreck$RuleBook" (by decide) rfl (Nat.le_of_ble_eq_true rfl) (fun p e s m below meth c E hr hlk hml hQ ls hl => ?_)
  have hx := E.1
  have hb := E.2.1
  have hs : Sp ad 122 (FA ad 122) := Sp.fa hD
  have hl : lv_has ls 2 [(0, .ref (ad 47)), (1, .ref (ad 10))] := hl
  refine lv_aload_n hx hb dX6_copyFrom_0 rfl (lv_at hl 0 rfl) ?_
  refine lv_aload_n hx hb dX6_copyFrom_1 rfl (lv_at hl 1 rfl) ?_
  obtain ⟨v1, c3, b2⟩ := invX_10 hI
  have c3 : S 10 = .inr (6, [.int v1, .ref (ad 11), .ref (ad 12), .ref (ad 13), .ref (ad 14)]) := c3
  refine xget E hQ 10 (by decide) c3 rfl 0 (by decide) q186 rfl dX6_copyFrom_2 ?_
  obtain ⟨v4, c6, b5⟩ := invX_47 hI
  have c6 : S 47 = .inr (6, [.int v4, .ref (ad 48), .ref (ad 49), .ref (ad 50), .ref (ad 51)]) := c6
  refine xputi E hs hQ 47 (by decide) c6 rfl 0 (by decide) q186 rfl rfl (Nat.le_of_ble_eq_true rfl) dX6_copyFrom_5 (fun H locs S7 eS7 hQ => ?_)
  have hI := invX_up_47 hI eS7 ⟨v1, rfl, b2⟩
  have c8 : S7 47 = .inr (6, [.int v1, .ref (ad 48), .ref (ad 49), .ref (ad 50), .ref (ad 51)]) := up_at eS7 rfl
  refine lv_aload_n hx hb dX6_copyFrom_8 rfl (lv_at hl 1 rfl) ?_
  have c9 : S7 10 = .inr (6, [.int v1, .ref (ad 11), .ref (ad 12), .ref (ad 13), .ref (ad 14)]) := (up_ne eS7 (by decide) c3)
  refine xget E hQ 10 (by decide) c9 rfl 1 (by decide) q189 rfl dX6_copyFrom_9 ?_
  refine lv_iconst (v := 0) hx hb dX6_copyFrom_12 (by decide) ?_
  refine lv_aload_n hx hb dX6_copyFrom_13 rfl (lv_at hl 0 rfl) ?_
  refine xget E hQ 47 (by decide) c8 rfl 1 (by decide) q189 rfl dX6_copyFrom_14 ?_
  refine lv_iconst (v := 0) hx hb dX6_copyFrom_17 (by decide) ?_
  refine lv_bipush (v := 6) hx hb dX6_copyFrom_18 (by decide) ?_
  obtain ⟨f10, c11⟩ := invX_11 hI
  obtain ⟨f13, c14⟩ := invX_48 hI
  refine xcopyi E hs hQ hml hl.1 11 (by decide) 48 (by decide) c11 c14 q756 (by decide) (by decide) (by decide) (Nat.le_of_ble_eq_true rfl) (Nat.le_of_ble_eq_true rfl) (Nat.le_of_ble_eq_true rfl) (Nat.le_of_ble_eq_true rfl) dX6_copyFrom_20 (fun H locs S16 eS16 hQ => ?_)
  have hI := invX_up_48 hI eS16 ⟨_, rfl⟩
  have c17 : S16 48 = .inl (g.2 0, 6, .inl (va_cpy f10 f13 (0 : Int32).toNatClampNeg (0 : Int32).toNatClampNeg (6 : Int32).toNatClampNeg)) := up_at eS16 rfl
  refine lv_aload_n hx hb dX6_copyFrom_23 rfl (lv_at hl 1 rfl) ?_
  have c18 : S16 10 = .inr (6, [.int v1, .ref (ad 11), .ref (ad 12), .ref (ad 13), .ref (ad 14)]) := (up_ne eS16 (by decide) c9)
  refine xget E hQ 10 (by decide) c18 rfl 2 (by decide) q191 rfl dX6_copyFrom_24 ?_
  refine lv_iconst (v := 0) hx hb dX6_copyFrom_27 (by decide) ?_
  refine lv_aload_n hx hb dX6_copyFrom_28 rfl (lv_at hl 0 rfl) ?_
  have c19 : S16 47 = .inr (6, [.int v1, .ref (ad 48), .ref (ad 49), .ref (ad 50), .ref (ad 51)]) := (up_ne eS16 (by decide) c8)
  refine xget E hQ 47 (by decide) c19 rfl 2 (by decide) q191 rfl dX6_copyFrom_29 ?_
  refine lv_iconst (v := 0) hx hb dX6_copyFrom_32 (by decide) ?_
  refine lv_bipush (v := 6) hx hb dX6_copyFrom_33 (by decide) ?_
  obtain ⟨f20, c21⟩ := invX_12 hI
  obtain ⟨f23, c24⟩ := invX_49 hI
  refine xcopyi E hs hQ hml hl.1 12 (by decide) 49 (by decide) c21 c24 q756 (by decide) (by decide) (by decide) (Nat.le_of_ble_eq_true rfl) (Nat.le_of_ble_eq_true rfl) (Nat.le_of_ble_eq_true rfl) (Nat.le_of_ble_eq_true rfl) dX6_copyFrom_35 (fun H locs S26 eS26 hQ => ?_)
  have hI := invX_up_49 hI eS26 ⟨_, rfl⟩
  have c27 : S26 49 = .inl (g.2 0, 6, .inl (va_cpy f20 f23 (0 : Int32).toNatClampNeg (0 : Int32).toNatClampNeg (6 : Int32).toNatClampNeg)) := up_at eS26 rfl
  refine lv_aload_n hx hb dX6_copyFrom_38 rfl (lv_at hl 1 rfl) ?_
  have c28 : S26 10 = .inr (6, [.int v1, .ref (ad 11), .ref (ad 12), .ref (ad 13), .ref (ad 14)]) := (up_ne eS26 (by decide) c18)
  refine xget E hQ 10 (by decide) c28 rfl 3 (by decide) q193 rfl dX6_copyFrom_39 ?_
  refine lv_iconst (v := 0) hx hb dX6_copyFrom_42 (by decide) ?_
  refine lv_aload_n hx hb dX6_copyFrom_43 rfl (lv_at hl 0 rfl) ?_
  have c29 : S26 47 = .inr (6, [.int v1, .ref (ad 48), .ref (ad 49), .ref (ad 50), .ref (ad 51)]) := (up_ne eS26 (by decide) c19)
  refine xget E hQ 47 (by decide) c29 rfl 3 (by decide) q193 rfl dX6_copyFrom_44 ?_
  refine lv_iconst (v := 0) hx hb dX6_copyFrom_47 (by decide) ?_
  refine lv_bipush (v := 6) hx hb dX6_copyFrom_48 (by decide) ?_
  obtain ⟨f30, c31⟩ := invX_13 hI
  obtain ⟨f33, c34⟩ := invX_50 hI
  refine xcopyi E hs hQ hml hl.1 13 (by decide) 50 (by decide) c31 c34 q756 (by decide) (by decide) (by decide) (Nat.le_of_ble_eq_true rfl) (Nat.le_of_ble_eq_true rfl) (Nat.le_of_ble_eq_true rfl) (Nat.le_of_ble_eq_true rfl) dX6_copyFrom_50 (fun H locs S36 eS36 hQ => ?_)
  have hI := invX_up_50 hI eS36 ⟨_, rfl⟩
  have c37 : S36 50 = .inl (g.2 0, 6, .inl (va_cpy f30 f33 (0 : Int32).toNatClampNeg (0 : Int32).toNatClampNeg (6 : Int32).toNatClampNeg)) := up_at eS36 rfl
  refine lv_aload_n hx hb dX6_copyFrom_53 rfl (lv_at hl 1 rfl) ?_
  have c38 : S36 10 = .inr (6, [.int v1, .ref (ad 11), .ref (ad 12), .ref (ad 13), .ref (ad 14)]) := (up_ne eS36 (by decide) c28)
  refine xget E hQ 10 (by decide) c38 rfl 4 (by decide) q195 rfl dX6_copyFrom_54 ?_
  refine lv_iconst (v := 0) hx hb dX6_copyFrom_57 (by decide) ?_
  refine lv_aload_n hx hb dX6_copyFrom_58 rfl (lv_at hl 0 rfl) ?_
  have c39 : S36 47 = .inr (6, [.int v1, .ref (ad 48), .ref (ad 49), .ref (ad 50), .ref (ad 51)]) := (up_ne eS36 (by decide) c29)
  refine xget E hQ 47 (by decide) c39 rfl 4 (by decide) q195 rfl dX6_copyFrom_59 ?_
  refine lv_iconst (v := 0) hx hb dX6_copyFrom_62 (by decide) ?_
  refine lv_bipush (v := 6) hx hb dX6_copyFrom_63 (by decide) ?_
  obtain ⟨f40, c41⟩ := invX_14 hI
  obtain ⟨f43, c44⟩ := invX_51 hI
  refine xcopyi E hs hQ hml hl.1 14 (by decide) 51 (by decide) c41 c44 q756 (by decide) (by decide) (by decide) (Nat.le_of_ble_eq_true rfl) (Nat.le_of_ble_eq_true rfl) (Nat.le_of_ble_eq_true rfl) (Nat.le_of_ble_eq_true rfl) dX6_copyFrom_65 (fun H locs S46 eS46 hQ => ?_)
  have hI := invX_up_51 hI eS46 ⟨_, rfl⟩
  have c47 : S46 51 = .inl (g.2 0, 6, .inl (va_cpy f40 f43 (0 : Int32).toNatClampNeg (0 : Int32).toNatClampNeg (6 : Int32).toNatClampNeg)) := up_at eS46 rfl
  exact xrv E hr hlk hQ (⟨hI, (up_o (up_o (up_o (up_o (up_o o_refl eS7 (by decide)) eS16 (by decide)) eS26 (by decide)) eS36 (by decide)) eS46 (by decide))⟩) dX6_copyFrom_68
set_option maxHeartbeats 4000000 in
set_option maxRecDepth 100000 in
theorem gX1_copyFrom_39_2 (l : Launch) (g : GG) (ad : Nat → Nat) (hD : Dj ad 122) (S : SS) (hI : InvX g ad S) (hAR2 : ARp (S 16) (S 17) (S 18) (S 19)) : Met l yX1_copyFrom (wG (.code yX1_copyFrom cX1_copyFrom 2 none)) (Rm 2) (XPre g ad 122 S [.ref (ad 39), .ref (ad 2)]) (va_Qv (fun S' => InvX g ad S' ∧ (∀ j, j ∉ ([39, 40, 41, 42, 43, 44, 45, 46, 47, 48, 49, 50, 51, 52, 53, 54, 55, 56] : List Nat) → S' j = S j) ∧ (0 ≤ fld (S 2) 0 + (-1) * fld (S' 39) 0 ∧ 0 ≤ fld (S' 39) 0 + (-1) * fld (S 2) 0) ∧ (0 ≤ fld (S 2) 1 + (-1) * fld (S' 39) 1 ∧ 0 ≤ fld (S' 39) 1 + (-1) * fld (S 2) 1) ∧ (0 ≤ fld (S 2) 7 + (-1) * fld (S' 39) 7 ∧ 0 ≤ fld (S' 39) 7 + (-1) * fld (S 2) 7) ∧ (0 ≤ fld (S 2) 12 + (-1) * fld (S' 39) 12 ∧ 0 ≤ fld (S' 39) 12 + (-1) * fld (S 2) 12) ∧ (ARp (S' 53) (S' 54) (S' 55) (S' 56))) (QB g ad 122) (FA ad 122)) 0 0 (FA ad 122) := by
  refine xmet cX1_copyFrom "EbbWreck$Coast" (by decide) rfl (Nat.le_of_ble_eq_true rfl) (fun p e s m below meth c E hr hlk hml hQ ls hl => ?_)
  have hx := E.1
  have hb := E.2.1
  have hs : Sp ad 122 (FA ad 122) := Sp.fa hD
  have hl : lv_has ls 2 [(0, .ref (ad 39)), (1, .ref (ad 2))] := hl
  obtain ⟨v1, v3, v5, v6, v7, v9, c11, b2, b4, b8, b10⟩ := invX_2 hI
  have c11 : S 2 = .inr (1, [.int v1, .int v3, .int v5, .ref (ad 3), .ref (ad 5), .ref (ad 6), .int v6, .int v7, .ref (ad 7), .ref (ad 8), .ref (ad 9), .ref (ad 10), .int v9, .ref (ad 15), .ref (ad 16)]) := c11
  obtain ⟨v12, v14, v16, v17, v18, v20, c22, b13, b15, b19, b21⟩ := invX_39 hI
  have c22 : S 39 = .inr (1, [.int v12, .int v14, .int v16, .ref (ad 40), .ref (ad 42), .ref (ad 43), .int v17, .int v18, .ref (ad 44), .ref (ad 45), .ref (ad 46), .ref (ad 47), .int v20, .ref (ad 52), .ref (ad 53)]) := c22
  obtain ⟨v23, c25, b24⟩ := invX_16 hI
  have c25 : S 16 = .inr (0, [.int v23, .ref (ad 17), .ref (ad 18), .ref (ad 19)]) := c25
  obtain ⟨f26, c27⟩ := invX_17 hI
  obtain ⟨f29, c30, b31⟩ := invX_18 hI
  obtain ⟨f32, c33, b34⟩ := invX_19 hI
  refine lv_aload_n hx hb dX1_copyFrom_0 rfl (lv_at hl 0 rfl) ?_
  refine lv_aload_n hx hb dX1_copyFrom_1 rfl (lv_at hl 1 rfl) ?_
  refine xget E hQ 2 (by decide) c11 rfl 0 (by decide) q236 rfl dX1_copyFrom_2 ?_
  refine xputi E hs hQ 39 (by decide) c22 rfl 0 (by decide) q236 rfl rfl (Nat.le_of_ble_eq_true rfl) dX1_copyFrom_5 (fun H locs S35 eS35 hQ => ?_)
  have hI := invX_up_39 hI eS35 ⟨v1, v14, v16, v17, v18, v20, rfl, b2, b15, b19, b21⟩
  have c36 : S35 39 = .inr (1, [.int v1, .int v14, .int v16, .ref (ad 40), .ref (ad 42), .ref (ad 43), .int v17, .int v18, .ref (ad 44), .ref (ad 45), .ref (ad 46), .ref (ad 47), .int v20, .ref (ad 52), .ref (ad 53)]) := up_at eS35 rfl
  refine lv_aload_n hx hb dX1_copyFrom_8 rfl (lv_at hl 0 rfl) ?_
  refine lv_aload_n hx hb dX1_copyFrom_9 rfl (lv_at hl 1 rfl) ?_
  have c37 : S35 2 = .inr (1, [.int v1, .int v3, .int v5, .ref (ad 3), .ref (ad 5), .ref (ad 6), .int v6, .int v7, .ref (ad 7), .ref (ad 8), .ref (ad 9), .ref (ad 10), .int v9, .ref (ad 15), .ref (ad 16)]) := (up_ne eS35 (by decide) c11)
  refine xget E hQ 2 (by decide) c37 rfl 1 (by decide) q239 rfl dX1_copyFrom_10 ?_
  refine xputi E hs hQ 39 (by decide) c36 rfl 1 (by decide) q239 rfl rfl (Nat.le_of_ble_eq_true rfl) dX1_copyFrom_13 (fun H locs S38 eS38 hQ => ?_)
  have hI := invX_up_39 hI eS38 ⟨v1, v3, v16, v17, v18, v20, rfl, b2, b4, b19, b21⟩
  have c39 : S38 39 = .inr (1, [.int v1, .int v3, .int v16, .ref (ad 40), .ref (ad 42), .ref (ad 43), .int v17, .int v18, .ref (ad 44), .ref (ad 45), .ref (ad 46), .ref (ad 47), .int v20, .ref (ad 52), .ref (ad 53)]) := up_at eS38 rfl
  refine lv_aload_n hx hb dX1_copyFrom_16 rfl (lv_at hl 0 rfl) ?_
  refine lv_aload_n hx hb dX1_copyFrom_17 rfl (lv_at hl 1 rfl) ?_
  have c40 : S38 2 = .inr (1, [.int v1, .int v3, .int v5, .ref (ad 3), .ref (ad 5), .ref (ad 6), .int v6, .int v7, .ref (ad 7), .ref (ad 8), .ref (ad 9), .ref (ad 10), .int v9, .ref (ad 15), .ref (ad 16)]) := (up_ne eS38 (by decide) c37)
  refine xget E hQ 2 (by decide) c40 rfl 2 (by decide) q247 rfl dX1_copyFrom_18 ?_
  refine xputi E hs hQ 39 (by decide) c39 rfl 2 (by decide) q247 rfl rfl (Nat.le_of_ble_eq_true rfl) dX1_copyFrom_21 (fun H locs S41 eS41 hQ => ?_)
  have hI := invX_up_39 hI eS41 ⟨v1, v3, v5, v17, v18, v20, rfl, b2, b4, b19, b21⟩
  have c42 : S41 39 = .inr (1, [.int v1, .int v3, .int v5, .ref (ad 40), .ref (ad 42), .ref (ad 43), .int v17, .int v18, .ref (ad 44), .ref (ad 45), .ref (ad 46), .ref (ad 47), .int v20, .ref (ad 52), .ref (ad 53)]) := up_at eS41 rfl
  refine lv_aload_n hx hb dX1_copyFrom_24 rfl (lv_at hl 0 rfl) ?_
  refine xget E hQ 39 (by decide) c42 rfl 3 (by decide) q251 rfl dX1_copyFrom_25 ?_
  refine lv_aload_n hx hb dX1_copyFrom_28 rfl (lv_at hl 1 rfl) ?_
  have c43 : S41 2 = .inr (1, [.int v1, .int v3, .int v5, .ref (ad 3), .ref (ad 5), .ref (ad 6), .int v6, .int v7, .ref (ad 7), .ref (ad 8), .ref (ad 9), .ref (ad 10), .int v9, .ref (ad 15), .ref (ad 16)]) := (up_ne eS41 (by decide) c40)
  refine xget E hQ 2 (by decide) c43 rfl 3 (by decide) q251 rfl dX1_copyFrom_29 ?_
  obtain ⟨v44, v46, v48, v50, c52, b45, b47, b49, b51⟩ := invX_3 hI
  have c52 : S41 3 = .inr (10, [.int v44, .int v46, .int v48, .int v50, .ref (ad 4)]) := c52
  refine xget E hQ 3 (by decide) c52 rfl 0 (by decide) q156 rfl dX1_copyFrom_32 ?_
  refine lv_aload_n hx hb dX1_copyFrom_35 rfl (lv_at hl 1 rfl) ?_
  refine xget E hQ 2 (by decide) c43 rfl 3 (by decide) q251 rfl dX1_copyFrom_36 ?_
  refine xget E hQ 3 (by decide) c52 rfl 1 (by decide) q159 rfl dX1_copyFrom_39 ?_
  refine lv_aload_n hx hb dX1_copyFrom_42 rfl (lv_at hl 1 rfl) ?_
  refine xget E hQ 2 (by decide) c43 rfl 3 (by decide) q251 rfl dX1_copyFrom_43 ?_
  refine xget E hQ 3 (by decide) c52 rfl 2 (by decide) q162 rfl dX1_copyFrom_46 ?_
  obtain ⟨v54, v56, v58, v60, c62, b55, b57, b59, b61⟩ := invX_40 hI
  have c62 : S41 40 = .inr (10, [.int v54, .int v56, .int v58, .int v60, .ref (ad 41)]) := c62
  refine xcVv E hs hQ hml hl.1 40 (gX10_tell_40 l g ad hD S41 hI v44 v46 v48 b45 b47 b49) mX10_tell q592 (by decide) c62 rfl rfl ⟨(Nat.le_of_ble_eq_true rfl), (Nat.le_of_ble_eq_true rfl)⟩ ⟨(Nat.le_of_ble_eq_true rfl), (Nat.le_of_ble_eq_true rfl)⟩ (Nat.le_of_ble_eq_true rfl) rfl dX1_copyFrom_49 (fun S53 H locs hp53 hQ _ => ?_)
  obtain ⟨hI, o53⟩ := hp53
  refine lv_aload_n hx hb dX1_copyFrom_52 rfl (lv_at hl 1 rfl) ?_
  have c63 : S53 2 = .inr (1, [.int v1, .int v3, .int v5, .ref (ad 3), .ref (ad 5), .ref (ad 6), .int v6, .int v7, .ref (ad 7), .ref (ad 8), .ref (ad 9), .ref (ad 10), .int v9, .ref (ad 15), .ref (ad 16)]) := ((o53 2 (by decide)).trans c43)
  refine xget E hQ 2 (by decide) c63 rfl 4 (by decide) q257 rfl dX1_copyFrom_53 ?_
  refine lv_iconst (v := 0) hx hb dX1_copyFrom_56 (by decide) ?_
  refine lv_aload_n hx hb dX1_copyFrom_57 rfl (lv_at hl 0 rfl) ?_
  have c64 : S53 39 = .inr (1, [.int v1, .int v3, .int v5, .ref (ad 40), .ref (ad 42), .ref (ad 43), .int v17, .int v18, .ref (ad 44), .ref (ad 45), .ref (ad 46), .ref (ad 47), .int v20, .ref (ad 52), .ref (ad 53)]) := ((o53 39 (by decide)).trans c42)
  refine xget E hQ 39 (by decide) c64 rfl 4 (by decide) q257 rfl dX1_copyFrom_58 ?_
  refine lv_iconst (v := 0) hx hb dX1_copyFrom_61 (by decide) ?_
  refine lv_bipush (v := 12) hx hb dX1_copyFrom_62 (by decide) ?_
  obtain ⟨f65, c66⟩ := invX_5 hI
  obtain ⟨f68, c69⟩ := invX_42 hI
  refine xcopyi E hs hQ hml hl.1 5 (by decide) 42 (by decide) c66 c69 q749 (by decide) (by decide) (by decide) (Nat.le_of_ble_eq_true rfl) (Nat.le_of_ble_eq_true rfl) (Nat.le_of_ble_eq_true rfl) (Nat.le_of_ble_eq_true rfl) dX1_copyFrom_64 (fun H locs S71 eS71 hQ => ?_)
  have hI := invX_up_42 hI eS71 ⟨_, rfl⟩
  have c72 : S71 42 = .inl (g.2 0, 12, .inl (va_cpy f65 f68 (0 : Int32).toNatClampNeg (0 : Int32).toNatClampNeg (12 : Int32).toNatClampNeg)) := up_at eS71 rfl
  refine lv_aload_n hx hb dX1_copyFrom_67 rfl (lv_at hl 1 rfl) ?_
  have c73 : S71 2 = .inr (1, [.int v1, .int v3, .int v5, .ref (ad 3), .ref (ad 5), .ref (ad 6), .int v6, .int v7, .ref (ad 7), .ref (ad 8), .ref (ad 9), .ref (ad 10), .int v9, .ref (ad 15), .ref (ad 16)]) := (up_ne eS71 (by decide) c63)
  refine xget E hQ 2 (by decide) c73 rfl 5 (by decide) q260 rfl dX1_copyFrom_68 ?_
  refine lv_iconst (v := 0) hx hb dX1_copyFrom_71 (by decide) ?_
  refine lv_aload_n hx hb dX1_copyFrom_72 rfl (lv_at hl 0 rfl) ?_
  have c74 : S71 39 = .inr (1, [.int v1, .int v3, .int v5, .ref (ad 40), .ref (ad 42), .ref (ad 43), .int v17, .int v18, .ref (ad 44), .ref (ad 45), .ref (ad 46), .ref (ad 47), .int v20, .ref (ad 52), .ref (ad 53)]) := (up_ne eS71 (by decide) c64)
  refine xget E hQ 39 (by decide) c74 rfl 5 (by decide) q260 rfl dX1_copyFrom_73 ?_
  refine lv_iconst (v := 0) hx hb dX1_copyFrom_76 (by decide) ?_
  refine lv_bipush (v := 12) hx hb dX1_copyFrom_77 (by decide) ?_
  obtain ⟨f75, c76⟩ := invX_6 hI
  obtain ⟨f78, c79⟩ := invX_43 hI
  refine xcopyi E hs hQ hml hl.1 6 (by decide) 43 (by decide) c76 c79 q749 (by decide) (by decide) (by decide) (Nat.le_of_ble_eq_true rfl) (Nat.le_of_ble_eq_true rfl) (Nat.le_of_ble_eq_true rfl) (Nat.le_of_ble_eq_true rfl) dX1_copyFrom_79 (fun H locs S81 eS81 hQ => ?_)
  have hI := invX_up_43 hI eS81 ⟨_, rfl⟩
  have c82 : S81 43 = .inl (g.2 0, 12, .inl (va_cpy f75 f78 (0 : Int32).toNatClampNeg (0 : Int32).toNatClampNeg (12 : Int32).toNatClampNeg)) := up_at eS81 rfl
  refine lv_aload_n hx hb dX1_copyFrom_82 rfl (lv_at hl 0 rfl) ?_
  refine lv_aload_n hx hb dX1_copyFrom_83 rfl (lv_at hl 1 rfl) ?_
  have c83 : S81 2 = .inr (1, [.int v1, .int v3, .int v5, .ref (ad 3), .ref (ad 5), .ref (ad 6), .int v6, .int v7, .ref (ad 7), .ref (ad 8), .ref (ad 9), .ref (ad 10), .int v9, .ref (ad 15), .ref (ad 16)]) := (up_ne eS81 (by decide) c73)
  refine xget E hQ 2 (by decide) c83 rfl 6 (by decide) q263 rfl dX1_copyFrom_84 ?_
  have c84 : S81 39 = .inr (1, [.int v1, .int v3, .int v5, .ref (ad 40), .ref (ad 42), .ref (ad 43), .int v17, .int v18, .ref (ad 44), .ref (ad 45), .ref (ad 46), .ref (ad 47), .int v20, .ref (ad 52), .ref (ad 53)]) := (up_ne eS81 (by decide) c74)
  refine xputi E hs hQ 39 (by decide) c84 rfl 6 (by decide) q263 rfl rfl (Nat.le_of_ble_eq_true rfl) dX1_copyFrom_87 (fun H locs S85 eS85 hQ => ?_)
  have hI := invX_up_39 hI eS85 ⟨v1, v3, v5, v6, v18, v20, rfl, b2, b4, b19, b21⟩
  have c86 : S85 39 = .inr (1, [.int v1, .int v3, .int v5, .ref (ad 40), .ref (ad 42), .ref (ad 43), .int v6, .int v18, .ref (ad 44), .ref (ad 45), .ref (ad 46), .ref (ad 47), .int v20, .ref (ad 52), .ref (ad 53)]) := up_at eS85 rfl
  refine lv_aload_n hx hb dX1_copyFrom_90 rfl (lv_at hl 0 rfl) ?_
  refine lv_aload_n hx hb dX1_copyFrom_91 rfl (lv_at hl 1 rfl) ?_
  have c87 : S85 2 = .inr (1, [.int v1, .int v3, .int v5, .ref (ad 3), .ref (ad 5), .ref (ad 6), .int v6, .int v7, .ref (ad 7), .ref (ad 8), .ref (ad 9), .ref (ad 10), .int v9, .ref (ad 15), .ref (ad 16)]) := (up_ne eS85 (by decide) c83)
  refine xget E hQ 2 (by decide) c87 rfl 7 (by decide) q270 rfl dX1_copyFrom_92 ?_
  refine xputi E hs hQ 39 (by decide) c86 rfl 7 (by decide) q270 rfl rfl (Nat.le_of_ble_eq_true rfl) dX1_copyFrom_95 (fun H locs S88 eS88 hQ => ?_)
  have hI := invX_up_39 hI eS88 ⟨v1, v3, v5, v6, v7, v20, rfl, b2, b4, b8, b21⟩
  have c89 : S88 39 = .inr (1, [.int v1, .int v3, .int v5, .ref (ad 40), .ref (ad 42), .ref (ad 43), .int v6, .int v7, .ref (ad 44), .ref (ad 45), .ref (ad 46), .ref (ad 47), .int v20, .ref (ad 52), .ref (ad 53)]) := up_at eS88 rfl
  refine lv_aload_n hx hb dX1_copyFrom_98 rfl (lv_at hl 1 rfl) ?_
  have c90 : S88 2 = .inr (1, [.int v1, .int v3, .int v5, .ref (ad 3), .ref (ad 5), .ref (ad 6), .int v6, .int v7, .ref (ad 7), .ref (ad 8), .ref (ad 9), .ref (ad 10), .int v9, .ref (ad 15), .ref (ad 16)]) := (up_ne eS88 (by decide) c87)
  refine xget E hQ 2 (by decide) c90 rfl 8 (by decide) q274 rfl dX1_copyFrom_99 ?_
  refine lv_iconst (v := 0) hx hb dX1_copyFrom_102 (by decide) ?_
  refine lv_aload_n hx hb dX1_copyFrom_103 rfl (lv_at hl 0 rfl) ?_
  refine xget E hQ 39 (by decide) c89 rfl 8 (by decide) q274 rfl dX1_copyFrom_104 ?_
  refine lv_iconst (v := 0) hx hb dX1_copyFrom_107 (by decide) ?_
  refine lv_bipush (v := 8) hx hb dX1_copyFrom_108 (by decide) ?_
  obtain ⟨f91, c92⟩ := invX_7 hI
  obtain ⟨f94, c95⟩ := invX_44 hI
  refine xcopyi E hs hQ hml hl.1 7 (by decide) 44 (by decide) c92 c95 q749 (by decide) (by decide) (by decide) (Nat.le_of_ble_eq_true rfl) (Nat.le_of_ble_eq_true rfl) (Nat.le_of_ble_eq_true rfl) (Nat.le_of_ble_eq_true rfl) dX1_copyFrom_110 (fun H locs S97 eS97 hQ => ?_)
  have hI := invX_up_44 hI eS97 ⟨_, rfl⟩
  have c98 : S97 44 = .inl (g.2 0, 8, .inl (va_cpy f91 f94 (0 : Int32).toNatClampNeg (0 : Int32).toNatClampNeg (8 : Int32).toNatClampNeg)) := up_at eS97 rfl
  refine lv_aload_n hx hb dX1_copyFrom_113 rfl (lv_at hl 1 rfl) ?_
  have c99 : S97 2 = .inr (1, [.int v1, .int v3, .int v5, .ref (ad 3), .ref (ad 5), .ref (ad 6), .int v6, .int v7, .ref (ad 7), .ref (ad 8), .ref (ad 9), .ref (ad 10), .int v9, .ref (ad 15), .ref (ad 16)]) := (up_ne eS97 (by decide) c90)
  refine xget E hQ 2 (by decide) c99 rfl 9 (by decide) q279 rfl dX1_copyFrom_114 ?_
  refine lv_iconst (v := 0) hx hb dX1_copyFrom_117 (by decide) ?_
  refine lv_aload_n hx hb dX1_copyFrom_118 rfl (lv_at hl 0 rfl) ?_
  have c100 : S97 39 = .inr (1, [.int v1, .int v3, .int v5, .ref (ad 40), .ref (ad 42), .ref (ad 43), .int v6, .int v7, .ref (ad 44), .ref (ad 45), .ref (ad 46), .ref (ad 47), .int v20, .ref (ad 52), .ref (ad 53)]) := (up_ne eS97 (by decide) c89)
  refine xget E hQ 39 (by decide) c100 rfl 9 (by decide) q279 rfl dX1_copyFrom_119 ?_
  refine lv_iconst (v := 0) hx hb dX1_copyFrom_122 (by decide) ?_
  refine lv_bipush (v := 8) hx hb dX1_copyFrom_123 (by decide) ?_
  obtain ⟨f101, c102, b103⟩ := invX_8 hI
  obtain ⟨f104, c105, b106⟩ := invX_45 hI
  refine xcopyi E hs hQ hml hl.1 8 (by decide) 45 (by decide) c102 c105 q749 (by decide) (by decide) (by decide) (Nat.le_of_ble_eq_true rfl) (Nat.le_of_ble_eq_true rfl) (Nat.le_of_ble_eq_true rfl) (Nat.le_of_ble_eq_true rfl) dX1_copyFrom_125 (fun H locs S107 eS107 hQ => ?_)
  have hI := invX_up_45 hI eS107 ⟨_, rfl, cpy_b b103 b106⟩
  have b109 : ∀ j, Bd ((va_cpy f101 f104 (0 : Int32).toNatClampNeg (0 : Int32).toNatClampNeg (8 : Int32).toNatClampNeg) j) (0) (11) := cpy_b b103 b106
  have c108 : S107 45 = .inl (g.2 0, 8, .inl (va_cpy f101 f104 (0 : Int32).toNatClampNeg (0 : Int32).toNatClampNeg (8 : Int32).toNatClampNeg)) := up_at eS107 rfl
  refine lv_aload_n hx hb dX1_copyFrom_128 rfl (lv_at hl 1 rfl) ?_
  have c110 : S107 2 = .inr (1, [.int v1, .int v3, .int v5, .ref (ad 3), .ref (ad 5), .ref (ad 6), .int v6, .int v7, .ref (ad 7), .ref (ad 8), .ref (ad 9), .ref (ad 10), .int v9, .ref (ad 15), .ref (ad 16)]) := (up_ne eS107 (by decide) c99)
  refine xget E hQ 2 (by decide) c110 rfl 10 (by decide) q284 rfl dX1_copyFrom_129 ?_
  refine lv_iconst (v := 0) hx hb dX1_copyFrom_132 (by decide) ?_
  refine lv_aload_n hx hb dX1_copyFrom_133 rfl (lv_at hl 0 rfl) ?_
  have c111 : S107 39 = .inr (1, [.int v1, .int v3, .int v5, .ref (ad 40), .ref (ad 42), .ref (ad 43), .int v6, .int v7, .ref (ad 44), .ref (ad 45), .ref (ad 46), .ref (ad 47), .int v20, .ref (ad 52), .ref (ad 53)]) := (up_ne eS107 (by decide) c100)
  refine xget E hQ 39 (by decide) c111 rfl 10 (by decide) q284 rfl dX1_copyFrom_134 ?_
  refine lv_iconst (v := 0) hx hb dX1_copyFrom_137 (by decide) ?_
  refine lv_bipush (v := 8) hx hb dX1_copyFrom_138 (by decide) ?_
  obtain ⟨f112, c113, b114⟩ := invX_9 hI
  obtain ⟨f115, c116, b117⟩ := invX_46 hI
  refine xcopyi E hs hQ hml hl.1 9 (by decide) 46 (by decide) c113 c116 q749 (by decide) (by decide) (by decide) (Nat.le_of_ble_eq_true rfl) (Nat.le_of_ble_eq_true rfl) (Nat.le_of_ble_eq_true rfl) (Nat.le_of_ble_eq_true rfl) dX1_copyFrom_140 (fun H locs S118 eS118 hQ => ?_)
  have hI := invX_up_46 hI eS118 ⟨_, rfl, cpy_b b114 b117⟩
  have b120 : ∀ j, Bd ((va_cpy f112 f115 (0 : Int32).toNatClampNeg (0 : Int32).toNatClampNeg (8 : Int32).toNatClampNeg) j) (0) (99) := cpy_b b114 b117
  have c119 : S118 46 = .inl (g.2 0, 8, .inl (va_cpy f112 f115 (0 : Int32).toNatClampNeg (0 : Int32).toNatClampNeg (8 : Int32).toNatClampNeg)) := up_at eS118 rfl
  refine lv_aload_n hx hb dX1_copyFrom_143 rfl (lv_at hl 0 rfl) ?_
  have c121 : S118 39 = .inr (1, [.int v1, .int v3, .int v5, .ref (ad 40), .ref (ad 42), .ref (ad 43), .int v6, .int v7, .ref (ad 44), .ref (ad 45), .ref (ad 46), .ref (ad 47), .int v20, .ref (ad 52), .ref (ad 53)]) := (up_ne eS118 (by decide) c111)
  refine xget E hQ 39 (by decide) c121 rfl 11 (by decide) q289 rfl dX1_copyFrom_144 ?_
  refine lv_aload_n hx hb dX1_copyFrom_147 rfl (lv_at hl 1 rfl) ?_
  have c122 : S118 2 = .inr (1, [.int v1, .int v3, .int v5, .ref (ad 3), .ref (ad 5), .ref (ad 6), .int v6, .int v7, .ref (ad 7), .ref (ad 8), .ref (ad 9), .ref (ad 10), .int v9, .ref (ad 15), .ref (ad 16)]) := (up_ne eS118 (by decide) c110)
  refine xget E hQ 2 (by decide) c122 rfl 11 (by decide) q289 rfl dX1_copyFrom_148 ?_
  obtain ⟨v124, c126, b125⟩ := invX_47 hI
  have c126 : S118 47 = .inr (6, [.int v124, .ref (ad 48), .ref (ad 49), .ref (ad 50), .ref (ad 51)]) := c126
  refine xcVv E hs hQ hml hl.1 47 (gX6_copyFrom_47_10 l g ad hD S118 hI ) mX6_copyFrom q752 (by decide) c126 rfl rfl ⟨(Nat.le_of_ble_eq_true rfl), (Nat.le_of_ble_eq_true rfl)⟩ ⟨(Nat.le_of_ble_eq_true rfl), (Nat.le_of_ble_eq_true rfl)⟩ (Nat.le_of_ble_eq_true rfl) rfl dX1_copyFrom_151 (fun S123 H locs hp123 hQ _ => ?_)
  obtain ⟨hI, o123⟩ := hp123
  refine lv_aload_n hx hb dX1_copyFrom_154 rfl (lv_at hl 0 rfl) ?_
  refine lv_aload_n hx hb dX1_copyFrom_155 rfl (lv_at hl 1 rfl) ?_
  have c127 : S123 2 = .inr (1, [.int v1, .int v3, .int v5, .ref (ad 3), .ref (ad 5), .ref (ad 6), .int v6, .int v7, .ref (ad 7), .ref (ad 8), .ref (ad 9), .ref (ad 10), .int v9, .ref (ad 15), .ref (ad 16)]) := ((o123 2 (by decide)).trans c122)
  refine xget E hQ 2 (by decide) c127 rfl 12 (by decide) q293 rfl dX1_copyFrom_156 ?_
  have c128 : S123 39 = .inr (1, [.int v1, .int v3, .int v5, .ref (ad 40), .ref (ad 42), .ref (ad 43), .int v6, .int v7, .ref (ad 44), .ref (ad 45), .ref (ad 46), .ref (ad 47), .int v20, .ref (ad 52), .ref (ad 53)]) := ((o123 39 (by decide)).trans c121)
  refine xputi E hs hQ 39 (by decide) c128 rfl 12 (by decide) q293 rfl rfl (Nat.le_of_ble_eq_true rfl) dX1_copyFrom_159 (fun H locs S129 eS129 hQ => ?_)
  have hI := invX_up_39 hI eS129 ⟨v1, v3, v5, v6, v7, v9, rfl, b2, b4, b8, b10⟩
  have c130 : S129 39 = .inr (1, [.int v1, .int v3, .int v5, .ref (ad 40), .ref (ad 42), .ref (ad 43), .int v6, .int v7, .ref (ad 44), .ref (ad 45), .ref (ad 46), .ref (ad 47), .int v9, .ref (ad 52), .ref (ad 53)]) := up_at eS129 rfl
  refine lv_aload_n hx hb dX1_copyFrom_162 rfl (lv_at hl 1 rfl) ?_
  have c131 : S129 2 = .inr (1, [.int v1, .int v3, .int v5, .ref (ad 3), .ref (ad 5), .ref (ad 6), .int v6, .int v7, .ref (ad 7), .ref (ad 8), .ref (ad 9), .ref (ad 10), .int v9, .ref (ad 15), .ref (ad 16)]) := (up_ne eS129 (by decide) c127)
  refine xget E hQ 2 (by decide) c131 rfl 13 (by decide) q297 rfl dX1_copyFrom_163 ?_
  refine lv_iconst (v := 0) hx hb dX1_copyFrom_166 (by decide) ?_
  refine lv_aload_n hx hb dX1_copyFrom_167 rfl (lv_at hl 0 rfl) ?_
  refine xget E hQ 39 (by decide) c130 rfl 13 (by decide) q297 rfl dX1_copyFrom_168 ?_
  refine lv_iconst (v := 0) hx hb dX1_copyFrom_171 (by decide) ?_
  refine lv_iconst (v := 3) hx hb dX1_copyFrom_172 (by decide) ?_
  obtain ⟨f132, c133, b134⟩ := invX_15 hI
  obtain ⟨f135, c136, b137⟩ := invX_52 hI
  refine xcopyi E hs hQ hml hl.1 15 (by decide) 52 (by decide) c133 c136 q749 (by decide) (by decide) (by decide) (Nat.le_of_ble_eq_true rfl) (Nat.le_of_ble_eq_true rfl) (Nat.le_of_ble_eq_true rfl) (Nat.le_of_ble_eq_true rfl) dX1_copyFrom_173 (fun H locs S138 eS138 hQ => ?_)
  have hI := invX_up_52 hI eS138 ⟨_, rfl, cpy_b b134 b137⟩
  have b140 : ∀ j, Bd ((va_cpy f132 f135 (0 : Int32).toNatClampNeg (0 : Int32).toNatClampNeg (3 : Int32).toNatClampNeg) j) (0) (11) := cpy_b b134 b137
  have c139 : S138 52 = .inl (g.2 0, 3, .inl (va_cpy f132 f135 (0 : Int32).toNatClampNeg (0 : Int32).toNatClampNeg (3 : Int32).toNatClampNeg)) := up_at eS138 rfl
  refine lv_aload_n hx hb dX1_copyFrom_176 rfl (lv_at hl 0 rfl) ?_
  have c141 : S138 39 = .inr (1, [.int v1, .int v3, .int v5, .ref (ad 40), .ref (ad 42), .ref (ad 43), .int v6, .int v7, .ref (ad 44), .ref (ad 45), .ref (ad 46), .ref (ad 47), .int v9, .ref (ad 52), .ref (ad 53)]) := (up_ne eS138 (by decide) c130)
  refine xget E hQ 39 (by decide) c141 rfl 14 (by decide) q301 rfl dX1_copyFrom_177 ?_
  refine lv_aload_n hx hb dX1_copyFrom_180 rfl (lv_at hl 1 rfl) ?_
  have c142 : S138 2 = .inr (1, [.int v1, .int v3, .int v5, .ref (ad 3), .ref (ad 5), .ref (ad 6), .int v6, .int v7, .ref (ad 7), .ref (ad 8), .ref (ad 9), .ref (ad 10), .int v9, .ref (ad 15), .ref (ad 16)]) := (up_ne eS138 (by decide) c131)
  refine xget E hQ 2 (by decide) c142 rfl 14 (by decide) q301 rfl dX1_copyFrom_181 ?_
  have c143 : S138 16 = .inr (0, [.int v23, .ref (ad 17), .ref (ad 18), .ref (ad 19)]) := (up_ne eS138 (by decide) (up_ne eS129 (by decide) ((o123 16 (by decide)).trans (up_ne eS118 (by decide) (up_ne eS107 (by decide) (up_ne eS97 (by decide) (up_ne eS88 (by decide) (up_ne eS85 (by decide) (up_ne eS81 (by decide) (up_ne eS71 (by decide) ((o53 16 (by decide)).trans (up_ne eS41 (by decide) (up_ne eS38 (by decide) (up_ne eS35 (by decide) c25))))))))))))))
  obtain ⟨v145, c147, b146⟩ := invX_53 hI
  have c147 : S138 53 = .inr (0, [.int v145, .ref (ad 54), .ref (ad 55), .ref (ad 56)]) := c147
  refine xcVv E hs hQ hml hl.1 53 (gX0_copyFrom_53_16 l g ad hD S138 hI (ar_tr hAR2 ((up_eq (j := 16) eS138 (by decide)).trans ((up_eq (j := 16) eS129 (by decide)).trans ((o123 16 (by decide)).trans ((up_eq (j := 16) eS118 (by decide)).trans ((up_eq (j := 16) eS107 (by decide)).trans ((up_eq (j := 16) eS97 (by decide)).trans ((up_eq (j := 16) eS88 (by decide)).trans ((up_eq (j := 16) eS85 (by decide)).trans ((up_eq (j := 16) eS81 (by decide)).trans ((up_eq (j := 16) eS71 (by decide)).trans ((o53 16 (by decide)).trans ((up_eq (j := 16) eS41 (by decide)).trans ((up_eq (j := 16) eS38 (by decide)).trans (up_eq (j := 16) eS35 (by decide))))))))))))))) ((up_eq (j := 17) eS138 (by decide)).trans ((up_eq (j := 17) eS129 (by decide)).trans ((o123 17 (by decide)).trans ((up_eq (j := 17) eS118 (by decide)).trans ((up_eq (j := 17) eS107 (by decide)).trans ((up_eq (j := 17) eS97 (by decide)).trans ((up_eq (j := 17) eS88 (by decide)).trans ((up_eq (j := 17) eS85 (by decide)).trans ((up_eq (j := 17) eS81 (by decide)).trans ((up_eq (j := 17) eS71 (by decide)).trans ((o53 17 (by decide)).trans ((up_eq (j := 17) eS41 (by decide)).trans ((up_eq (j := 17) eS38 (by decide)).trans (up_eq (j := 17) eS35 (by decide))))))))))))))) ((up_eq (j := 18) eS138 (by decide)).trans ((up_eq (j := 18) eS129 (by decide)).trans ((o123 18 (by decide)).trans ((up_eq (j := 18) eS118 (by decide)).trans ((up_eq (j := 18) eS107 (by decide)).trans ((up_eq (j := 18) eS97 (by decide)).trans ((up_eq (j := 18) eS88 (by decide)).trans ((up_eq (j := 18) eS85 (by decide)).trans ((up_eq (j := 18) eS81 (by decide)).trans ((up_eq (j := 18) eS71 (by decide)).trans ((o53 18 (by decide)).trans ((up_eq (j := 18) eS41 (by decide)).trans ((up_eq (j := 18) eS38 (by decide)).trans (up_eq (j := 18) eS35 (by decide))))))))))))))) ((up_eq (j := 19) eS138 (by decide)).trans ((up_eq (j := 19) eS129 (by decide)).trans ((o123 19 (by decide)).trans ((up_eq (j := 19) eS118 (by decide)).trans ((up_eq (j := 19) eS107 (by decide)).trans ((up_eq (j := 19) eS97 (by decide)).trans ((up_eq (j := 19) eS88 (by decide)).trans ((up_eq (j := 19) eS85 (by decide)).trans ((up_eq (j := 19) eS81 (by decide)).trans ((up_eq (j := 19) eS71 (by decide)).trans ((o53 19 (by decide)).trans ((up_eq (j := 19) eS41 (by decide)).trans ((up_eq (j := 19) eS38 (by decide)).trans (up_eq (j := 19) eS35 (by decide))))))))))))))))) mX0_copyFrom q757 (by decide) c147 rfl rfl ⟨(Nat.le_of_ble_eq_true rfl), (Nat.le_of_ble_eq_true rfl)⟩ ⟨(Nat.le_of_ble_eq_true rfl), (Nat.le_of_ble_eq_true rfl)⟩ (Nat.le_of_ble_eq_true rfl) rfl dX1_copyFrom_184 (fun S144 H locs hp144 hQ _ => ?_)
  obtain ⟨hI, o144, g144_0, u144_0⟩ := hp144
  have q148 : fld (S138 16) 0 = v23.toInt := fld_of c143 rfl
  obtain ⟨v149, c151, b150⟩ := invX_53 hI
  have c151 : S144 53 = .inr (0, [.int v149, .ref (ad 54), .ref (ad 55), .ref (ad 56)]) := c151
  have q152 : fld (S144 53) 0 = v149.toInt := fld_of c151 rfl
  have q153 : fld (S 2) 0 = v1.toInt := fld_of c11 rfl
  have c154 : S144 39 = .inr (1, [.int v1, .int v3, .int v5, .ref (ad 40), .ref (ad 42), .ref (ad 43), .int v6, .int v7, .ref (ad 44), .ref (ad 45), .ref (ad 46), .ref (ad 47), .int v9, .ref (ad 52), .ref (ad 53)]) := ((o144 39 (by decide)).trans c141)
  have q155 : fld (S144 39) 0 = v1.toInt := fld_of c154 rfl
  have q156 : fld (S 2) 1 = v3.toInt := fld_of c11 rfl
  have q157 : fld (S144 39) 1 = v3.toInt := fld_of c154 rfl
  have q158 : fld (S 2) 7 = v7.toInt := fld_of c11 rfl
  have q159 : fld (S144 39) 7 = v7.toInt := fld_of c154 rfl
  have q160 : fld (S 2) 12 = v9.toInt := fld_of c11 rfl
  have q161 : fld (S144 39) 12 = v9.toInt := fld_of c154 rfl
  exact xrv E hr hlk hQ (⟨hI, (o_trans (up_o (up_o (o_trans (up_o (up_o (up_o (up_o (up_o (up_o (up_o (o_trans (up_o (up_o (up_o o_refl eS35 (by decide)) eS38 (by decide)) eS41 (by decide)) o53 (by decide)) eS71 (by decide)) eS81 (by decide)) eS85 (by decide)) eS88 (by decide)) eS97 (by decide)) eS107 (by decide)) eS118 (by decide)) o123 (by decide)) eS129 (by decide)) eS138 (by decide)) o144 (by decide)), ⟨by omega, by omega⟩, ⟨by omega, by omega⟩, ⟨by omega, by omega⟩, ⟨by omega, by omega⟩, u144_0⟩) dX1_copyFrom_187
set_option maxHeartbeats 4000000 in
set_option maxRecDepth 100000 in
theorem gX0_copyFrom_71_16 (l : Launch) (g : GG) (ad : Nat → Nat) (hD : Dj ad 122) (S : SS) (hI : InvX g ad S) (hAR2 : ARp (S 16) (S 17) (S 18) (S 19)) : Met l yX0_copyFrom (wG (.code yX0_copyFrom cX0_copyFrom 2 none)) (Rm 1) (XPre g ad 122 S [.ref (ad 71), .ref (ad 16)]) (va_Qv (fun S' => InvX g ad S' ∧ (∀ j, j ∉ ([71, 72, 73, 74] : List Nat) → S' j = S j) ∧ (0 ≤ fld (S 16) 0 + (-1) * fld (S' 71) 0 ∧ 0 ≤ fld (S' 71) 0 + (-1) * fld (S 16) 0) ∧ (ARp (S' 71) (S' 72) (S' 73) (S' 74))) (QB g ad 122) (FA ad 122)) 0 0 (FA ad 122) := by
  refine xmet cX0_copyFrom "EbbWreck$Acts" (by decide) rfl (Nat.le_of_ble_eq_true rfl) (fun p e s m below meth c E hr hlk hml hQ ls hl => ?_)
  have hx := E.1
  have hb := E.2.1
  have hs : Sp ad 122 (FA ad 122) := Sp.fa hD
  have hl : lv_has ls 2 [(0, .ref (ad 71)), (1, .ref (ad 16))] := hl
  obtain ⟨v1, c3, b2⟩ := invX_16 hI
  have c3 : S 16 = .inr (0, [.int v1, .ref (ad 17), .ref (ad 18), .ref (ad 19)]) := c3
  obtain ⟨v4, c6, b5⟩ := invX_71 hI
  have c6 : S 71 = .inr (0, [.int v4, .ref (ad 72), .ref (ad 73), .ref (ad 74)]) := c6
  obtain ⟨f7, c8⟩ := invX_17 hI
  obtain ⟨f10, c11, b12⟩ := invX_18 hI
  obtain ⟨f13, c14, b15⟩ := invX_19 hI
  refine lv_aload_n hx hb dX0_copyFrom_0 rfl (lv_at hl 0 rfl) ?_
  refine lv_aload_n hx hb dX0_copyFrom_1 rfl (lv_at hl 1 rfl) ?_
  refine xget E hQ 16 (by decide) c3 rfl 0 (by decide) q215 rfl dX0_copyFrom_2 ?_
  refine xputi E hs hQ 71 (by decide) c6 rfl 0 (by decide) q215 rfl rfl (Nat.le_of_ble_eq_true rfl) dX0_copyFrom_5 (fun H locs S16 eS16 hQ => ?_)
  have hI := invX_up_71 hI eS16 ⟨v1, rfl, b2⟩
  have c17 : S16 71 = .inr (0, [.int v1, .ref (ad 72), .ref (ad 73), .ref (ad 74)]) := up_at eS16 rfl
  refine lv_aload_n hx hb dX0_copyFrom_8 rfl (lv_at hl 1 rfl) ?_
  have c18 : S16 16 = .inr (0, [.int v1, .ref (ad 17), .ref (ad 18), .ref (ad 19)]) := (up_ne eS16 (by decide) c3)
  refine xget E hQ 16 (by decide) c18 rfl 1 (by decide) q219 rfl dX0_copyFrom_9 ?_
  refine lv_iconst (v := 0) hx hb dX0_copyFrom_12 (by decide) ?_
  refine lv_aload_n hx hb dX0_copyFrom_13 rfl (lv_at hl 0 rfl) ?_
  refine xget E hQ 71 (by decide) c17 rfl 1 (by decide) q219 rfl dX0_copyFrom_14 ?_
  refine lv_iconst (v := 0) hx hb dX0_copyFrom_17 (by decide) ?_
  refine lv_bipush (v := 40) hx hb dX0_copyFrom_18 (by decide) ?_
  have c19 : S16 17 = .inl (g.2 0, 40, .inl f7) := (up_ne eS16 (by decide) c8)
  obtain ⟨f20, c21⟩ := invX_72 hI
  refine xcopyi E hs hQ hml hl.1 17 (by decide) 72 (by decide) c19 c21 q761 (by decide) (by decide) (by decide) (Nat.le_of_ble_eq_true rfl) (Nat.le_of_ble_eq_true rfl) (Nat.le_of_ble_eq_true rfl) (Nat.le_of_ble_eq_true rfl) dX0_copyFrom_20 (fun H locs S23 eS23 hQ => ?_)
  have hI := invX_up_72 hI eS23 ⟨_, rfl⟩
  have c24 : S23 72 = .inl (g.2 0, 40, .inl (va_cpy f7 f20 (0 : Int32).toNatClampNeg (0 : Int32).toNatClampNeg (40 : Int32).toNatClampNeg)) := up_at eS23 rfl
  refine lv_aload_n hx hb dX0_copyFrom_23 rfl (lv_at hl 1 rfl) ?_
  have c25 : S23 16 = .inr (0, [.int v1, .ref (ad 17), .ref (ad 18), .ref (ad 19)]) := (up_ne eS23 (by decide) c18)
  refine xget E hQ 16 (by decide) c25 rfl 2 (by decide) q222 rfl dX0_copyFrom_24 ?_
  refine lv_iconst (v := 0) hx hb dX0_copyFrom_27 (by decide) ?_
  refine lv_aload_n hx hb dX0_copyFrom_28 rfl (lv_at hl 0 rfl) ?_
  have c26 : S23 71 = .inr (0, [.int v1, .ref (ad 72), .ref (ad 73), .ref (ad 74)]) := (up_ne eS23 (by decide) c17)
  refine xget E hQ 71 (by decide) c26 rfl 2 (by decide) q222 rfl dX0_copyFrom_29 ?_
  refine lv_iconst (v := 0) hx hb dX0_copyFrom_32 (by decide) ?_
  refine lv_bipush (v := 40) hx hb dX0_copyFrom_33 (by decide) ?_
  have c27 : S23 18 = .inl (g.2 0, 40, .inl f10) := (up_ne eS23 (by decide) (up_ne eS16 (by decide) c11))
  obtain ⟨f28, c29, b30⟩ := invX_73 hI
  refine xcopyi E hs hQ hml hl.1 18 (by decide) 73 (by decide) c27 c29 q761 (by decide) (by decide) (by decide) (Nat.le_of_ble_eq_true rfl) (Nat.le_of_ble_eq_true rfl) (Nat.le_of_ble_eq_true rfl) (Nat.le_of_ble_eq_true rfl) dX0_copyFrom_35 (fun H locs S31 eS31 hQ => ?_)
  have hI := invX_up_73 hI eS31 ⟨_, rfl, cpy_b b12 b30⟩
  have b33 : ∀ j, Bd ((va_cpy f10 f28 (0 : Int32).toNatClampNeg (0 : Int32).toNatClampNeg (40 : Int32).toNatClampNeg) j) (0) (7) := cpy_b b12 b30
  have c32 : S31 73 = .inl (g.2 0, 40, .inl (va_cpy f10 f28 (0 : Int32).toNatClampNeg (0 : Int32).toNatClampNeg (40 : Int32).toNatClampNeg)) := up_at eS31 rfl
  refine lv_aload_n hx hb dX0_copyFrom_38 rfl (lv_at hl 1 rfl) ?_
  have c34 : S31 16 = .inr (0, [.int v1, .ref (ad 17), .ref (ad 18), .ref (ad 19)]) := (up_ne eS31 (by decide) c25)
  refine xget E hQ 16 (by decide) c34 rfl 3 (by decide) q224 rfl dX0_copyFrom_39 ?_
  refine lv_iconst (v := 0) hx hb dX0_copyFrom_42 (by decide) ?_
  refine lv_aload_n hx hb dX0_copyFrom_43 rfl (lv_at hl 0 rfl) ?_
  have c35 : S31 71 = .inr (0, [.int v1, .ref (ad 72), .ref (ad 73), .ref (ad 74)]) := (up_ne eS31 (by decide) c26)
  refine xget E hQ 71 (by decide) c35 rfl 3 (by decide) q224 rfl dX0_copyFrom_44 ?_
  refine lv_iconst (v := 0) hx hb dX0_copyFrom_47 (by decide) ?_
  refine lv_bipush (v := 40) hx hb dX0_copyFrom_48 (by decide) ?_
  have c36 : S31 19 = .inl (g.2 0, 40, .inl f13) := (up_ne eS31 (by decide) (up_ne eS23 (by decide) (up_ne eS16 (by decide) c14)))
  obtain ⟨f37, c38, b39⟩ := invX_74 hI
  refine xcopyi E hs hQ hml hl.1 19 (by decide) 74 (by decide) c36 c38 q761 (by decide) (by decide) (by decide) (Nat.le_of_ble_eq_true rfl) (Nat.le_of_ble_eq_true rfl) (Nat.le_of_ble_eq_true rfl) (Nat.le_of_ble_eq_true rfl) dX0_copyFrom_50 (fun H locs S40 eS40 hQ => ?_)
  have hI := invX_up_74 hI eS40 ⟨_, rfl, cpy_b b15 b39⟩
  have b42 : ∀ j, Bd ((va_cpy f13 f37 (0 : Int32).toNatClampNeg (0 : Int32).toNatClampNeg (40 : Int32).toNatClampNeg) j) (0) (400) := cpy_b b15 b39
  have c41 : S40 74 = .inl (g.2 0, 40, .inl (va_cpy f13 f37 (0 : Int32).toNatClampNeg (0 : Int32).toNatClampNeg (40 : Int32).toNatClampNeg)) := up_at eS40 rfl
  have q43 : fld (S 16) 0 = v1.toInt := fld_of c3 rfl
  have c44 : S40 71 = .inr (0, [.int v1, .ref (ad 72), .ref (ad 73), .ref (ad 74)]) := (up_ne eS40 (by decide) c35)
  have q45 : fld (S40 71) 0 = v1.toInt := fld_of c44 rfl
  have c46 : S40 72 = .inl (g.2 0, 40, .inl (va_cpy f7 f20 (0 : Int32).toNatClampNeg (0 : Int32).toNatClampNeg (40 : Int32).toNatClampNeg)) := (up_ne eS40 (by decide) (up_ne eS31 (by decide) c24))
  have c47 : S40 73 = .inl (g.2 0, 40, .inl (va_cpy f10 f28 (0 : Int32).toNatClampNeg (0 : Int32).toNatClampNeg (40 : Int32).toNatClampNeg)) := (up_ne eS40 (by decide) c32)
  exact xrv E hr hlk hQ (⟨hI, (up_o (up_o (up_o (up_o o_refl eS16 (by decide)) eS23 (by decide)) eS31 (by decide)) eS40 (by decide)), ⟨by omega, by omega⟩, (ar_cpy c3 rfl c8 c11 c14 hAR2 (b2).2 c44 rfl c46 c47 c41)⟩) dX0_copyFrom_53
set_option maxHeartbeats 4000000 in
set_option maxRecDepth 100000 in
theorem gX6_copyFrom_65_10 (l : Launch) (g : GG) (ad : Nat → Nat) (hD : Dj ad 122) (S : SS) (hI : InvX g ad S) : Met l yX6_copyFrom (wG (.code yX6_copyFrom cX6_copyFrom 2 none)) (Rm 1) (XPre g ad 122 S [.ref (ad 65), .ref (ad 10)]) (va_Qv (fun S' => InvX g ad S' ∧ (∀ j, j ∉ ([65, 66, 67, 68, 69] : List Nat) → S' j = S j)) (QB g ad 122) (FA ad 122)) 0 0 (FA ad 122) := by
  refine xmet cX6_copyFrom "EbbWreck$RuleBook" (by decide) rfl (Nat.le_of_ble_eq_true rfl) (fun p e s m below meth c E hr hlk hml hQ ls hl => ?_)
  have hx := E.1
  have hb := E.2.1
  have hs : Sp ad 122 (FA ad 122) := Sp.fa hD
  have hl : lv_has ls 2 [(0, .ref (ad 65)), (1, .ref (ad 10))] := hl
  refine lv_aload_n hx hb dX6_copyFrom_0 rfl (lv_at hl 0 rfl) ?_
  refine lv_aload_n hx hb dX6_copyFrom_1 rfl (lv_at hl 1 rfl) ?_
  obtain ⟨v1, c3, b2⟩ := invX_10 hI
  have c3 : S 10 = .inr (6, [.int v1, .ref (ad 11), .ref (ad 12), .ref (ad 13), .ref (ad 14)]) := c3
  refine xget E hQ 10 (by decide) c3 rfl 0 (by decide) q186 rfl dX6_copyFrom_2 ?_
  obtain ⟨v4, c6, b5⟩ := invX_65 hI
  have c6 : S 65 = .inr (6, [.int v4, .ref (ad 66), .ref (ad 67), .ref (ad 68), .ref (ad 69)]) := c6
  refine xputi E hs hQ 65 (by decide) c6 rfl 0 (by decide) q186 rfl rfl (Nat.le_of_ble_eq_true rfl) dX6_copyFrom_5 (fun H locs S7 eS7 hQ => ?_)
  have hI := invX_up_65 hI eS7 ⟨v1, rfl, b2⟩
  have c8 : S7 65 = .inr (6, [.int v1, .ref (ad 66), .ref (ad 67), .ref (ad 68), .ref (ad 69)]) := up_at eS7 rfl
  refine lv_aload_n hx hb dX6_copyFrom_8 rfl (lv_at hl 1 rfl) ?_
  have c9 : S7 10 = .inr (6, [.int v1, .ref (ad 11), .ref (ad 12), .ref (ad 13), .ref (ad 14)]) := (up_ne eS7 (by decide) c3)
  refine xget E hQ 10 (by decide) c9 rfl 1 (by decide) q189 rfl dX6_copyFrom_9 ?_
  refine lv_iconst (v := 0) hx hb dX6_copyFrom_12 (by decide) ?_
  refine lv_aload_n hx hb dX6_copyFrom_13 rfl (lv_at hl 0 rfl) ?_
  refine xget E hQ 65 (by decide) c8 rfl 1 (by decide) q189 rfl dX6_copyFrom_14 ?_
  refine lv_iconst (v := 0) hx hb dX6_copyFrom_17 (by decide) ?_
  refine lv_bipush (v := 6) hx hb dX6_copyFrom_18 (by decide) ?_
  obtain ⟨f10, c11⟩ := invX_11 hI
  obtain ⟨f13, c14⟩ := invX_66 hI
  refine xcopyi E hs hQ hml hl.1 11 (by decide) 66 (by decide) c11 c14 q756 (by decide) (by decide) (by decide) (Nat.le_of_ble_eq_true rfl) (Nat.le_of_ble_eq_true rfl) (Nat.le_of_ble_eq_true rfl) (Nat.le_of_ble_eq_true rfl) dX6_copyFrom_20 (fun H locs S16 eS16 hQ => ?_)
  have hI := invX_up_66 hI eS16 ⟨_, rfl⟩
  have c17 : S16 66 = .inl (g.2 0, 6, .inl (va_cpy f10 f13 (0 : Int32).toNatClampNeg (0 : Int32).toNatClampNeg (6 : Int32).toNatClampNeg)) := up_at eS16 rfl
  refine lv_aload_n hx hb dX6_copyFrom_23 rfl (lv_at hl 1 rfl) ?_
  have c18 : S16 10 = .inr (6, [.int v1, .ref (ad 11), .ref (ad 12), .ref (ad 13), .ref (ad 14)]) := (up_ne eS16 (by decide) c9)
  refine xget E hQ 10 (by decide) c18 rfl 2 (by decide) q191 rfl dX6_copyFrom_24 ?_
  refine lv_iconst (v := 0) hx hb dX6_copyFrom_27 (by decide) ?_
  refine lv_aload_n hx hb dX6_copyFrom_28 rfl (lv_at hl 0 rfl) ?_
  have c19 : S16 65 = .inr (6, [.int v1, .ref (ad 66), .ref (ad 67), .ref (ad 68), .ref (ad 69)]) := (up_ne eS16 (by decide) c8)
  refine xget E hQ 65 (by decide) c19 rfl 2 (by decide) q191 rfl dX6_copyFrom_29 ?_
  refine lv_iconst (v := 0) hx hb dX6_copyFrom_32 (by decide) ?_
  refine lv_bipush (v := 6) hx hb dX6_copyFrom_33 (by decide) ?_
  obtain ⟨f20, c21⟩ := invX_12 hI
  obtain ⟨f23, c24⟩ := invX_67 hI
  refine xcopyi E hs hQ hml hl.1 12 (by decide) 67 (by decide) c21 c24 q756 (by decide) (by decide) (by decide) (Nat.le_of_ble_eq_true rfl) (Nat.le_of_ble_eq_true rfl) (Nat.le_of_ble_eq_true rfl) (Nat.le_of_ble_eq_true rfl) dX6_copyFrom_35 (fun H locs S26 eS26 hQ => ?_)
  have hI := invX_up_67 hI eS26 ⟨_, rfl⟩
  have c27 : S26 67 = .inl (g.2 0, 6, .inl (va_cpy f20 f23 (0 : Int32).toNatClampNeg (0 : Int32).toNatClampNeg (6 : Int32).toNatClampNeg)) := up_at eS26 rfl
  refine lv_aload_n hx hb dX6_copyFrom_38 rfl (lv_at hl 1 rfl) ?_
  have c28 : S26 10 = .inr (6, [.int v1, .ref (ad 11), .ref (ad 12), .ref (ad 13), .ref (ad 14)]) := (up_ne eS26 (by decide) c18)
  refine xget E hQ 10 (by decide) c28 rfl 3 (by decide) q193 rfl dX6_copyFrom_39 ?_
  refine lv_iconst (v := 0) hx hb dX6_copyFrom_42 (by decide) ?_
  refine lv_aload_n hx hb dX6_copyFrom_43 rfl (lv_at hl 0 rfl) ?_
  have c29 : S26 65 = .inr (6, [.int v1, .ref (ad 66), .ref (ad 67), .ref (ad 68), .ref (ad 69)]) := (up_ne eS26 (by decide) c19)
  refine xget E hQ 65 (by decide) c29 rfl 3 (by decide) q193 rfl dX6_copyFrom_44 ?_
  refine lv_iconst (v := 0) hx hb dX6_copyFrom_47 (by decide) ?_
  refine lv_bipush (v := 6) hx hb dX6_copyFrom_48 (by decide) ?_
  obtain ⟨f30, c31⟩ := invX_13 hI
  obtain ⟨f33, c34⟩ := invX_68 hI
  refine xcopyi E hs hQ hml hl.1 13 (by decide) 68 (by decide) c31 c34 q756 (by decide) (by decide) (by decide) (Nat.le_of_ble_eq_true rfl) (Nat.le_of_ble_eq_true rfl) (Nat.le_of_ble_eq_true rfl) (Nat.le_of_ble_eq_true rfl) dX6_copyFrom_50 (fun H locs S36 eS36 hQ => ?_)
  have hI := invX_up_68 hI eS36 ⟨_, rfl⟩
  have c37 : S36 68 = .inl (g.2 0, 6, .inl (va_cpy f30 f33 (0 : Int32).toNatClampNeg (0 : Int32).toNatClampNeg (6 : Int32).toNatClampNeg)) := up_at eS36 rfl
  refine lv_aload_n hx hb dX6_copyFrom_53 rfl (lv_at hl 1 rfl) ?_
  have c38 : S36 10 = .inr (6, [.int v1, .ref (ad 11), .ref (ad 12), .ref (ad 13), .ref (ad 14)]) := (up_ne eS36 (by decide) c28)
  refine xget E hQ 10 (by decide) c38 rfl 4 (by decide) q195 rfl dX6_copyFrom_54 ?_
  refine lv_iconst (v := 0) hx hb dX6_copyFrom_57 (by decide) ?_
  refine lv_aload_n hx hb dX6_copyFrom_58 rfl (lv_at hl 0 rfl) ?_
  have c39 : S36 65 = .inr (6, [.int v1, .ref (ad 66), .ref (ad 67), .ref (ad 68), .ref (ad 69)]) := (up_ne eS36 (by decide) c29)
  refine xget E hQ 65 (by decide) c39 rfl 4 (by decide) q195 rfl dX6_copyFrom_59 ?_
  refine lv_iconst (v := 0) hx hb dX6_copyFrom_62 (by decide) ?_
  refine lv_bipush (v := 6) hx hb dX6_copyFrom_63 (by decide) ?_
  obtain ⟨f40, c41⟩ := invX_14 hI
  obtain ⟨f43, c44⟩ := invX_69 hI
  refine xcopyi E hs hQ hml hl.1 14 (by decide) 69 (by decide) c41 c44 q756 (by decide) (by decide) (by decide) (Nat.le_of_ble_eq_true rfl) (Nat.le_of_ble_eq_true rfl) (Nat.le_of_ble_eq_true rfl) (Nat.le_of_ble_eq_true rfl) dX6_copyFrom_65 (fun H locs S46 eS46 hQ => ?_)
  have hI := invX_up_69 hI eS46 ⟨_, rfl⟩
  have c47 : S46 69 = .inl (g.2 0, 6, .inl (va_cpy f40 f43 (0 : Int32).toNatClampNeg (0 : Int32).toNatClampNeg (6 : Int32).toNatClampNeg)) := up_at eS46 rfl
  exact xrv E hr hlk hQ (⟨hI, (up_o (up_o (up_o (up_o (up_o o_refl eS7 (by decide)) eS16 (by decide)) eS26 (by decide)) eS36 (by decide)) eS46 (by decide))⟩) dX6_copyFrom_68
set_option maxHeartbeats 4000000 in
set_option maxRecDepth 100000 in
theorem gX1_copyFrom_57_2 (l : Launch) (g : GG) (ad : Nat → Nat) (hD : Dj ad 122) (S : SS) (hI : InvX g ad S) (hAR2 : ARp (S 16) (S 17) (S 18) (S 19)) : Met l yX1_copyFrom (wG (.code yX1_copyFrom cX1_copyFrom 2 none)) (Rm 2) (XPre g ad 122 S [.ref (ad 57), .ref (ad 2)]) (va_Qv (fun S' => InvX g ad S' ∧ (∀ j, j ∉ ([57, 58, 59, 60, 61, 62, 63, 64, 65, 66, 67, 68, 69, 70, 71, 72, 73, 74] : List Nat) → S' j = S j) ∧ (0 ≤ fld (S 2) 0 + (-1) * fld (S' 57) 0 ∧ 0 ≤ fld (S' 57) 0 + (-1) * fld (S 2) 0) ∧ (0 ≤ fld (S 2) 1 + (-1) * fld (S' 57) 1 ∧ 0 ≤ fld (S' 57) 1 + (-1) * fld (S 2) 1) ∧ (0 ≤ fld (S 2) 7 + (-1) * fld (S' 57) 7 ∧ 0 ≤ fld (S' 57) 7 + (-1) * fld (S 2) 7) ∧ (0 ≤ fld (S 2) 12 + (-1) * fld (S' 57) 12 ∧ 0 ≤ fld (S' 57) 12 + (-1) * fld (S 2) 12) ∧ (ARp (S' 71) (S' 72) (S' 73) (S' 74))) (QB g ad 122) (FA ad 122)) 0 0 (FA ad 122) := by
  refine xmet cX1_copyFrom "EbbWreck$Coast" (by decide) rfl (Nat.le_of_ble_eq_true rfl) (fun p e s m below meth c E hr hlk hml hQ ls hl => ?_)
  have hx := E.1
  have hb := E.2.1
  have hs : Sp ad 122 (FA ad 122) := Sp.fa hD
  have hl : lv_has ls 2 [(0, .ref (ad 57)), (1, .ref (ad 2))] := hl
  obtain ⟨v1, v3, v5, v6, v7, v9, c11, b2, b4, b8, b10⟩ := invX_2 hI
  have c11 : S 2 = .inr (1, [.int v1, .int v3, .int v5, .ref (ad 3), .ref (ad 5), .ref (ad 6), .int v6, .int v7, .ref (ad 7), .ref (ad 8), .ref (ad 9), .ref (ad 10), .int v9, .ref (ad 15), .ref (ad 16)]) := c11
  obtain ⟨v12, v14, v16, v17, v18, v20, c22, b13, b15, b19, b21⟩ := invX_57 hI
  have c22 : S 57 = .inr (1, [.int v12, .int v14, .int v16, .ref (ad 58), .ref (ad 60), .ref (ad 61), .int v17, .int v18, .ref (ad 62), .ref (ad 63), .ref (ad 64), .ref (ad 65), .int v20, .ref (ad 70), .ref (ad 71)]) := c22
  obtain ⟨v23, c25, b24⟩ := invX_16 hI
  have c25 : S 16 = .inr (0, [.int v23, .ref (ad 17), .ref (ad 18), .ref (ad 19)]) := c25
  obtain ⟨f26, c27⟩ := invX_17 hI
  obtain ⟨f29, c30, b31⟩ := invX_18 hI
  obtain ⟨f32, c33, b34⟩ := invX_19 hI
  refine lv_aload_n hx hb dX1_copyFrom_0 rfl (lv_at hl 0 rfl) ?_
  refine lv_aload_n hx hb dX1_copyFrom_1 rfl (lv_at hl 1 rfl) ?_
  refine xget E hQ 2 (by decide) c11 rfl 0 (by decide) q236 rfl dX1_copyFrom_2 ?_
  refine xputi E hs hQ 57 (by decide) c22 rfl 0 (by decide) q236 rfl rfl (Nat.le_of_ble_eq_true rfl) dX1_copyFrom_5 (fun H locs S35 eS35 hQ => ?_)
  have hI := invX_up_57 hI eS35 ⟨v1, v14, v16, v17, v18, v20, rfl, b2, b15, b19, b21⟩
  have c36 : S35 57 = .inr (1, [.int v1, .int v14, .int v16, .ref (ad 58), .ref (ad 60), .ref (ad 61), .int v17, .int v18, .ref (ad 62), .ref (ad 63), .ref (ad 64), .ref (ad 65), .int v20, .ref (ad 70), .ref (ad 71)]) := up_at eS35 rfl
  refine lv_aload_n hx hb dX1_copyFrom_8 rfl (lv_at hl 0 rfl) ?_
  refine lv_aload_n hx hb dX1_copyFrom_9 rfl (lv_at hl 1 rfl) ?_
  have c37 : S35 2 = .inr (1, [.int v1, .int v3, .int v5, .ref (ad 3), .ref (ad 5), .ref (ad 6), .int v6, .int v7, .ref (ad 7), .ref (ad 8), .ref (ad 9), .ref (ad 10), .int v9, .ref (ad 15), .ref (ad 16)]) := (up_ne eS35 (by decide) c11)
  refine xget E hQ 2 (by decide) c37 rfl 1 (by decide) q239 rfl dX1_copyFrom_10 ?_
  refine xputi E hs hQ 57 (by decide) c36 rfl 1 (by decide) q239 rfl rfl (Nat.le_of_ble_eq_true rfl) dX1_copyFrom_13 (fun H locs S38 eS38 hQ => ?_)
  have hI := invX_up_57 hI eS38 ⟨v1, v3, v16, v17, v18, v20, rfl, b2, b4, b19, b21⟩
  have c39 : S38 57 = .inr (1, [.int v1, .int v3, .int v16, .ref (ad 58), .ref (ad 60), .ref (ad 61), .int v17, .int v18, .ref (ad 62), .ref (ad 63), .ref (ad 64), .ref (ad 65), .int v20, .ref (ad 70), .ref (ad 71)]) := up_at eS38 rfl
  refine lv_aload_n hx hb dX1_copyFrom_16 rfl (lv_at hl 0 rfl) ?_
  refine lv_aload_n hx hb dX1_copyFrom_17 rfl (lv_at hl 1 rfl) ?_
  have c40 : S38 2 = .inr (1, [.int v1, .int v3, .int v5, .ref (ad 3), .ref (ad 5), .ref (ad 6), .int v6, .int v7, .ref (ad 7), .ref (ad 8), .ref (ad 9), .ref (ad 10), .int v9, .ref (ad 15), .ref (ad 16)]) := (up_ne eS38 (by decide) c37)
  refine xget E hQ 2 (by decide) c40 rfl 2 (by decide) q247 rfl dX1_copyFrom_18 ?_
  refine xputi E hs hQ 57 (by decide) c39 rfl 2 (by decide) q247 rfl rfl (Nat.le_of_ble_eq_true rfl) dX1_copyFrom_21 (fun H locs S41 eS41 hQ => ?_)
  have hI := invX_up_57 hI eS41 ⟨v1, v3, v5, v17, v18, v20, rfl, b2, b4, b19, b21⟩
  have c42 : S41 57 = .inr (1, [.int v1, .int v3, .int v5, .ref (ad 58), .ref (ad 60), .ref (ad 61), .int v17, .int v18, .ref (ad 62), .ref (ad 63), .ref (ad 64), .ref (ad 65), .int v20, .ref (ad 70), .ref (ad 71)]) := up_at eS41 rfl
  refine lv_aload_n hx hb dX1_copyFrom_24 rfl (lv_at hl 0 rfl) ?_
  refine xget E hQ 57 (by decide) c42 rfl 3 (by decide) q251 rfl dX1_copyFrom_25 ?_
  refine lv_aload_n hx hb dX1_copyFrom_28 rfl (lv_at hl 1 rfl) ?_
  have c43 : S41 2 = .inr (1, [.int v1, .int v3, .int v5, .ref (ad 3), .ref (ad 5), .ref (ad 6), .int v6, .int v7, .ref (ad 7), .ref (ad 8), .ref (ad 9), .ref (ad 10), .int v9, .ref (ad 15), .ref (ad 16)]) := (up_ne eS41 (by decide) c40)
  refine xget E hQ 2 (by decide) c43 rfl 3 (by decide) q251 rfl dX1_copyFrom_29 ?_
  obtain ⟨v44, v46, v48, v50, c52, b45, b47, b49, b51⟩ := invX_3 hI
  have c52 : S41 3 = .inr (10, [.int v44, .int v46, .int v48, .int v50, .ref (ad 4)]) := c52
  refine xget E hQ 3 (by decide) c52 rfl 0 (by decide) q156 rfl dX1_copyFrom_32 ?_
  refine lv_aload_n hx hb dX1_copyFrom_35 rfl (lv_at hl 1 rfl) ?_
  refine xget E hQ 2 (by decide) c43 rfl 3 (by decide) q251 rfl dX1_copyFrom_36 ?_
  refine xget E hQ 3 (by decide) c52 rfl 1 (by decide) q159 rfl dX1_copyFrom_39 ?_
  refine lv_aload_n hx hb dX1_copyFrom_42 rfl (lv_at hl 1 rfl) ?_
  refine xget E hQ 2 (by decide) c43 rfl 3 (by decide) q251 rfl dX1_copyFrom_43 ?_
  refine xget E hQ 3 (by decide) c52 rfl 2 (by decide) q162 rfl dX1_copyFrom_46 ?_
  obtain ⟨v54, v56, v58, v60, c62, b55, b57, b59, b61⟩ := invX_58 hI
  have c62 : S41 58 = .inr (10, [.int v54, .int v56, .int v58, .int v60, .ref (ad 59)]) := c62
  refine xcVv E hs hQ hml hl.1 58 (gX10_tell_58 l g ad hD S41 hI v44 v46 v48 b45 b47 b49) mX10_tell q592 (by decide) c62 rfl rfl ⟨(Nat.le_of_ble_eq_true rfl), (Nat.le_of_ble_eq_true rfl)⟩ ⟨(Nat.le_of_ble_eq_true rfl), (Nat.le_of_ble_eq_true rfl)⟩ (Nat.le_of_ble_eq_true rfl) rfl dX1_copyFrom_49 (fun S53 H locs hp53 hQ _ => ?_)
  obtain ⟨hI, o53⟩ := hp53
  refine lv_aload_n hx hb dX1_copyFrom_52 rfl (lv_at hl 1 rfl) ?_
  have c63 : S53 2 = .inr (1, [.int v1, .int v3, .int v5, .ref (ad 3), .ref (ad 5), .ref (ad 6), .int v6, .int v7, .ref (ad 7), .ref (ad 8), .ref (ad 9), .ref (ad 10), .int v9, .ref (ad 15), .ref (ad 16)]) := ((o53 2 (by decide)).trans c43)
  refine xget E hQ 2 (by decide) c63 rfl 4 (by decide) q257 rfl dX1_copyFrom_53 ?_
  refine lv_iconst (v := 0) hx hb dX1_copyFrom_56 (by decide) ?_
  refine lv_aload_n hx hb dX1_copyFrom_57 rfl (lv_at hl 0 rfl) ?_
  have c64 : S53 57 = .inr (1, [.int v1, .int v3, .int v5, .ref (ad 58), .ref (ad 60), .ref (ad 61), .int v17, .int v18, .ref (ad 62), .ref (ad 63), .ref (ad 64), .ref (ad 65), .int v20, .ref (ad 70), .ref (ad 71)]) := ((o53 57 (by decide)).trans c42)
  refine xget E hQ 57 (by decide) c64 rfl 4 (by decide) q257 rfl dX1_copyFrom_58 ?_
  refine lv_iconst (v := 0) hx hb dX1_copyFrom_61 (by decide) ?_
  refine lv_bipush (v := 12) hx hb dX1_copyFrom_62 (by decide) ?_
  obtain ⟨f65, c66⟩ := invX_5 hI
  obtain ⟨f68, c69⟩ := invX_60 hI
  refine xcopyi E hs hQ hml hl.1 5 (by decide) 60 (by decide) c66 c69 q749 (by decide) (by decide) (by decide) (Nat.le_of_ble_eq_true rfl) (Nat.le_of_ble_eq_true rfl) (Nat.le_of_ble_eq_true rfl) (Nat.le_of_ble_eq_true rfl) dX1_copyFrom_64 (fun H locs S71 eS71 hQ => ?_)
  have hI := invX_up_60 hI eS71 ⟨_, rfl⟩
  have c72 : S71 60 = .inl (g.2 0, 12, .inl (va_cpy f65 f68 (0 : Int32).toNatClampNeg (0 : Int32).toNatClampNeg (12 : Int32).toNatClampNeg)) := up_at eS71 rfl
  refine lv_aload_n hx hb dX1_copyFrom_67 rfl (lv_at hl 1 rfl) ?_
  have c73 : S71 2 = .inr (1, [.int v1, .int v3, .int v5, .ref (ad 3), .ref (ad 5), .ref (ad 6), .int v6, .int v7, .ref (ad 7), .ref (ad 8), .ref (ad 9), .ref (ad 10), .int v9, .ref (ad 15), .ref (ad 16)]) := (up_ne eS71 (by decide) c63)
  refine xget E hQ 2 (by decide) c73 rfl 5 (by decide) q260 rfl dX1_copyFrom_68 ?_
  refine lv_iconst (v := 0) hx hb dX1_copyFrom_71 (by decide) ?_
  refine lv_aload_n hx hb dX1_copyFrom_72 rfl (lv_at hl 0 rfl) ?_
  have c74 : S71 57 = .inr (1, [.int v1, .int v3, .int v5, .ref (ad 58), .ref (ad 60), .ref (ad 61), .int v17, .int v18, .ref (ad 62), .ref (ad 63), .ref (ad 64), .ref (ad 65), .int v20, .ref (ad 70), .ref (ad 71)]) := (up_ne eS71 (by decide) c64)
  refine xget E hQ 57 (by decide) c74 rfl 5 (by decide) q260 rfl dX1_copyFrom_73 ?_
  refine lv_iconst (v := 0) hx hb dX1_copyFrom_76 (by decide) ?_
  refine lv_bipush (v := 12) hx hb dX1_copyFrom_77 (by decide) ?_
  obtain ⟨f75, c76⟩ := invX_6 hI
  obtain ⟨f78, c79⟩ := invX_61 hI
  refine xcopyi E hs hQ hml hl.1 6 (by decide) 61 (by decide) c76 c79 q749 (by decide) (by decide) (by decide) (Nat.le_of_ble_eq_true rfl) (Nat.le_of_ble_eq_true rfl) (Nat.le_of_ble_eq_true rfl) (Nat.le_of_ble_eq_true rfl) dX1_copyFrom_79 (fun H locs S81 eS81 hQ => ?_)
  have hI := invX_up_61 hI eS81 ⟨_, rfl⟩
  have c82 : S81 61 = .inl (g.2 0, 12, .inl (va_cpy f75 f78 (0 : Int32).toNatClampNeg (0 : Int32).toNatClampNeg (12 : Int32).toNatClampNeg)) := up_at eS81 rfl
  refine lv_aload_n hx hb dX1_copyFrom_82 rfl (lv_at hl 0 rfl) ?_
  refine lv_aload_n hx hb dX1_copyFrom_83 rfl (lv_at hl 1 rfl) ?_
  have c83 : S81 2 = .inr (1, [.int v1, .int v3, .int v5, .ref (ad 3), .ref (ad 5), .ref (ad 6), .int v6, .int v7, .ref (ad 7), .ref (ad 8), .ref (ad 9), .ref (ad 10), .int v9, .ref (ad 15), .ref (ad 16)]) := (up_ne eS81 (by decide) c73)
  refine xget E hQ 2 (by decide) c83 rfl 6 (by decide) q263 rfl dX1_copyFrom_84 ?_
  have c84 : S81 57 = .inr (1, [.int v1, .int v3, .int v5, .ref (ad 58), .ref (ad 60), .ref (ad 61), .int v17, .int v18, .ref (ad 62), .ref (ad 63), .ref (ad 64), .ref (ad 65), .int v20, .ref (ad 70), .ref (ad 71)]) := (up_ne eS81 (by decide) c74)
  refine xputi E hs hQ 57 (by decide) c84 rfl 6 (by decide) q263 rfl rfl (Nat.le_of_ble_eq_true rfl) dX1_copyFrom_87 (fun H locs S85 eS85 hQ => ?_)
  have hI := invX_up_57 hI eS85 ⟨v1, v3, v5, v6, v18, v20, rfl, b2, b4, b19, b21⟩
  have c86 : S85 57 = .inr (1, [.int v1, .int v3, .int v5, .ref (ad 58), .ref (ad 60), .ref (ad 61), .int v6, .int v18, .ref (ad 62), .ref (ad 63), .ref (ad 64), .ref (ad 65), .int v20, .ref (ad 70), .ref (ad 71)]) := up_at eS85 rfl
  refine lv_aload_n hx hb dX1_copyFrom_90 rfl (lv_at hl 0 rfl) ?_
  refine lv_aload_n hx hb dX1_copyFrom_91 rfl (lv_at hl 1 rfl) ?_
  have c87 : S85 2 = .inr (1, [.int v1, .int v3, .int v5, .ref (ad 3), .ref (ad 5), .ref (ad 6), .int v6, .int v7, .ref (ad 7), .ref (ad 8), .ref (ad 9), .ref (ad 10), .int v9, .ref (ad 15), .ref (ad 16)]) := (up_ne eS85 (by decide) c83)
  refine xget E hQ 2 (by decide) c87 rfl 7 (by decide) q270 rfl dX1_copyFrom_92 ?_
  refine xputi E hs hQ 57 (by decide) c86 rfl 7 (by decide) q270 rfl rfl (Nat.le_of_ble_eq_true rfl) dX1_copyFrom_95 (fun H locs S88 eS88 hQ => ?_)
  have hI := invX_up_57 hI eS88 ⟨v1, v3, v5, v6, v7, v20, rfl, b2, b4, b8, b21⟩
  have c89 : S88 57 = .inr (1, [.int v1, .int v3, .int v5, .ref (ad 58), .ref (ad 60), .ref (ad 61), .int v6, .int v7, .ref (ad 62), .ref (ad 63), .ref (ad 64), .ref (ad 65), .int v20, .ref (ad 70), .ref (ad 71)]) := up_at eS88 rfl
  refine lv_aload_n hx hb dX1_copyFrom_98 rfl (lv_at hl 1 rfl) ?_
  have c90 : S88 2 = .inr (1, [.int v1, .int v3, .int v5, .ref (ad 3), .ref (ad 5), .ref (ad 6), .int v6, .int v7, .ref (ad 7), .ref (ad 8), .ref (ad 9), .ref (ad 10), .int v9, .ref (ad 15), .ref (ad 16)]) := (up_ne eS88 (by decide) c87)
  refine xget E hQ 2 (by decide) c90 rfl 8 (by decide) q274 rfl dX1_copyFrom_99 ?_
  refine lv_iconst (v := 0) hx hb dX1_copyFrom_102 (by decide) ?_
  refine lv_aload_n hx hb dX1_copyFrom_103 rfl (lv_at hl 0 rfl) ?_
  refine xget E hQ 57 (by decide) c89 rfl 8 (by decide) q274 rfl dX1_copyFrom_104 ?_
  refine lv_iconst (v := 0) hx hb dX1_copyFrom_107 (by decide) ?_
  refine lv_bipush (v := 8) hx hb dX1_copyFrom_108 (by decide) ?_
  obtain ⟨f91, c92⟩ := invX_7 hI
  obtain ⟨f94, c95⟩ := invX_62 hI
  refine xcopyi E hs hQ hml hl.1 7 (by decide) 62 (by decide) c92 c95 q749 (by decide) (by decide) (by decide) (Nat.le_of_ble_eq_true rfl) (Nat.le_of_ble_eq_true rfl) (Nat.le_of_ble_eq_true rfl) (Nat.le_of_ble_eq_true rfl) dX1_copyFrom_110 (fun H locs S97 eS97 hQ => ?_)
  have hI := invX_up_62 hI eS97 ⟨_, rfl⟩
  have c98 : S97 62 = .inl (g.2 0, 8, .inl (va_cpy f91 f94 (0 : Int32).toNatClampNeg (0 : Int32).toNatClampNeg (8 : Int32).toNatClampNeg)) := up_at eS97 rfl
  refine lv_aload_n hx hb dX1_copyFrom_113 rfl (lv_at hl 1 rfl) ?_
  have c99 : S97 2 = .inr (1, [.int v1, .int v3, .int v5, .ref (ad 3), .ref (ad 5), .ref (ad 6), .int v6, .int v7, .ref (ad 7), .ref (ad 8), .ref (ad 9), .ref (ad 10), .int v9, .ref (ad 15), .ref (ad 16)]) := (up_ne eS97 (by decide) c90)
  refine xget E hQ 2 (by decide) c99 rfl 9 (by decide) q279 rfl dX1_copyFrom_114 ?_
  refine lv_iconst (v := 0) hx hb dX1_copyFrom_117 (by decide) ?_
  refine lv_aload_n hx hb dX1_copyFrom_118 rfl (lv_at hl 0 rfl) ?_
  have c100 : S97 57 = .inr (1, [.int v1, .int v3, .int v5, .ref (ad 58), .ref (ad 60), .ref (ad 61), .int v6, .int v7, .ref (ad 62), .ref (ad 63), .ref (ad 64), .ref (ad 65), .int v20, .ref (ad 70), .ref (ad 71)]) := (up_ne eS97 (by decide) c89)
  refine xget E hQ 57 (by decide) c100 rfl 9 (by decide) q279 rfl dX1_copyFrom_119 ?_
  refine lv_iconst (v := 0) hx hb dX1_copyFrom_122 (by decide) ?_
  refine lv_bipush (v := 8) hx hb dX1_copyFrom_123 (by decide) ?_
  obtain ⟨f101, c102, b103⟩ := invX_8 hI
  obtain ⟨f104, c105, b106⟩ := invX_63 hI
  refine xcopyi E hs hQ hml hl.1 8 (by decide) 63 (by decide) c102 c105 q749 (by decide) (by decide) (by decide) (Nat.le_of_ble_eq_true rfl) (Nat.le_of_ble_eq_true rfl) (Nat.le_of_ble_eq_true rfl) (Nat.le_of_ble_eq_true rfl) dX1_copyFrom_125 (fun H locs S107 eS107 hQ => ?_)
  have hI := invX_up_63 hI eS107 ⟨_, rfl, cpy_b b103 b106⟩
  have b109 : ∀ j, Bd ((va_cpy f101 f104 (0 : Int32).toNatClampNeg (0 : Int32).toNatClampNeg (8 : Int32).toNatClampNeg) j) (0) (11) := cpy_b b103 b106
  have c108 : S107 63 = .inl (g.2 0, 8, .inl (va_cpy f101 f104 (0 : Int32).toNatClampNeg (0 : Int32).toNatClampNeg (8 : Int32).toNatClampNeg)) := up_at eS107 rfl
  refine lv_aload_n hx hb dX1_copyFrom_128 rfl (lv_at hl 1 rfl) ?_
  have c110 : S107 2 = .inr (1, [.int v1, .int v3, .int v5, .ref (ad 3), .ref (ad 5), .ref (ad 6), .int v6, .int v7, .ref (ad 7), .ref (ad 8), .ref (ad 9), .ref (ad 10), .int v9, .ref (ad 15), .ref (ad 16)]) := (up_ne eS107 (by decide) c99)
  refine xget E hQ 2 (by decide) c110 rfl 10 (by decide) q284 rfl dX1_copyFrom_129 ?_
  refine lv_iconst (v := 0) hx hb dX1_copyFrom_132 (by decide) ?_
  refine lv_aload_n hx hb dX1_copyFrom_133 rfl (lv_at hl 0 rfl) ?_
  have c111 : S107 57 = .inr (1, [.int v1, .int v3, .int v5, .ref (ad 58), .ref (ad 60), .ref (ad 61), .int v6, .int v7, .ref (ad 62), .ref (ad 63), .ref (ad 64), .ref (ad 65), .int v20, .ref (ad 70), .ref (ad 71)]) := (up_ne eS107 (by decide) c100)
  refine xget E hQ 57 (by decide) c111 rfl 10 (by decide) q284 rfl dX1_copyFrom_134 ?_
  refine lv_iconst (v := 0) hx hb dX1_copyFrom_137 (by decide) ?_
  refine lv_bipush (v := 8) hx hb dX1_copyFrom_138 (by decide) ?_
  obtain ⟨f112, c113, b114⟩ := invX_9 hI
  obtain ⟨f115, c116, b117⟩ := invX_64 hI
  refine xcopyi E hs hQ hml hl.1 9 (by decide) 64 (by decide) c113 c116 q749 (by decide) (by decide) (by decide) (Nat.le_of_ble_eq_true rfl) (Nat.le_of_ble_eq_true rfl) (Nat.le_of_ble_eq_true rfl) (Nat.le_of_ble_eq_true rfl) dX1_copyFrom_140 (fun H locs S118 eS118 hQ => ?_)
  have hI := invX_up_64 hI eS118 ⟨_, rfl, cpy_b b114 b117⟩
  have b120 : ∀ j, Bd ((va_cpy f112 f115 (0 : Int32).toNatClampNeg (0 : Int32).toNatClampNeg (8 : Int32).toNatClampNeg) j) (0) (99) := cpy_b b114 b117
  have c119 : S118 64 = .inl (g.2 0, 8, .inl (va_cpy f112 f115 (0 : Int32).toNatClampNeg (0 : Int32).toNatClampNeg (8 : Int32).toNatClampNeg)) := up_at eS118 rfl
  refine lv_aload_n hx hb dX1_copyFrom_143 rfl (lv_at hl 0 rfl) ?_
  have c121 : S118 57 = .inr (1, [.int v1, .int v3, .int v5, .ref (ad 58), .ref (ad 60), .ref (ad 61), .int v6, .int v7, .ref (ad 62), .ref (ad 63), .ref (ad 64), .ref (ad 65), .int v20, .ref (ad 70), .ref (ad 71)]) := (up_ne eS118 (by decide) c111)
  refine xget E hQ 57 (by decide) c121 rfl 11 (by decide) q289 rfl dX1_copyFrom_144 ?_
  refine lv_aload_n hx hb dX1_copyFrom_147 rfl (lv_at hl 1 rfl) ?_
  have c122 : S118 2 = .inr (1, [.int v1, .int v3, .int v5, .ref (ad 3), .ref (ad 5), .ref (ad 6), .int v6, .int v7, .ref (ad 7), .ref (ad 8), .ref (ad 9), .ref (ad 10), .int v9, .ref (ad 15), .ref (ad 16)]) := (up_ne eS118 (by decide) c110)
  refine xget E hQ 2 (by decide) c122 rfl 11 (by decide) q289 rfl dX1_copyFrom_148 ?_
  obtain ⟨v124, c126, b125⟩ := invX_65 hI
  have c126 : S118 65 = .inr (6, [.int v124, .ref (ad 66), .ref (ad 67), .ref (ad 68), .ref (ad 69)]) := c126
  refine xcVv E hs hQ hml hl.1 65 (gX6_copyFrom_65_10 l g ad hD S118 hI ) mX6_copyFrom q752 (by decide) c126 rfl rfl ⟨(Nat.le_of_ble_eq_true rfl), (Nat.le_of_ble_eq_true rfl)⟩ ⟨(Nat.le_of_ble_eq_true rfl), (Nat.le_of_ble_eq_true rfl)⟩ (Nat.le_of_ble_eq_true rfl) rfl dX1_copyFrom_151 (fun S123 H locs hp123 hQ _ => ?_)
  obtain ⟨hI, o123⟩ := hp123
  refine lv_aload_n hx hb dX1_copyFrom_154 rfl (lv_at hl 0 rfl) ?_
  refine lv_aload_n hx hb dX1_copyFrom_155 rfl (lv_at hl 1 rfl) ?_
  have c127 : S123 2 = .inr (1, [.int v1, .int v3, .int v5, .ref (ad 3), .ref (ad 5), .ref (ad 6), .int v6, .int v7, .ref (ad 7), .ref (ad 8), .ref (ad 9), .ref (ad 10), .int v9, .ref (ad 15), .ref (ad 16)]) := ((o123 2 (by decide)).trans c122)
  refine xget E hQ 2 (by decide) c127 rfl 12 (by decide) q293 rfl dX1_copyFrom_156 ?_
  have c128 : S123 57 = .inr (1, [.int v1, .int v3, .int v5, .ref (ad 58), .ref (ad 60), .ref (ad 61), .int v6, .int v7, .ref (ad 62), .ref (ad 63), .ref (ad 64), .ref (ad 65), .int v20, .ref (ad 70), .ref (ad 71)]) := ((o123 57 (by decide)).trans c121)
  refine xputi E hs hQ 57 (by decide) c128 rfl 12 (by decide) q293 rfl rfl (Nat.le_of_ble_eq_true rfl) dX1_copyFrom_159 (fun H locs S129 eS129 hQ => ?_)
  have hI := invX_up_57 hI eS129 ⟨v1, v3, v5, v6, v7, v9, rfl, b2, b4, b8, b10⟩
  have c130 : S129 57 = .inr (1, [.int v1, .int v3, .int v5, .ref (ad 58), .ref (ad 60), .ref (ad 61), .int v6, .int v7, .ref (ad 62), .ref (ad 63), .ref (ad 64), .ref (ad 65), .int v9, .ref (ad 70), .ref (ad 71)]) := up_at eS129 rfl
  refine lv_aload_n hx hb dX1_copyFrom_162 rfl (lv_at hl 1 rfl) ?_
  have c131 : S129 2 = .inr (1, [.int v1, .int v3, .int v5, .ref (ad 3), .ref (ad 5), .ref (ad 6), .int v6, .int v7, .ref (ad 7), .ref (ad 8), .ref (ad 9), .ref (ad 10), .int v9, .ref (ad 15), .ref (ad 16)]) := (up_ne eS129 (by decide) c127)
  refine xget E hQ 2 (by decide) c131 rfl 13 (by decide) q297 rfl dX1_copyFrom_163 ?_
  refine lv_iconst (v := 0) hx hb dX1_copyFrom_166 (by decide) ?_
  refine lv_aload_n hx hb dX1_copyFrom_167 rfl (lv_at hl 0 rfl) ?_
  refine xget E hQ 57 (by decide) c130 rfl 13 (by decide) q297 rfl dX1_copyFrom_168 ?_
  refine lv_iconst (v := 0) hx hb dX1_copyFrom_171 (by decide) ?_
  refine lv_iconst (v := 3) hx hb dX1_copyFrom_172 (by decide) ?_
  obtain ⟨f132, c133, b134⟩ := invX_15 hI
  obtain ⟨f135, c136, b137⟩ := invX_70 hI
  refine xcopyi E hs hQ hml hl.1 15 (by decide) 70 (by decide) c133 c136 q749 (by decide) (by decide) (by decide) (Nat.le_of_ble_eq_true rfl) (Nat.le_of_ble_eq_true rfl) (Nat.le_of_ble_eq_true rfl) (Nat.le_of_ble_eq_true rfl) dX1_copyFrom_173 (fun H locs S138 eS138 hQ => ?_)
  have hI := invX_up_70 hI eS138 ⟨_, rfl, cpy_b b134 b137⟩
  have b140 : ∀ j, Bd ((va_cpy f132 f135 (0 : Int32).toNatClampNeg (0 : Int32).toNatClampNeg (3 : Int32).toNatClampNeg) j) (0) (11) := cpy_b b134 b137
  have c139 : S138 70 = .inl (g.2 0, 3, .inl (va_cpy f132 f135 (0 : Int32).toNatClampNeg (0 : Int32).toNatClampNeg (3 : Int32).toNatClampNeg)) := up_at eS138 rfl
  refine lv_aload_n hx hb dX1_copyFrom_176 rfl (lv_at hl 0 rfl) ?_
  have c141 : S138 57 = .inr (1, [.int v1, .int v3, .int v5, .ref (ad 58), .ref (ad 60), .ref (ad 61), .int v6, .int v7, .ref (ad 62), .ref (ad 63), .ref (ad 64), .ref (ad 65), .int v9, .ref (ad 70), .ref (ad 71)]) := (up_ne eS138 (by decide) c130)
  refine xget E hQ 57 (by decide) c141 rfl 14 (by decide) q301 rfl dX1_copyFrom_177 ?_
  refine lv_aload_n hx hb dX1_copyFrom_180 rfl (lv_at hl 1 rfl) ?_
  have c142 : S138 2 = .inr (1, [.int v1, .int v3, .int v5, .ref (ad 3), .ref (ad 5), .ref (ad 6), .int v6, .int v7, .ref (ad 7), .ref (ad 8), .ref (ad 9), .ref (ad 10), .int v9, .ref (ad 15), .ref (ad 16)]) := (up_ne eS138 (by decide) c131)
  refine xget E hQ 2 (by decide) c142 rfl 14 (by decide) q301 rfl dX1_copyFrom_181 ?_
  have c143 : S138 16 = .inr (0, [.int v23, .ref (ad 17), .ref (ad 18), .ref (ad 19)]) := (up_ne eS138 (by decide) (up_ne eS129 (by decide) ((o123 16 (by decide)).trans (up_ne eS118 (by decide) (up_ne eS107 (by decide) (up_ne eS97 (by decide) (up_ne eS88 (by decide) (up_ne eS85 (by decide) (up_ne eS81 (by decide) (up_ne eS71 (by decide) ((o53 16 (by decide)).trans (up_ne eS41 (by decide) (up_ne eS38 (by decide) (up_ne eS35 (by decide) c25))))))))))))))
  obtain ⟨v145, c147, b146⟩ := invX_71 hI
  have c147 : S138 71 = .inr (0, [.int v145, .ref (ad 72), .ref (ad 73), .ref (ad 74)]) := c147
  refine xcVv E hs hQ hml hl.1 71 (gX0_copyFrom_71_16 l g ad hD S138 hI (ar_tr hAR2 ((up_eq (j := 16) eS138 (by decide)).trans ((up_eq (j := 16) eS129 (by decide)).trans ((o123 16 (by decide)).trans ((up_eq (j := 16) eS118 (by decide)).trans ((up_eq (j := 16) eS107 (by decide)).trans ((up_eq (j := 16) eS97 (by decide)).trans ((up_eq (j := 16) eS88 (by decide)).trans ((up_eq (j := 16) eS85 (by decide)).trans ((up_eq (j := 16) eS81 (by decide)).trans ((up_eq (j := 16) eS71 (by decide)).trans ((o53 16 (by decide)).trans ((up_eq (j := 16) eS41 (by decide)).trans ((up_eq (j := 16) eS38 (by decide)).trans (up_eq (j := 16) eS35 (by decide))))))))))))))) ((up_eq (j := 17) eS138 (by decide)).trans ((up_eq (j := 17) eS129 (by decide)).trans ((o123 17 (by decide)).trans ((up_eq (j := 17) eS118 (by decide)).trans ((up_eq (j := 17) eS107 (by decide)).trans ((up_eq (j := 17) eS97 (by decide)).trans ((up_eq (j := 17) eS88 (by decide)).trans ((up_eq (j := 17) eS85 (by decide)).trans ((up_eq (j := 17) eS81 (by decide)).trans ((up_eq (j := 17) eS71 (by decide)).trans ((o53 17 (by decide)).trans ((up_eq (j := 17) eS41 (by decide)).trans ((up_eq (j := 17) eS38 (by decide)).trans (up_eq (j := 17) eS35 (by decide))))))))))))))) ((up_eq (j := 18) eS138 (by decide)).trans ((up_eq (j := 18) eS129 (by decide)).trans ((o123 18 (by decide)).trans ((up_eq (j := 18) eS118 (by decide)).trans ((up_eq (j := 18) eS107 (by decide)).trans ((up_eq (j := 18) eS97 (by decide)).trans ((up_eq (j := 18) eS88 (by decide)).trans ((up_eq (j := 18) eS85 (by decide)).trans ((up_eq (j := 18) eS81 (by decide)).trans ((up_eq (j := 18) eS71 (by decide)).trans ((o53 18 (by decide)).trans ((up_eq (j := 18) eS41 (by decide)).trans ((up_eq (j := 18) eS38 (by decide)).trans (up_eq (j := 18) eS35 (by decide))))))))))))))) ((up_eq (j := 19) eS138 (by decide)).trans ((up_eq (j := 19) eS129 (by decide)).trans ((o123 19 (by decide)).trans ((up_eq (j := 19) eS118 (by decide)).trans ((up_eq (j := 19) eS107 (by decide)).trans ((up_eq (j := 19) eS97 (by decide)).trans ((up_eq (j := 19) eS88 (by decide)).trans ((up_eq (j := 19) eS85 (by decide)).trans ((up_eq (j := 19) eS81 (by decide)).trans ((up_eq (j := 19) eS71 (by decide)).trans ((o53 19 (by decide)).trans ((up_eq (j := 19) eS41 (by decide)).trans ((up_eq (j := 19) eS38 (by decide)).trans (up_eq (j := 19) eS35 (by decide))))))))))))))))) mX0_copyFrom q757 (by decide) c147 rfl rfl ⟨(Nat.le_of_ble_eq_true rfl), (Nat.le_of_ble_eq_true rfl)⟩ ⟨(Nat.le_of_ble_eq_true rfl), (Nat.le_of_ble_eq_true rfl)⟩ (Nat.le_of_ble_eq_true rfl) rfl dX1_copyFrom_184 (fun S144 H locs hp144 hQ _ => ?_)
  obtain ⟨hI, o144, g144_0, u144_0⟩ := hp144
  have q148 : fld (S138 16) 0 = v23.toInt := fld_of c143 rfl
  obtain ⟨v149, c151, b150⟩ := invX_71 hI
  have c151 : S144 71 = .inr (0, [.int v149, .ref (ad 72), .ref (ad 73), .ref (ad 74)]) := c151
  have q152 : fld (S144 71) 0 = v149.toInt := fld_of c151 rfl
  have q153 : fld (S 2) 0 = v1.toInt := fld_of c11 rfl
  have c154 : S144 57 = .inr (1, [.int v1, .int v3, .int v5, .ref (ad 58), .ref (ad 60), .ref (ad 61), .int v6, .int v7, .ref (ad 62), .ref (ad 63), .ref (ad 64), .ref (ad 65), .int v9, .ref (ad 70), .ref (ad 71)]) := ((o144 57 (by decide)).trans c141)
  have q155 : fld (S144 57) 0 = v1.toInt := fld_of c154 rfl
  have q156 : fld (S 2) 1 = v3.toInt := fld_of c11 rfl
  have q157 : fld (S144 57) 1 = v3.toInt := fld_of c154 rfl
  have q158 : fld (S 2) 7 = v7.toInt := fld_of c11 rfl
  have q159 : fld (S144 57) 7 = v7.toInt := fld_of c154 rfl
  have q160 : fld (S 2) 12 = v9.toInt := fld_of c11 rfl
  have q161 : fld (S144 57) 12 = v9.toInt := fld_of c154 rfl
  exact xrv E hr hlk hQ (⟨hI, (o_trans (up_o (up_o (o_trans (up_o (up_o (up_o (up_o (up_o (up_o (up_o (o_trans (up_o (up_o (up_o o_refl eS35 (by decide)) eS38 (by decide)) eS41 (by decide)) o53 (by decide)) eS71 (by decide)) eS81 (by decide)) eS85 (by decide)) eS88 (by decide)) eS97 (by decide)) eS107 (by decide)) eS118 (by decide)) o123 (by decide)) eS129 (by decide)) eS138 (by decide)) o144 (by decide)), ⟨by omega, by omega⟩, ⟨by omega, by omega⟩, ⟨by omega, by omega⟩, ⟨by omega, by omega⟩, u144_0⟩) dX1_copyFrom_187
set_option maxHeartbeats 4000000 in
set_option maxRecDepth 100000 in
theorem gX0_copyFrom_89_16 (l : Launch) (g : GG) (ad : Nat → Nat) (hD : Dj ad 122) (S : SS) (hI : InvX g ad S) (hAR2 : ARp (S 16) (S 17) (S 18) (S 19)) : Met l yX0_copyFrom (wG (.code yX0_copyFrom cX0_copyFrom 2 none)) (Rm 1) (XPre g ad 122 S [.ref (ad 89), .ref (ad 16)]) (va_Qv (fun S' => InvX g ad S' ∧ (∀ j, j ∉ ([89, 90, 91, 92] : List Nat) → S' j = S j) ∧ (0 ≤ fld (S 16) 0 + (-1) * fld (S' 89) 0 ∧ 0 ≤ fld (S' 89) 0 + (-1) * fld (S 16) 0) ∧ (ARp (S' 89) (S' 90) (S' 91) (S' 92))) (QB g ad 122) (FA ad 122)) 0 0 (FA ad 122) := by
  refine xmet cX0_copyFrom "EbbWreck$Acts" (by decide) rfl (Nat.le_of_ble_eq_true rfl) (fun p e s m below meth c E hr hlk hml hQ ls hl => ?_)
  have hx := E.1
  have hb := E.2.1
  have hs : Sp ad 122 (FA ad 122) := Sp.fa hD
  have hl : lv_has ls 2 [(0, .ref (ad 89)), (1, .ref (ad 16))] := hl
  obtain ⟨v1, c3, b2⟩ := invX_16 hI
  have c3 : S 16 = .inr (0, [.int v1, .ref (ad 17), .ref (ad 18), .ref (ad 19)]) := c3
  obtain ⟨v4, c6, b5⟩ := invX_89 hI
  have c6 : S 89 = .inr (0, [.int v4, .ref (ad 90), .ref (ad 91), .ref (ad 92)]) := c6
  obtain ⟨f7, c8⟩ := invX_17 hI
  obtain ⟨f10, c11, b12⟩ := invX_18 hI
  obtain ⟨f13, c14, b15⟩ := invX_19 hI
  refine lv_aload_n hx hb dX0_copyFrom_0 rfl (lv_at hl 0 rfl) ?_
  refine lv_aload_n hx hb dX0_copyFrom_1 rfl (lv_at hl 1 rfl) ?_
  refine xget E hQ 16 (by decide) c3 rfl 0 (by decide) q215 rfl dX0_copyFrom_2 ?_
  refine xputi E hs hQ 89 (by decide) c6 rfl 0 (by decide) q215 rfl rfl (Nat.le_of_ble_eq_true rfl) dX0_copyFrom_5 (fun H locs S16 eS16 hQ => ?_)
  have hI := invX_up_89 hI eS16 ⟨v1, rfl, b2⟩
  have c17 : S16 89 = .inr (0, [.int v1, .ref (ad 90), .ref (ad 91), .ref (ad 92)]) := up_at eS16 rfl
  refine lv_aload_n hx hb dX0_copyFrom_8 rfl (lv_at hl 1 rfl) ?_
  have c18 : S16 16 = .inr (0, [.int v1, .ref (ad 17), .ref (ad 18), .ref (ad 19)]) := (up_ne eS16 (by decide) c3)
  refine xget E hQ 16 (by decide) c18 rfl 1 (by decide) q219 rfl dX0_copyFrom_9 ?_
  refine lv_iconst (v := 0) hx hb dX0_copyFrom_12 (by decide) ?_
  refine lv_aload_n hx hb dX0_copyFrom_13 rfl (lv_at hl 0 rfl) ?_
  refine xget E hQ 89 (by decide) c17 rfl 1 (by decide) q219 rfl dX0_copyFrom_14 ?_
  refine lv_iconst (v := 0) hx hb dX0_copyFrom_17 (by decide) ?_
  refine lv_bipush (v := 40) hx hb dX0_copyFrom_18 (by decide) ?_
  have c19 : S16 17 = .inl (g.2 0, 40, .inl f7) := (up_ne eS16 (by decide) c8)
  obtain ⟨f20, c21⟩ := invX_90 hI
  refine xcopyi E hs hQ hml hl.1 17 (by decide) 90 (by decide) c19 c21 q761 (by decide) (by decide) (by decide) (Nat.le_of_ble_eq_true rfl) (Nat.le_of_ble_eq_true rfl) (Nat.le_of_ble_eq_true rfl) (Nat.le_of_ble_eq_true rfl) dX0_copyFrom_20 (fun H locs S23 eS23 hQ => ?_)
  have hI := invX_up_90 hI eS23 ⟨_, rfl⟩
  have c24 : S23 90 = .inl (g.2 0, 40, .inl (va_cpy f7 f20 (0 : Int32).toNatClampNeg (0 : Int32).toNatClampNeg (40 : Int32).toNatClampNeg)) := up_at eS23 rfl
  refine lv_aload_n hx hb dX0_copyFrom_23 rfl (lv_at hl 1 rfl) ?_
  have c25 : S23 16 = .inr (0, [.int v1, .ref (ad 17), .ref (ad 18), .ref (ad 19)]) := (up_ne eS23 (by decide) c18)
  refine xget E hQ 16 (by decide) c25 rfl 2 (by decide) q222 rfl dX0_copyFrom_24 ?_
  refine lv_iconst (v := 0) hx hb dX0_copyFrom_27 (by decide) ?_
  refine lv_aload_n hx hb dX0_copyFrom_28 rfl (lv_at hl 0 rfl) ?_
  have c26 : S23 89 = .inr (0, [.int v1, .ref (ad 90), .ref (ad 91), .ref (ad 92)]) := (up_ne eS23 (by decide) c17)
  refine xget E hQ 89 (by decide) c26 rfl 2 (by decide) q222 rfl dX0_copyFrom_29 ?_
  refine lv_iconst (v := 0) hx hb dX0_copyFrom_32 (by decide) ?_
  refine lv_bipush (v := 40) hx hb dX0_copyFrom_33 (by decide) ?_
  have c27 : S23 18 = .inl (g.2 0, 40, .inl f10) := (up_ne eS23 (by decide) (up_ne eS16 (by decide) c11))
  obtain ⟨f28, c29, b30⟩ := invX_91 hI
  refine xcopyi E hs hQ hml hl.1 18 (by decide) 91 (by decide) c27 c29 q761 (by decide) (by decide) (by decide) (Nat.le_of_ble_eq_true rfl) (Nat.le_of_ble_eq_true rfl) (Nat.le_of_ble_eq_true rfl) (Nat.le_of_ble_eq_true rfl) dX0_copyFrom_35 (fun H locs S31 eS31 hQ => ?_)
  have hI := invX_up_91 hI eS31 ⟨_, rfl, cpy_b b12 b30⟩
  have b33 : ∀ j, Bd ((va_cpy f10 f28 (0 : Int32).toNatClampNeg (0 : Int32).toNatClampNeg (40 : Int32).toNatClampNeg) j) (0) (7) := cpy_b b12 b30
  have c32 : S31 91 = .inl (g.2 0, 40, .inl (va_cpy f10 f28 (0 : Int32).toNatClampNeg (0 : Int32).toNatClampNeg (40 : Int32).toNatClampNeg)) := up_at eS31 rfl
  refine lv_aload_n hx hb dX0_copyFrom_38 rfl (lv_at hl 1 rfl) ?_
  have c34 : S31 16 = .inr (0, [.int v1, .ref (ad 17), .ref (ad 18), .ref (ad 19)]) := (up_ne eS31 (by decide) c25)
  refine xget E hQ 16 (by decide) c34 rfl 3 (by decide) q224 rfl dX0_copyFrom_39 ?_
  refine lv_iconst (v := 0) hx hb dX0_copyFrom_42 (by decide) ?_
  refine lv_aload_n hx hb dX0_copyFrom_43 rfl (lv_at hl 0 rfl) ?_
  have c35 : S31 89 = .inr (0, [.int v1, .ref (ad 90), .ref (ad 91), .ref (ad 92)]) := (up_ne eS31 (by decide) c26)
  refine xget E hQ 89 (by decide) c35 rfl 3 (by decide) q224 rfl dX0_copyFrom_44 ?_
  refine lv_iconst (v := 0) hx hb dX0_copyFrom_47 (by decide) ?_
  refine lv_bipush (v := 40) hx hb dX0_copyFrom_48 (by decide) ?_
  have c36 : S31 19 = .inl (g.2 0, 40, .inl f13) := (up_ne eS31 (by decide) (up_ne eS23 (by decide) (up_ne eS16 (by decide) c14)))
  obtain ⟨f37, c38, b39⟩ := invX_92 hI
  refine xcopyi E hs hQ hml hl.1 19 (by decide) 92 (by decide) c36 c38 q761 (by decide) (by decide) (by decide) (Nat.le_of_ble_eq_true rfl) (Nat.le_of_ble_eq_true rfl) (Nat.le_of_ble_eq_true rfl) (Nat.le_of_ble_eq_true rfl) dX0_copyFrom_50 (fun H locs S40 eS40 hQ => ?_)
  have hI := invX_up_92 hI eS40 ⟨_, rfl, cpy_b b15 b39⟩
  have b42 : ∀ j, Bd ((va_cpy f13 f37 (0 : Int32).toNatClampNeg (0 : Int32).toNatClampNeg (40 : Int32).toNatClampNeg) j) (0) (400) := cpy_b b15 b39
  have c41 : S40 92 = .inl (g.2 0, 40, .inl (va_cpy f13 f37 (0 : Int32).toNatClampNeg (0 : Int32).toNatClampNeg (40 : Int32).toNatClampNeg)) := up_at eS40 rfl
  have q43 : fld (S 16) 0 = v1.toInt := fld_of c3 rfl
  have c44 : S40 89 = .inr (0, [.int v1, .ref (ad 90), .ref (ad 91), .ref (ad 92)]) := (up_ne eS40 (by decide) c35)
  have q45 : fld (S40 89) 0 = v1.toInt := fld_of c44 rfl
  have c46 : S40 90 = .inl (g.2 0, 40, .inl (va_cpy f7 f20 (0 : Int32).toNatClampNeg (0 : Int32).toNatClampNeg (40 : Int32).toNatClampNeg)) := (up_ne eS40 (by decide) (up_ne eS31 (by decide) c24))
  have c47 : S40 91 = .inl (g.2 0, 40, .inl (va_cpy f10 f28 (0 : Int32).toNatClampNeg (0 : Int32).toNatClampNeg (40 : Int32).toNatClampNeg)) := (up_ne eS40 (by decide) c32)
  exact xrv E hr hlk hQ (⟨hI, (up_o (up_o (up_o (up_o o_refl eS16 (by decide)) eS23 (by decide)) eS31 (by decide)) eS40 (by decide)), ⟨by omega, by omega⟩, (ar_cpy c3 rfl c8 c11 c14 hAR2 (b2).2 c44 rfl c46 c47 c41)⟩) dX0_copyFrom_53
set_option maxHeartbeats 4000000 in
set_option maxRecDepth 100000 in
theorem gX6_copyFrom_83_10 (l : Launch) (g : GG) (ad : Nat → Nat) (hD : Dj ad 122) (S : SS) (hI : InvX g ad S) : Met l yX6_copyFrom (wG (.code yX6_copyFrom cX6_copyFrom 2 none)) (Rm 1) (XPre g ad 122 S [.ref (ad 83), .ref (ad 10)]) (va_Qv (fun S' => InvX g ad S' ∧ (∀ j, j ∉ ([83, 84, 85, 86, 87] : List Nat) → S' j = S j)) (QB g ad 122) (FA ad 122)) 0 0 (FA ad 122) := by
  refine xmet cX6_copyFrom "EbbWreck$RuleBook" (by decide) rfl (Nat.le_of_ble_eq_true rfl) (fun p e s m below meth c E hr hlk hml hQ ls hl => ?_)
  have hx := E.1
  have hb := E.2.1
  have hs : Sp ad 122 (FA ad 122) := Sp.fa hD
  have hl : lv_has ls 2 [(0, .ref (ad 83)), (1, .ref (ad 10))] := hl
  refine lv_aload_n hx hb dX6_copyFrom_0 rfl (lv_at hl 0 rfl) ?_
  refine lv_aload_n hx hb dX6_copyFrom_1 rfl (lv_at hl 1 rfl) ?_
  obtain ⟨v1, c3, b2⟩ := invX_10 hI
  have c3 : S 10 = .inr (6, [.int v1, .ref (ad 11), .ref (ad 12), .ref (ad 13), .ref (ad 14)]) := c3
  refine xget E hQ 10 (by decide) c3 rfl 0 (by decide) q186 rfl dX6_copyFrom_2 ?_
  obtain ⟨v4, c6, b5⟩ := invX_83 hI
  have c6 : S 83 = .inr (6, [.int v4, .ref (ad 84), .ref (ad 85), .ref (ad 86), .ref (ad 87)]) := c6
  refine xputi E hs hQ 83 (by decide) c6 rfl 0 (by decide) q186 rfl rfl (Nat.le_of_ble_eq_true rfl) dX6_copyFrom_5 (fun H locs S7 eS7 hQ => ?_)
  have hI := invX_up_83 hI eS7 ⟨v1, rfl, b2⟩
  have c8 : S7 83 = .inr (6, [.int v1, .ref (ad 84), .ref (ad 85), .ref (ad 86), .ref (ad 87)]) := up_at eS7 rfl
  refine lv_aload_n hx hb dX6_copyFrom_8 rfl (lv_at hl 1 rfl) ?_
  have c9 : S7 10 = .inr (6, [.int v1, .ref (ad 11), .ref (ad 12), .ref (ad 13), .ref (ad 14)]) := (up_ne eS7 (by decide) c3)
  refine xget E hQ 10 (by decide) c9 rfl 1 (by decide) q189 rfl dX6_copyFrom_9 ?_
  refine lv_iconst (v := 0) hx hb dX6_copyFrom_12 (by decide) ?_
  refine lv_aload_n hx hb dX6_copyFrom_13 rfl (lv_at hl 0 rfl) ?_
  refine xget E hQ 83 (by decide) c8 rfl 1 (by decide) q189 rfl dX6_copyFrom_14 ?_
  refine lv_iconst (v := 0) hx hb dX6_copyFrom_17 (by decide) ?_
  refine lv_bipush (v := 6) hx hb dX6_copyFrom_18 (by decide) ?_
  obtain ⟨f10, c11⟩ := invX_11 hI
  obtain ⟨f13, c14⟩ := invX_84 hI
  refine xcopyi E hs hQ hml hl.1 11 (by decide) 84 (by decide) c11 c14 q756 (by decide) (by decide) (by decide) (Nat.le_of_ble_eq_true rfl) (Nat.le_of_ble_eq_true rfl) (Nat.le_of_ble_eq_true rfl) (Nat.le_of_ble_eq_true rfl) dX6_copyFrom_20 (fun H locs S16 eS16 hQ => ?_)
  have hI := invX_up_84 hI eS16 ⟨_, rfl⟩
  have c17 : S16 84 = .inl (g.2 0, 6, .inl (va_cpy f10 f13 (0 : Int32).toNatClampNeg (0 : Int32).toNatClampNeg (6 : Int32).toNatClampNeg)) := up_at eS16 rfl
  refine lv_aload_n hx hb dX6_copyFrom_23 rfl (lv_at hl 1 rfl) ?_
  have c18 : S16 10 = .inr (6, [.int v1, .ref (ad 11), .ref (ad 12), .ref (ad 13), .ref (ad 14)]) := (up_ne eS16 (by decide) c9)
  refine xget E hQ 10 (by decide) c18 rfl 2 (by decide) q191 rfl dX6_copyFrom_24 ?_
  refine lv_iconst (v := 0) hx hb dX6_copyFrom_27 (by decide) ?_
  refine lv_aload_n hx hb dX6_copyFrom_28 rfl (lv_at hl 0 rfl) ?_
  have c19 : S16 83 = .inr (6, [.int v1, .ref (ad 84), .ref (ad 85), .ref (ad 86), .ref (ad 87)]) := (up_ne eS16 (by decide) c8)
  refine xget E hQ 83 (by decide) c19 rfl 2 (by decide) q191 rfl dX6_copyFrom_29 ?_
  refine lv_iconst (v := 0) hx hb dX6_copyFrom_32 (by decide) ?_
  refine lv_bipush (v := 6) hx hb dX6_copyFrom_33 (by decide) ?_
  obtain ⟨f20, c21⟩ := invX_12 hI
  obtain ⟨f23, c24⟩ := invX_85 hI
  refine xcopyi E hs hQ hml hl.1 12 (by decide) 85 (by decide) c21 c24 q756 (by decide) (by decide) (by decide) (Nat.le_of_ble_eq_true rfl) (Nat.le_of_ble_eq_true rfl) (Nat.le_of_ble_eq_true rfl) (Nat.le_of_ble_eq_true rfl) dX6_copyFrom_35 (fun H locs S26 eS26 hQ => ?_)
  have hI := invX_up_85 hI eS26 ⟨_, rfl⟩
  have c27 : S26 85 = .inl (g.2 0, 6, .inl (va_cpy f20 f23 (0 : Int32).toNatClampNeg (0 : Int32).toNatClampNeg (6 : Int32).toNatClampNeg)) := up_at eS26 rfl
  refine lv_aload_n hx hb dX6_copyFrom_38 rfl (lv_at hl 1 rfl) ?_
  have c28 : S26 10 = .inr (6, [.int v1, .ref (ad 11), .ref (ad 12), .ref (ad 13), .ref (ad 14)]) := (up_ne eS26 (by decide) c18)
  refine xget E hQ 10 (by decide) c28 rfl 3 (by decide) q193 rfl dX6_copyFrom_39 ?_
  refine lv_iconst (v := 0) hx hb dX6_copyFrom_42 (by decide) ?_
  refine lv_aload_n hx hb dX6_copyFrom_43 rfl (lv_at hl 0 rfl) ?_
  have c29 : S26 83 = .inr (6, [.int v1, .ref (ad 84), .ref (ad 85), .ref (ad 86), .ref (ad 87)]) := (up_ne eS26 (by decide) c19)
  refine xget E hQ 83 (by decide) c29 rfl 3 (by decide) q193 rfl dX6_copyFrom_44 ?_
  refine lv_iconst (v := 0) hx hb dX6_copyFrom_47 (by decide) ?_
  refine lv_bipush (v := 6) hx hb dX6_copyFrom_48 (by decide) ?_
  obtain ⟨f30, c31⟩ := invX_13 hI
  obtain ⟨f33, c34⟩ := invX_86 hI
  refine xcopyi E hs hQ hml hl.1 13 (by decide) 86 (by decide) c31 c34 q756 (by decide) (by decide) (by decide) (Nat.le_of_ble_eq_true rfl) (Nat.le_of_ble_eq_true rfl) (Nat.le_of_ble_eq_true rfl) (Nat.le_of_ble_eq_true rfl) dX6_copyFrom_50 (fun H locs S36 eS36 hQ => ?_)
  have hI := invX_up_86 hI eS36 ⟨_, rfl⟩
  have c37 : S36 86 = .inl (g.2 0, 6, .inl (va_cpy f30 f33 (0 : Int32).toNatClampNeg (0 : Int32).toNatClampNeg (6 : Int32).toNatClampNeg)) := up_at eS36 rfl
  refine lv_aload_n hx hb dX6_copyFrom_53 rfl (lv_at hl 1 rfl) ?_
  have c38 : S36 10 = .inr (6, [.int v1, .ref (ad 11), .ref (ad 12), .ref (ad 13), .ref (ad 14)]) := (up_ne eS36 (by decide) c28)
  refine xget E hQ 10 (by decide) c38 rfl 4 (by decide) q195 rfl dX6_copyFrom_54 ?_
  refine lv_iconst (v := 0) hx hb dX6_copyFrom_57 (by decide) ?_
  refine lv_aload_n hx hb dX6_copyFrom_58 rfl (lv_at hl 0 rfl) ?_
  have c39 : S36 83 = .inr (6, [.int v1, .ref (ad 84), .ref (ad 85), .ref (ad 86), .ref (ad 87)]) := (up_ne eS36 (by decide) c29)
  refine xget E hQ 83 (by decide) c39 rfl 4 (by decide) q195 rfl dX6_copyFrom_59 ?_
  refine lv_iconst (v := 0) hx hb dX6_copyFrom_62 (by decide) ?_
  refine lv_bipush (v := 6) hx hb dX6_copyFrom_63 (by decide) ?_
  obtain ⟨f40, c41⟩ := invX_14 hI
  obtain ⟨f43, c44⟩ := invX_87 hI
  refine xcopyi E hs hQ hml hl.1 14 (by decide) 87 (by decide) c41 c44 q756 (by decide) (by decide) (by decide) (Nat.le_of_ble_eq_true rfl) (Nat.le_of_ble_eq_true rfl) (Nat.le_of_ble_eq_true rfl) (Nat.le_of_ble_eq_true rfl) dX6_copyFrom_65 (fun H locs S46 eS46 hQ => ?_)
  have hI := invX_up_87 hI eS46 ⟨_, rfl⟩
  have c47 : S46 87 = .inl (g.2 0, 6, .inl (va_cpy f40 f43 (0 : Int32).toNatClampNeg (0 : Int32).toNatClampNeg (6 : Int32).toNatClampNeg)) := up_at eS46 rfl
  exact xrv E hr hlk hQ (⟨hI, (up_o (up_o (up_o (up_o (up_o o_refl eS7 (by decide)) eS16 (by decide)) eS26 (by decide)) eS36 (by decide)) eS46 (by decide))⟩) dX6_copyFrom_68
set_option maxHeartbeats 4000000 in
set_option maxRecDepth 100000 in
theorem gX1_copyFrom_75_2 (l : Launch) (g : GG) (ad : Nat → Nat) (hD : Dj ad 122) (S : SS) (hI : InvX g ad S) (hAR2 : ARp (S 16) (S 17) (S 18) (S 19)) : Met l yX1_copyFrom (wG (.code yX1_copyFrom cX1_copyFrom 2 none)) (Rm 2) (XPre g ad 122 S [.ref (ad 75), .ref (ad 2)]) (va_Qv (fun S' => InvX g ad S' ∧ (∀ j, j ∉ ([75, 76, 77, 78, 79, 80, 81, 82, 83, 84, 85, 86, 87, 88, 89, 90, 91, 92] : List Nat) → S' j = S j) ∧ (0 ≤ fld (S 2) 0 + (-1) * fld (S' 75) 0 ∧ 0 ≤ fld (S' 75) 0 + (-1) * fld (S 2) 0) ∧ (0 ≤ fld (S 2) 1 + (-1) * fld (S' 75) 1 ∧ 0 ≤ fld (S' 75) 1 + (-1) * fld (S 2) 1) ∧ (0 ≤ fld (S 2) 7 + (-1) * fld (S' 75) 7 ∧ 0 ≤ fld (S' 75) 7 + (-1) * fld (S 2) 7) ∧ (0 ≤ fld (S 2) 12 + (-1) * fld (S' 75) 12 ∧ 0 ≤ fld (S' 75) 12 + (-1) * fld (S 2) 12) ∧ (ARp (S' 89) (S' 90) (S' 91) (S' 92))) (QB g ad 122) (FA ad 122)) 0 0 (FA ad 122) := by
  refine xmet cX1_copyFrom "EbbWreck$Coast" (by decide) rfl (Nat.le_of_ble_eq_true rfl) (fun p e s m below meth c E hr hlk hml hQ ls hl => ?_)
  have hx := E.1
  have hb := E.2.1
  have hs : Sp ad 122 (FA ad 122) := Sp.fa hD
  have hl : lv_has ls 2 [(0, .ref (ad 75)), (1, .ref (ad 2))] := hl
  obtain ⟨v1, v3, v5, v6, v7, v9, c11, b2, b4, b8, b10⟩ := invX_2 hI
  have c11 : S 2 = .inr (1, [.int v1, .int v3, .int v5, .ref (ad 3), .ref (ad 5), .ref (ad 6), .int v6, .int v7, .ref (ad 7), .ref (ad 8), .ref (ad 9), .ref (ad 10), .int v9, .ref (ad 15), .ref (ad 16)]) := c11
  obtain ⟨v12, v14, v16, v17, v18, v20, c22, b13, b15, b19, b21⟩ := invX_75 hI
  have c22 : S 75 = .inr (1, [.int v12, .int v14, .int v16, .ref (ad 76), .ref (ad 78), .ref (ad 79), .int v17, .int v18, .ref (ad 80), .ref (ad 81), .ref (ad 82), .ref (ad 83), .int v20, .ref (ad 88), .ref (ad 89)]) := c22
  obtain ⟨v23, c25, b24⟩ := invX_16 hI
  have c25 : S 16 = .inr (0, [.int v23, .ref (ad 17), .ref (ad 18), .ref (ad 19)]) := c25
  obtain ⟨f26, c27⟩ := invX_17 hI
  obtain ⟨f29, c30, b31⟩ := invX_18 hI
  obtain ⟨f32, c33, b34⟩ := invX_19 hI
  refine lv_aload_n hx hb dX1_copyFrom_0 rfl (lv_at hl 0 rfl) ?_
  refine lv_aload_n hx hb dX1_copyFrom_1 rfl (lv_at hl 1 rfl) ?_
  refine xget E hQ 2 (by decide) c11 rfl 0 (by decide) q236 rfl dX1_copyFrom_2 ?_
  refine xputi E hs hQ 75 (by decide) c22 rfl 0 (by decide) q236 rfl rfl (Nat.le_of_ble_eq_true rfl) dX1_copyFrom_5 (fun H locs S35 eS35 hQ => ?_)
  have hI := invX_up_75 hI eS35 ⟨v1, v14, v16, v17, v18, v20, rfl, b2, b15, b19, b21⟩
  have c36 : S35 75 = .inr (1, [.int v1, .int v14, .int v16, .ref (ad 76), .ref (ad 78), .ref (ad 79), .int v17, .int v18, .ref (ad 80), .ref (ad 81), .ref (ad 82), .ref (ad 83), .int v20, .ref (ad 88), .ref (ad 89)]) := up_at eS35 rfl
  refine lv_aload_n hx hb dX1_copyFrom_8 rfl (lv_at hl 0 rfl) ?_
  refine lv_aload_n hx hb dX1_copyFrom_9 rfl (lv_at hl 1 rfl) ?_
  have c37 : S35 2 = .inr (1, [.int v1, .int v3, .int v5, .ref (ad 3), .ref (ad 5), .ref (ad 6), .int v6, .int v7, .ref (ad 7), .ref (ad 8), .ref (ad 9), .ref (ad 10), .int v9, .ref (ad 15), .ref (ad 16)]) := (up_ne eS35 (by decide) c11)
  refine xget E hQ 2 (by decide) c37 rfl 1 (by decide) q239 rfl dX1_copyFrom_10 ?_
  refine xputi E hs hQ 75 (by decide) c36 rfl 1 (by decide) q239 rfl rfl (Nat.le_of_ble_eq_true rfl) dX1_copyFrom_13 (fun H locs S38 eS38 hQ => ?_)
  have hI := invX_up_75 hI eS38 ⟨v1, v3, v16, v17, v18, v20, rfl, b2, b4, b19, b21⟩
  have c39 : S38 75 = .inr (1, [.int v1, .int v3, .int v16, .ref (ad 76), .ref (ad 78), .ref (ad 79), .int v17, .int v18, .ref (ad 80), .ref (ad 81), .ref (ad 82), .ref (ad 83), .int v20, .ref (ad 88), .ref (ad 89)]) := up_at eS38 rfl
  refine lv_aload_n hx hb dX1_copyFrom_16 rfl (lv_at hl 0 rfl) ?_
  refine lv_aload_n hx hb dX1_copyFrom_17 rfl (lv_at hl 1 rfl) ?_
  have c40 : S38 2 = .inr (1, [.int v1, .int v3, .int v5, .ref (ad 3), .ref (ad 5), .ref (ad 6), .int v6, .int v7, .ref (ad 7), .ref (ad 8), .ref (ad 9), .ref (ad 10), .int v9, .ref (ad 15), .ref (ad 16)]) := (up_ne eS38 (by decide) c37)
  refine xget E hQ 2 (by decide) c40 rfl 2 (by decide) q247 rfl dX1_copyFrom_18 ?_
  refine xputi E hs hQ 75 (by decide) c39 rfl 2 (by decide) q247 rfl rfl (Nat.le_of_ble_eq_true rfl) dX1_copyFrom_21 (fun H locs S41 eS41 hQ => ?_)
  have hI := invX_up_75 hI eS41 ⟨v1, v3, v5, v17, v18, v20, rfl, b2, b4, b19, b21⟩
  have c42 : S41 75 = .inr (1, [.int v1, .int v3, .int v5, .ref (ad 76), .ref (ad 78), .ref (ad 79), .int v17, .int v18, .ref (ad 80), .ref (ad 81), .ref (ad 82), .ref (ad 83), .int v20, .ref (ad 88), .ref (ad 89)]) := up_at eS41 rfl
  refine lv_aload_n hx hb dX1_copyFrom_24 rfl (lv_at hl 0 rfl) ?_
  refine xget E hQ 75 (by decide) c42 rfl 3 (by decide) q251 rfl dX1_copyFrom_25 ?_
  refine lv_aload_n hx hb dX1_copyFrom_28 rfl (lv_at hl 1 rfl) ?_
  have c43 : S41 2 = .inr (1, [.int v1, .int v3, .int v5, .ref (ad 3), .ref (ad 5), .ref (ad 6), .int v6, .int v7, .ref (ad 7), .ref (ad 8), .ref (ad 9), .ref (ad 10), .int v9, .ref (ad 15), .ref (ad 16)]) := (up_ne eS41 (by decide) c40)
  refine xget E hQ 2 (by decide) c43 rfl 3 (by decide) q251 rfl dX1_copyFrom_29 ?_
  obtain ⟨v44, v46, v48, v50, c52, b45, b47, b49, b51⟩ := invX_3 hI
  have c52 : S41 3 = .inr (10, [.int v44, .int v46, .int v48, .int v50, .ref (ad 4)]) := c52
  refine xget E hQ 3 (by decide) c52 rfl 0 (by decide) q156 rfl dX1_copyFrom_32 ?_
  refine lv_aload_n hx hb dX1_copyFrom_35 rfl (lv_at hl 1 rfl) ?_
  refine xget E hQ 2 (by decide) c43 rfl 3 (by decide) q251 rfl dX1_copyFrom_36 ?_
  refine xget E hQ 3 (by decide) c52 rfl 1 (by decide) q159 rfl dX1_copyFrom_39 ?_
  refine lv_aload_n hx hb dX1_copyFrom_42 rfl (lv_at hl 1 rfl) ?_
  refine xget E hQ 2 (by decide) c43 rfl 3 (by decide) q251 rfl dX1_copyFrom_43 ?_
  refine xget E hQ 3 (by decide) c52 rfl 2 (by decide) q162 rfl dX1_copyFrom_46 ?_
  obtain ⟨v54, v56, v58, v60, c62, b55, b57, b59, b61⟩ := invX_76 hI
  have c62 : S41 76 = .inr (10, [.int v54, .int v56, .int v58, .int v60, .ref (ad 77)]) := c62
  refine xcVv E hs hQ hml hl.1 76 (gX10_tell_76 l g ad hD S41 hI v44 v46 v48 b45 b47 b49) mX10_tell q592 (by decide) c62 rfl rfl ⟨(Nat.le_of_ble_eq_true rfl), (Nat.le_of_ble_eq_true rfl)⟩ ⟨(Nat.le_of_ble_eq_true rfl), (Nat.le_of_ble_eq_true rfl)⟩ (Nat.le_of_ble_eq_true rfl) rfl dX1_copyFrom_49 (fun S53 H locs hp53 hQ _ => ?_)
  obtain ⟨hI, o53⟩ := hp53
  refine lv_aload_n hx hb dX1_copyFrom_52 rfl (lv_at hl 1 rfl) ?_
  have c63 : S53 2 = .inr (1, [.int v1, .int v3, .int v5, .ref (ad 3), .ref (ad 5), .ref (ad 6), .int v6, .int v7, .ref (ad 7), .ref (ad 8), .ref (ad 9), .ref (ad 10), .int v9, .ref (ad 15), .ref (ad 16)]) := ((o53 2 (by decide)).trans c43)
  refine xget E hQ 2 (by decide) c63 rfl 4 (by decide) q257 rfl dX1_copyFrom_53 ?_
  refine lv_iconst (v := 0) hx hb dX1_copyFrom_56 (by decide) ?_
  refine lv_aload_n hx hb dX1_copyFrom_57 rfl (lv_at hl 0 rfl) ?_
  have c64 : S53 75 = .inr (1, [.int v1, .int v3, .int v5, .ref (ad 76), .ref (ad 78), .ref (ad 79), .int v17, .int v18, .ref (ad 80), .ref (ad 81), .ref (ad 82), .ref (ad 83), .int v20, .ref (ad 88), .ref (ad 89)]) := ((o53 75 (by decide)).trans c42)
  refine xget E hQ 75 (by decide) c64 rfl 4 (by decide) q257 rfl dX1_copyFrom_58 ?_
  refine lv_iconst (v := 0) hx hb dX1_copyFrom_61 (by decide) ?_
  refine lv_bipush (v := 12) hx hb dX1_copyFrom_62 (by decide) ?_
  obtain ⟨f65, c66⟩ := invX_5 hI
  obtain ⟨f68, c69⟩ := invX_78 hI
  refine xcopyi E hs hQ hml hl.1 5 (by decide) 78 (by decide) c66 c69 q749 (by decide) (by decide) (by decide) (Nat.le_of_ble_eq_true rfl) (Nat.le_of_ble_eq_true rfl) (Nat.le_of_ble_eq_true rfl) (Nat.le_of_ble_eq_true rfl) dX1_copyFrom_64 (fun H locs S71 eS71 hQ => ?_)
  have hI := invX_up_78 hI eS71 ⟨_, rfl⟩
  have c72 : S71 78 = .inl (g.2 0, 12, .inl (va_cpy f65 f68 (0 : Int32).toNatClampNeg (0 : Int32).toNatClampNeg (12 : Int32).toNatClampNeg)) := up_at eS71 rfl
  refine lv_aload_n hx hb dX1_copyFrom_67 rfl (lv_at hl 1 rfl) ?_
  have c73 : S71 2 = .inr (1, [.int v1, .int v3, .int v5, .ref (ad 3), .ref (ad 5), .ref (ad 6), .int v6, .int v7, .ref (ad 7), .ref (ad 8), .ref (ad 9), .ref (ad 10), .int v9, .ref (ad 15), .ref (ad 16)]) := (up_ne eS71 (by decide) c63)
  refine xget E hQ 2 (by decide) c73 rfl 5 (by decide) q260 rfl dX1_copyFrom_68 ?_
  refine lv_iconst (v := 0) hx hb dX1_copyFrom_71 (by decide) ?_
  refine lv_aload_n hx hb dX1_copyFrom_72 rfl (lv_at hl 0 rfl) ?_
  have c74 : S71 75 = .inr (1, [.int v1, .int v3, .int v5, .ref (ad 76), .ref (ad 78), .ref (ad 79), .int v17, .int v18, .ref (ad 80), .ref (ad 81), .ref (ad 82), .ref (ad 83), .int v20, .ref (ad 88), .ref (ad 89)]) := (up_ne eS71 (by decide) c64)
  refine xget E hQ 75 (by decide) c74 rfl 5 (by decide) q260 rfl dX1_copyFrom_73 ?_
  refine lv_iconst (v := 0) hx hb dX1_copyFrom_76 (by decide) ?_
  refine lv_bipush (v := 12) hx hb dX1_copyFrom_77 (by decide) ?_
  obtain ⟨f75, c76⟩ := invX_6 hI
  obtain ⟨f78, c79⟩ := invX_79 hI
  refine xcopyi E hs hQ hml hl.1 6 (by decide) 79 (by decide) c76 c79 q749 (by decide) (by decide) (by decide) (Nat.le_of_ble_eq_true rfl) (Nat.le_of_ble_eq_true rfl) (Nat.le_of_ble_eq_true rfl) (Nat.le_of_ble_eq_true rfl) dX1_copyFrom_79 (fun H locs S81 eS81 hQ => ?_)
  have hI := invX_up_79 hI eS81 ⟨_, rfl⟩
  have c82 : S81 79 = .inl (g.2 0, 12, .inl (va_cpy f75 f78 (0 : Int32).toNatClampNeg (0 : Int32).toNatClampNeg (12 : Int32).toNatClampNeg)) := up_at eS81 rfl
  refine lv_aload_n hx hb dX1_copyFrom_82 rfl (lv_at hl 0 rfl) ?_
  refine lv_aload_n hx hb dX1_copyFrom_83 rfl (lv_at hl 1 rfl) ?_
  have c83 : S81 2 = .inr (1, [.int v1, .int v3, .int v5, .ref (ad 3), .ref (ad 5), .ref (ad 6), .int v6, .int v7, .ref (ad 7), .ref (ad 8), .ref (ad 9), .ref (ad 10), .int v9, .ref (ad 15), .ref (ad 16)]) := (up_ne eS81 (by decide) c73)
  refine xget E hQ 2 (by decide) c83 rfl 6 (by decide) q263 rfl dX1_copyFrom_84 ?_
  have c84 : S81 75 = .inr (1, [.int v1, .int v3, .int v5, .ref (ad 76), .ref (ad 78), .ref (ad 79), .int v17, .int v18, .ref (ad 80), .ref (ad 81), .ref (ad 82), .ref (ad 83), .int v20, .ref (ad 88), .ref (ad 89)]) := (up_ne eS81 (by decide) c74)
  refine xputi E hs hQ 75 (by decide) c84 rfl 6 (by decide) q263 rfl rfl (Nat.le_of_ble_eq_true rfl) dX1_copyFrom_87 (fun H locs S85 eS85 hQ => ?_)
  have hI := invX_up_75 hI eS85 ⟨v1, v3, v5, v6, v18, v20, rfl, b2, b4, b19, b21⟩
  have c86 : S85 75 = .inr (1, [.int v1, .int v3, .int v5, .ref (ad 76), .ref (ad 78), .ref (ad 79), .int v6, .int v18, .ref (ad 80), .ref (ad 81), .ref (ad 82), .ref (ad 83), .int v20, .ref (ad 88), .ref (ad 89)]) := up_at eS85 rfl
  refine lv_aload_n hx hb dX1_copyFrom_90 rfl (lv_at hl 0 rfl) ?_
  refine lv_aload_n hx hb dX1_copyFrom_91 rfl (lv_at hl 1 rfl) ?_
  have c87 : S85 2 = .inr (1, [.int v1, .int v3, .int v5, .ref (ad 3), .ref (ad 5), .ref (ad 6), .int v6, .int v7, .ref (ad 7), .ref (ad 8), .ref (ad 9), .ref (ad 10), .int v9, .ref (ad 15), .ref (ad 16)]) := (up_ne eS85 (by decide) c83)
  refine xget E hQ 2 (by decide) c87 rfl 7 (by decide) q270 rfl dX1_copyFrom_92 ?_
  refine xputi E hs hQ 75 (by decide) c86 rfl 7 (by decide) q270 rfl rfl (Nat.le_of_ble_eq_true rfl) dX1_copyFrom_95 (fun H locs S88 eS88 hQ => ?_)
  have hI := invX_up_75 hI eS88 ⟨v1, v3, v5, v6, v7, v20, rfl, b2, b4, b8, b21⟩
  have c89 : S88 75 = .inr (1, [.int v1, .int v3, .int v5, .ref (ad 76), .ref (ad 78), .ref (ad 79), .int v6, .int v7, .ref (ad 80), .ref (ad 81), .ref (ad 82), .ref (ad 83), .int v20, .ref (ad 88), .ref (ad 89)]) := up_at eS88 rfl
  refine lv_aload_n hx hb dX1_copyFrom_98 rfl (lv_at hl 1 rfl) ?_
  have c90 : S88 2 = .inr (1, [.int v1, .int v3, .int v5, .ref (ad 3), .ref (ad 5), .ref (ad 6), .int v6, .int v7, .ref (ad 7), .ref (ad 8), .ref (ad 9), .ref (ad 10), .int v9, .ref (ad 15), .ref (ad 16)]) := (up_ne eS88 (by decide) c87)
  refine xget E hQ 2 (by decide) c90 rfl 8 (by decide) q274 rfl dX1_copyFrom_99 ?_
  refine lv_iconst (v := 0) hx hb dX1_copyFrom_102 (by decide) ?_
  refine lv_aload_n hx hb dX1_copyFrom_103 rfl (lv_at hl 0 rfl) ?_
  refine xget E hQ 75 (by decide) c89 rfl 8 (by decide) q274 rfl dX1_copyFrom_104 ?_
  refine lv_iconst (v := 0) hx hb dX1_copyFrom_107 (by decide) ?_
  refine lv_bipush (v := 8) hx hb dX1_copyFrom_108 (by decide) ?_
  obtain ⟨f91, c92⟩ := invX_7 hI
  obtain ⟨f94, c95⟩ := invX_80 hI
  refine xcopyi E hs hQ hml hl.1 7 (by decide) 80 (by decide) c92 c95 q749 (by decide) (by decide) (by decide) (Nat.le_of_ble_eq_true rfl) (Nat.le_of_ble_eq_true rfl) (Nat.le_of_ble_eq_true rfl) (Nat.le_of_ble_eq_true rfl) dX1_copyFrom_110 (fun H locs S97 eS97 hQ => ?_)
  have hI := invX_up_80 hI eS97 ⟨_, rfl⟩
  have c98 : S97 80 = .inl (g.2 0, 8, .inl (va_cpy f91 f94 (0 : Int32).toNatClampNeg (0 : Int32).toNatClampNeg (8 : Int32).toNatClampNeg)) := up_at eS97 rfl
  refine lv_aload_n hx hb dX1_copyFrom_113 rfl (lv_at hl 1 rfl) ?_
  have c99 : S97 2 = .inr (1, [.int v1, .int v3, .int v5, .ref (ad 3), .ref (ad 5), .ref (ad 6), .int v6, .int v7, .ref (ad 7), .ref (ad 8), .ref (ad 9), .ref (ad 10), .int v9, .ref (ad 15), .ref (ad 16)]) := (up_ne eS97 (by decide) c90)
  refine xget E hQ 2 (by decide) c99 rfl 9 (by decide) q279 rfl dX1_copyFrom_114 ?_
  refine lv_iconst (v := 0) hx hb dX1_copyFrom_117 (by decide) ?_
  refine lv_aload_n hx hb dX1_copyFrom_118 rfl (lv_at hl 0 rfl) ?_
  have c100 : S97 75 = .inr (1, [.int v1, .int v3, .int v5, .ref (ad 76), .ref (ad 78), .ref (ad 79), .int v6, .int v7, .ref (ad 80), .ref (ad 81), .ref (ad 82), .ref (ad 83), .int v20, .ref (ad 88), .ref (ad 89)]) := (up_ne eS97 (by decide) c89)
  refine xget E hQ 75 (by decide) c100 rfl 9 (by decide) q279 rfl dX1_copyFrom_119 ?_
  refine lv_iconst (v := 0) hx hb dX1_copyFrom_122 (by decide) ?_
  refine lv_bipush (v := 8) hx hb dX1_copyFrom_123 (by decide) ?_
  obtain ⟨f101, c102, b103⟩ := invX_8 hI
  obtain ⟨f104, c105, b106⟩ := invX_81 hI
  refine xcopyi E hs hQ hml hl.1 8 (by decide) 81 (by decide) c102 c105 q749 (by decide) (by decide) (by decide) (Nat.le_of_ble_eq_true rfl) (Nat.le_of_ble_eq_true rfl) (Nat.le_of_ble_eq_true rfl) (Nat.le_of_ble_eq_true rfl) dX1_copyFrom_125 (fun H locs S107 eS107 hQ => ?_)
  have hI := invX_up_81 hI eS107 ⟨_, rfl, cpy_b b103 b106⟩
  have b109 : ∀ j, Bd ((va_cpy f101 f104 (0 : Int32).toNatClampNeg (0 : Int32).toNatClampNeg (8 : Int32).toNatClampNeg) j) (0) (11) := cpy_b b103 b106
  have c108 : S107 81 = .inl (g.2 0, 8, .inl (va_cpy f101 f104 (0 : Int32).toNatClampNeg (0 : Int32).toNatClampNeg (8 : Int32).toNatClampNeg)) := up_at eS107 rfl
  refine lv_aload_n hx hb dX1_copyFrom_128 rfl (lv_at hl 1 rfl) ?_
  have c110 : S107 2 = .inr (1, [.int v1, .int v3, .int v5, .ref (ad 3), .ref (ad 5), .ref (ad 6), .int v6, .int v7, .ref (ad 7), .ref (ad 8), .ref (ad 9), .ref (ad 10), .int v9, .ref (ad 15), .ref (ad 16)]) := (up_ne eS107 (by decide) c99)
  refine xget E hQ 2 (by decide) c110 rfl 10 (by decide) q284 rfl dX1_copyFrom_129 ?_
  refine lv_iconst (v := 0) hx hb dX1_copyFrom_132 (by decide) ?_
  refine lv_aload_n hx hb dX1_copyFrom_133 rfl (lv_at hl 0 rfl) ?_
  have c111 : S107 75 = .inr (1, [.int v1, .int v3, .int v5, .ref (ad 76), .ref (ad 78), .ref (ad 79), .int v6, .int v7, .ref (ad 80), .ref (ad 81), .ref (ad 82), .ref (ad 83), .int v20, .ref (ad 88), .ref (ad 89)]) := (up_ne eS107 (by decide) c100)
  refine xget E hQ 75 (by decide) c111 rfl 10 (by decide) q284 rfl dX1_copyFrom_134 ?_
  refine lv_iconst (v := 0) hx hb dX1_copyFrom_137 (by decide) ?_
  refine lv_bipush (v := 8) hx hb dX1_copyFrom_138 (by decide) ?_
  obtain ⟨f112, c113, b114⟩ := invX_9 hI
  obtain ⟨f115, c116, b117⟩ := invX_82 hI
  refine xcopyi E hs hQ hml hl.1 9 (by decide) 82 (by decide) c113 c116 q749 (by decide) (by decide) (by decide) (Nat.le_of_ble_eq_true rfl) (Nat.le_of_ble_eq_true rfl) (Nat.le_of_ble_eq_true rfl) (Nat.le_of_ble_eq_true rfl) dX1_copyFrom_140 (fun H locs S118 eS118 hQ => ?_)
  have hI := invX_up_82 hI eS118 ⟨_, rfl, cpy_b b114 b117⟩
  have b120 : ∀ j, Bd ((va_cpy f112 f115 (0 : Int32).toNatClampNeg (0 : Int32).toNatClampNeg (8 : Int32).toNatClampNeg) j) (0) (99) := cpy_b b114 b117
  have c119 : S118 82 = .inl (g.2 0, 8, .inl (va_cpy f112 f115 (0 : Int32).toNatClampNeg (0 : Int32).toNatClampNeg (8 : Int32).toNatClampNeg)) := up_at eS118 rfl
  refine lv_aload_n hx hb dX1_copyFrom_143 rfl (lv_at hl 0 rfl) ?_
  have c121 : S118 75 = .inr (1, [.int v1, .int v3, .int v5, .ref (ad 76), .ref (ad 78), .ref (ad 79), .int v6, .int v7, .ref (ad 80), .ref (ad 81), .ref (ad 82), .ref (ad 83), .int v20, .ref (ad 88), .ref (ad 89)]) := (up_ne eS118 (by decide) c111)
  refine xget E hQ 75 (by decide) c121 rfl 11 (by decide) q289 rfl dX1_copyFrom_144 ?_
  refine lv_aload_n hx hb dX1_copyFrom_147 rfl (lv_at hl 1 rfl) ?_
  have c122 : S118 2 = .inr (1, [.int v1, .int v3, .int v5, .ref (ad 3), .ref (ad 5), .ref (ad 6), .int v6, .int v7, .ref (ad 7), .ref (ad 8), .ref (ad 9), .ref (ad 10), .int v9, .ref (ad 15), .ref (ad 16)]) := (up_ne eS118 (by decide) c110)
  refine xget E hQ 2 (by decide) c122 rfl 11 (by decide) q289 rfl dX1_copyFrom_148 ?_
  obtain ⟨v124, c126, b125⟩ := invX_83 hI
  have c126 : S118 83 = .inr (6, [.int v124, .ref (ad 84), .ref (ad 85), .ref (ad 86), .ref (ad 87)]) := c126
  refine xcVv E hs hQ hml hl.1 83 (gX6_copyFrom_83_10 l g ad hD S118 hI ) mX6_copyFrom q752 (by decide) c126 rfl rfl ⟨(Nat.le_of_ble_eq_true rfl), (Nat.le_of_ble_eq_true rfl)⟩ ⟨(Nat.le_of_ble_eq_true rfl), (Nat.le_of_ble_eq_true rfl)⟩ (Nat.le_of_ble_eq_true rfl) rfl dX1_copyFrom_151 (fun S123 H locs hp123 hQ _ => ?_)
  obtain ⟨hI, o123⟩ := hp123
  refine lv_aload_n hx hb dX1_copyFrom_154 rfl (lv_at hl 0 rfl) ?_
  refine lv_aload_n hx hb dX1_copyFrom_155 rfl (lv_at hl 1 rfl) ?_
  have c127 : S123 2 = .inr (1, [.int v1, .int v3, .int v5, .ref (ad 3), .ref (ad 5), .ref (ad 6), .int v6, .int v7, .ref (ad 7), .ref (ad 8), .ref (ad 9), .ref (ad 10), .int v9, .ref (ad 15), .ref (ad 16)]) := ((o123 2 (by decide)).trans c122)
  refine xget E hQ 2 (by decide) c127 rfl 12 (by decide) q293 rfl dX1_copyFrom_156 ?_
  have c128 : S123 75 = .inr (1, [.int v1, .int v3, .int v5, .ref (ad 76), .ref (ad 78), .ref (ad 79), .int v6, .int v7, .ref (ad 80), .ref (ad 81), .ref (ad 82), .ref (ad 83), .int v20, .ref (ad 88), .ref (ad 89)]) := ((o123 75 (by decide)).trans c121)
  refine xputi E hs hQ 75 (by decide) c128 rfl 12 (by decide) q293 rfl rfl (Nat.le_of_ble_eq_true rfl) dX1_copyFrom_159 (fun H locs S129 eS129 hQ => ?_)
  have hI := invX_up_75 hI eS129 ⟨v1, v3, v5, v6, v7, v9, rfl, b2, b4, b8, b10⟩
  have c130 : S129 75 = .inr (1, [.int v1, .int v3, .int v5, .ref (ad 76), .ref (ad 78), .ref (ad 79), .int v6, .int v7, .ref (ad 80), .ref (ad 81), .ref (ad 82), .ref (ad 83), .int v9, .ref (ad 88), .ref (ad 89)]) := up_at eS129 rfl
  refine lv_aload_n hx hb dX1_copyFrom_162 rfl (lv_at hl 1 rfl) ?_
  have c131 : S129 2 = .inr (1, [.int v1, .int v3, .int v5, .ref (ad 3), .ref (ad 5), .ref (ad 6), .int v6, .int v7, .ref (ad 7), .ref (ad 8), .ref (ad 9), .ref (ad 10), .int v9, .ref (ad 15), .ref (ad 16)]) := (up_ne eS129 (by decide) c127)
  refine xget E hQ 2 (by decide) c131 rfl 13 (by decide) q297 rfl dX1_copyFrom_163 ?_
  refine lv_iconst (v := 0) hx hb dX1_copyFrom_166 (by decide) ?_
  refine lv_aload_n hx hb dX1_copyFrom_167 rfl (lv_at hl 0 rfl) ?_
  refine xget E hQ 75 (by decide) c130 rfl 13 (by decide) q297 rfl dX1_copyFrom_168 ?_
  refine lv_iconst (v := 0) hx hb dX1_copyFrom_171 (by decide) ?_
  refine lv_iconst (v := 3) hx hb dX1_copyFrom_172 (by decide) ?_
  obtain ⟨f132, c133, b134⟩ := invX_15 hI
  obtain ⟨f135, c136, b137⟩ := invX_88 hI
  refine xcopyi E hs hQ hml hl.1 15 (by decide) 88 (by decide) c133 c136 q749 (by decide) (by decide) (by decide) (Nat.le_of_ble_eq_true rfl) (Nat.le_of_ble_eq_true rfl) (Nat.le_of_ble_eq_true rfl) (Nat.le_of_ble_eq_true rfl) dX1_copyFrom_173 (fun H locs S138 eS138 hQ => ?_)
  have hI := invX_up_88 hI eS138 ⟨_, rfl, cpy_b b134 b137⟩
  have b140 : ∀ j, Bd ((va_cpy f132 f135 (0 : Int32).toNatClampNeg (0 : Int32).toNatClampNeg (3 : Int32).toNatClampNeg) j) (0) (11) := cpy_b b134 b137
  have c139 : S138 88 = .inl (g.2 0, 3, .inl (va_cpy f132 f135 (0 : Int32).toNatClampNeg (0 : Int32).toNatClampNeg (3 : Int32).toNatClampNeg)) := up_at eS138 rfl
  refine lv_aload_n hx hb dX1_copyFrom_176 rfl (lv_at hl 0 rfl) ?_
  have c141 : S138 75 = .inr (1, [.int v1, .int v3, .int v5, .ref (ad 76), .ref (ad 78), .ref (ad 79), .int v6, .int v7, .ref (ad 80), .ref (ad 81), .ref (ad 82), .ref (ad 83), .int v9, .ref (ad 88), .ref (ad 89)]) := (up_ne eS138 (by decide) c130)
  refine xget E hQ 75 (by decide) c141 rfl 14 (by decide) q301 rfl dX1_copyFrom_177 ?_
  refine lv_aload_n hx hb dX1_copyFrom_180 rfl (lv_at hl 1 rfl) ?_
  have c142 : S138 2 = .inr (1, [.int v1, .int v3, .int v5, .ref (ad 3), .ref (ad 5), .ref (ad 6), .int v6, .int v7, .ref (ad 7), .ref (ad 8), .ref (ad 9), .ref (ad 10), .int v9, .ref (ad 15), .ref (ad 16)]) := (up_ne eS138 (by decide) c131)
  refine xget E hQ 2 (by decide) c142 rfl 14 (by decide) q301 rfl dX1_copyFrom_181 ?_
  have c143 : S138 16 = .inr (0, [.int v23, .ref (ad 17), .ref (ad 18), .ref (ad 19)]) := (up_ne eS138 (by decide) (up_ne eS129 (by decide) ((o123 16 (by decide)).trans (up_ne eS118 (by decide) (up_ne eS107 (by decide) (up_ne eS97 (by decide) (up_ne eS88 (by decide) (up_ne eS85 (by decide) (up_ne eS81 (by decide) (up_ne eS71 (by decide) ((o53 16 (by decide)).trans (up_ne eS41 (by decide) (up_ne eS38 (by decide) (up_ne eS35 (by decide) c25))))))))))))))
  obtain ⟨v145, c147, b146⟩ := invX_89 hI
  have c147 : S138 89 = .inr (0, [.int v145, .ref (ad 90), .ref (ad 91), .ref (ad 92)]) := c147
  refine xcVv E hs hQ hml hl.1 89 (gX0_copyFrom_89_16 l g ad hD S138 hI (ar_tr hAR2 ((up_eq (j := 16) eS138 (by decide)).trans ((up_eq (j := 16) eS129 (by decide)).trans ((o123 16 (by decide)).trans ((up_eq (j := 16) eS118 (by decide)).trans ((up_eq (j := 16) eS107 (by decide)).trans ((up_eq (j := 16) eS97 (by decide)).trans ((up_eq (j := 16) eS88 (by decide)).trans ((up_eq (j := 16) eS85 (by decide)).trans ((up_eq (j := 16) eS81 (by decide)).trans ((up_eq (j := 16) eS71 (by decide)).trans ((o53 16 (by decide)).trans ((up_eq (j := 16) eS41 (by decide)).trans ((up_eq (j := 16) eS38 (by decide)).trans (up_eq (j := 16) eS35 (by decide))))))))))))))) ((up_eq (j := 17) eS138 (by decide)).trans ((up_eq (j := 17) eS129 (by decide)).trans ((o123 17 (by decide)).trans ((up_eq (j := 17) eS118 (by decide)).trans ((up_eq (j := 17) eS107 (by decide)).trans ((up_eq (j := 17) eS97 (by decide)).trans ((up_eq (j := 17) eS88 (by decide)).trans ((up_eq (j := 17) eS85 (by decide)).trans ((up_eq (j := 17) eS81 (by decide)).trans ((up_eq (j := 17) eS71 (by decide)).trans ((o53 17 (by decide)).trans ((up_eq (j := 17) eS41 (by decide)).trans ((up_eq (j := 17) eS38 (by decide)).trans (up_eq (j := 17) eS35 (by decide))))))))))))))) ((up_eq (j := 18) eS138 (by decide)).trans ((up_eq (j := 18) eS129 (by decide)).trans ((o123 18 (by decide)).trans ((up_eq (j := 18) eS118 (by decide)).trans ((up_eq (j := 18) eS107 (by decide)).trans ((up_eq (j := 18) eS97 (by decide)).trans ((up_eq (j := 18) eS88 (by decide)).trans ((up_eq (j := 18) eS85 (by decide)).trans ((up_eq (j := 18) eS81 (by decide)).trans ((up_eq (j := 18) eS71 (by decide)).trans ((o53 18 (by decide)).trans ((up_eq (j := 18) eS41 (by decide)).trans ((up_eq (j := 18) eS38 (by decide)).trans (up_eq (j := 18) eS35 (by decide))))))))))))))) ((up_eq (j := 19) eS138 (by decide)).trans ((up_eq (j := 19) eS129 (by decide)).trans ((o123 19 (by decide)).trans ((up_eq (j := 19) eS118 (by decide)).trans ((up_eq (j := 19) eS107 (by decide)).trans ((up_eq (j := 19) eS97 (by decide)).trans ((up_eq (j := 19) eS88 (by decide)).trans ((up_eq (j := 19) eS85 (by decide)).trans ((up_eq (j := 19) eS81 (by decide)).trans ((up_eq (j := 19) eS71 (by decide)).trans ((o53 19 (by decide)).trans ((up_eq (j := 19) eS41 (by decide)).trans ((up_eq (j := 19) eS38 (by decide)).trans (up_eq (j := 19) eS35 (by decide))))))))))))))))) mX0_copyFrom q757 (by decide) c147 rfl rfl ⟨(Nat.le_of_ble_eq_true rfl), (Nat.le_of_ble_eq_true rfl)⟩ ⟨(Nat.le_of_ble_eq_true rfl), (Nat.le_of_ble_eq_true rfl)⟩ (Nat.le_of_ble_eq_true rfl) rfl dX1_copyFrom_184 (fun S144 H locs hp144 hQ _ => ?_)
  obtain ⟨hI, o144, g144_0, u144_0⟩ := hp144
  have q148 : fld (S138 16) 0 = v23.toInt := fld_of c143 rfl
  obtain ⟨v149, c151, b150⟩ := invX_89 hI
  have c151 : S144 89 = .inr (0, [.int v149, .ref (ad 90), .ref (ad 91), .ref (ad 92)]) := c151
  have q152 : fld (S144 89) 0 = v149.toInt := fld_of c151 rfl
  have q153 : fld (S 2) 0 = v1.toInt := fld_of c11 rfl
  have c154 : S144 75 = .inr (1, [.int v1, .int v3, .int v5, .ref (ad 76), .ref (ad 78), .ref (ad 79), .int v6, .int v7, .ref (ad 80), .ref (ad 81), .ref (ad 82), .ref (ad 83), .int v9, .ref (ad 88), .ref (ad 89)]) := ((o144 75 (by decide)).trans c141)
  have q155 : fld (S144 75) 0 = v1.toInt := fld_of c154 rfl
  have q156 : fld (S 2) 1 = v3.toInt := fld_of c11 rfl
  have q157 : fld (S144 75) 1 = v3.toInt := fld_of c154 rfl
  have q158 : fld (S 2) 7 = v7.toInt := fld_of c11 rfl
  have q159 : fld (S144 75) 7 = v7.toInt := fld_of c154 rfl
  have q160 : fld (S 2) 12 = v9.toInt := fld_of c11 rfl
  have q161 : fld (S144 75) 12 = v9.toInt := fld_of c154 rfl
  exact xrv E hr hlk hQ (⟨hI, (o_trans (up_o (up_o (o_trans (up_o (up_o (up_o (up_o (up_o (up_o (up_o (o_trans (up_o (up_o (up_o o_refl eS35 (by decide)) eS38 (by decide)) eS41 (by decide)) o53 (by decide)) eS71 (by decide)) eS81 (by decide)) eS85 (by decide)) eS88 (by decide)) eS97 (by decide)) eS107 (by decide)) eS118 (by decide)) o123 (by decide)) eS129 (by decide)) eS138 (by decide)) o144 (by decide)), ⟨by omega, by omega⟩, ⟨by omega, by omega⟩, ⟨by omega, by omega⟩, ⟨by omega, by omega⟩, u144_0⟩) dX1_copyFrom_187
set_option maxHeartbeats 4000000 in
set_option maxRecDepth 100000 in
theorem gX0_copyFrom_16_53 (l : Launch) (g : GG) (ad : Nat → Nat) (hD : Dj ad 122) (S : SS) (hI : InvX g ad S) (hAR39 : ARp (S 53) (S 54) (S 55) (S 56)) : Met l yX0_copyFrom (wG (.code yX0_copyFrom cX0_copyFrom 2 none)) (Rm 1) (XPre g ad 122 S [.ref (ad 16), .ref (ad 53)]) (va_Qv (fun S' => InvX g ad S' ∧ (∀ j, j ∉ ([16, 17, 18, 19] : List Nat) → S' j = S j) ∧ (0 ≤ fld (S 53) 0 + (-1) * fld (S' 16) 0 ∧ 0 ≤ fld (S' 16) 0 + (-1) * fld (S 53) 0) ∧ (ARp (S' 16) (S' 17) (S' 18) (S' 19))) (QB g ad 122) (FA ad 122)) 0 0 (FA ad 122) := by
  refine xmet cX0_copyFrom "EbbWreck$Acts" (by decide) rfl (Nat.le_of_ble_eq_true rfl) (fun p e s m below meth c E hr hlk hml hQ ls hl => ?_)
  have hx := E.1
  have hb := E.2.1
  have hs : Sp ad 122 (FA ad 122) := Sp.fa hD
  have hl : lv_has ls 2 [(0, .ref (ad 16)), (1, .ref (ad 53))] := hl
  obtain ⟨v1, c3, b2⟩ := invX_53 hI
  have c3 : S 53 = .inr (0, [.int v1, .ref (ad 54), .ref (ad 55), .ref (ad 56)]) := c3
  obtain ⟨v4, c6, b5⟩ := invX_16 hI
  have c6 : S 16 = .inr (0, [.int v4, .ref (ad 17), .ref (ad 18), .ref (ad 19)]) := c6
  obtain ⟨f7, c8⟩ := invX_54 hI
  obtain ⟨f10, c11, b12⟩ := invX_55 hI
  obtain ⟨f13, c14, b15⟩ := invX_56 hI
  refine lv_aload_n hx hb dX0_copyFrom_0 rfl (lv_at hl 0 rfl) ?_
  refine lv_aload_n hx hb dX0_copyFrom_1 rfl (lv_at hl 1 rfl) ?_
  refine xget E hQ 53 (by decide) c3 rfl 0 (by decide) q215 rfl dX0_copyFrom_2 ?_
  refine xputi E hs hQ 16 (by decide) c6 rfl 0 (by decide) q215 rfl rfl (Nat.le_of_ble_eq_true rfl) dX0_copyFrom_5 (fun H locs S16 eS16 hQ => ?_)
  have hI := invX_up_16 hI eS16 ⟨v1, rfl, b2⟩
  have c17 : S16 16 = .inr (0, [.int v1, .ref (ad 17), .ref (ad 18), .ref (ad 19)]) := up_at eS16 rfl
  refine lv_aload_n hx hb dX0_copyFrom_8 rfl (lv_at hl 1 rfl) ?_
  have c18 : S16 53 = .inr (0, [.int v1, .ref (ad 54), .ref (ad 55), .ref (ad 56)]) := (up_ne eS16 (by decide) c3)
  refine xget E hQ 53 (by decide) c18 rfl 1 (by decide) q219 rfl dX0_copyFrom_9 ?_
  refine lv_iconst (v := 0) hx hb dX0_copyFrom_12 (by decide) ?_
  refine lv_aload_n hx hb dX0_copyFrom_13 rfl (lv_at hl 0 rfl) ?_
  refine xget E hQ 16 (by decide) c17 rfl 1 (by decide) q219 rfl dX0_copyFrom_14 ?_
  refine lv_iconst (v := 0) hx hb dX0_copyFrom_17 (by decide) ?_
  refine lv_bipush (v := 40) hx hb dX0_copyFrom_18 (by decide) ?_
  have c19 : S16 54 = .inl (g.2 0, 40, .inl f7) := (up_ne eS16 (by decide) c8)
  obtain ⟨f20, c21⟩ := invX_17 hI
  refine xcopyi E hs hQ hml hl.1 54 (by decide) 17 (by decide) c19 c21 q761 (by decide) (by decide) (by decide) (Nat.le_of_ble_eq_true rfl) (Nat.le_of_ble_eq_true rfl) (Nat.le_of_ble_eq_true rfl) (Nat.le_of_ble_eq_true rfl) dX0_copyFrom_20 (fun H locs S23 eS23 hQ => ?_)
  have hI := invX_up_17 hI eS23 ⟨_, rfl⟩
  have c24 : S23 17 = .inl (g.2 0, 40, .inl (va_cpy f7 f20 (0 : Int32).toNatClampNeg (0 : Int32).toNatClampNeg (40 : Int32).toNatClampNeg)) := up_at eS23 rfl
  refine lv_aload_n hx hb dX0_copyFrom_23 rfl (lv_at hl 1 rfl) ?_
  have c25 : S23 53 = .inr (0, [.int v1, .ref (ad 54), .ref (ad 55), .ref (ad 56)]) := (up_ne eS23 (by decide) c18)
  refine xget E hQ 53 (by decide) c25 rfl 2 (by decide) q222 rfl dX0_copyFrom_24 ?_
  refine lv_iconst (v := 0) hx hb dX0_copyFrom_27 (by decide) ?_
  refine lv_aload_n hx hb dX0_copyFrom_28 rfl (lv_at hl 0 rfl) ?_
  have c26 : S23 16 = .inr (0, [.int v1, .ref (ad 17), .ref (ad 18), .ref (ad 19)]) := (up_ne eS23 (by decide) c17)
  refine xget E hQ 16 (by decide) c26 rfl 2 (by decide) q222 rfl dX0_copyFrom_29 ?_
  refine lv_iconst (v := 0) hx hb dX0_copyFrom_32 (by decide) ?_
  refine lv_bipush (v := 40) hx hb dX0_copyFrom_33 (by decide) ?_
  have c27 : S23 55 = .inl (g.2 0, 40, .inl f10) := (up_ne eS23 (by decide) (up_ne eS16 (by decide) c11))
  obtain ⟨f28, c29, b30⟩ := invX_18 hI
  refine xcopyi E hs hQ hml hl.1 55 (by decide) 18 (by decide) c27 c29 q761 (by decide) (by decide) (by decide) (Nat.le_of_ble_eq_true rfl) (Nat.le_of_ble_eq_true rfl) (Nat.le_of_ble_eq_true rfl) (Nat.le_of_ble_eq_true rfl) dX0_copyFrom_35 (fun H locs S31 eS31 hQ => ?_)
  have hI := invX_up_18 hI eS31 ⟨_, rfl, cpy_b b12 b30⟩
  have b33 : ∀ j, Bd ((va_cpy f10 f28 (0 : Int32).toNatClampNeg (0 : Int32).toNatClampNeg (40 : Int32).toNatClampNeg) j) (0) (7) := cpy_b b12 b30
  have c32 : S31 18 = .inl (g.2 0, 40, .inl (va_cpy f10 f28 (0 : Int32).toNatClampNeg (0 : Int32).toNatClampNeg (40 : Int32).toNatClampNeg)) := up_at eS31 rfl
  refine lv_aload_n hx hb dX0_copyFrom_38 rfl (lv_at hl 1 rfl) ?_
  have c34 : S31 53 = .inr (0, [.int v1, .ref (ad 54), .ref (ad 55), .ref (ad 56)]) := (up_ne eS31 (by decide) c25)
  refine xget E hQ 53 (by decide) c34 rfl 3 (by decide) q224 rfl dX0_copyFrom_39 ?_
  refine lv_iconst (v := 0) hx hb dX0_copyFrom_42 (by decide) ?_
  refine lv_aload_n hx hb dX0_copyFrom_43 rfl (lv_at hl 0 rfl) ?_
  have c35 : S31 16 = .inr (0, [.int v1, .ref (ad 17), .ref (ad 18), .ref (ad 19)]) := (up_ne eS31 (by decide) c26)
  refine xget E hQ 16 (by decide) c35 rfl 3 (by decide) q224 rfl dX0_copyFrom_44 ?_
  refine lv_iconst (v := 0) hx hb dX0_copyFrom_47 (by decide) ?_
  refine lv_bipush (v := 40) hx hb dX0_copyFrom_48 (by decide) ?_
  have c36 : S31 56 = .inl (g.2 0, 40, .inl f13) := (up_ne eS31 (by decide) (up_ne eS23 (by decide) (up_ne eS16 (by decide) c14)))
  obtain ⟨f37, c38, b39⟩ := invX_19 hI
  refine xcopyi E hs hQ hml hl.1 56 (by decide) 19 (by decide) c36 c38 q761 (by decide) (by decide) (by decide) (Nat.le_of_ble_eq_true rfl) (Nat.le_of_ble_eq_true rfl) (Nat.le_of_ble_eq_true rfl) (Nat.le_of_ble_eq_true rfl) dX0_copyFrom_50 (fun H locs S40 eS40 hQ => ?_)
  have hI := invX_up_19 hI eS40 ⟨_, rfl, cpy_b b15 b39⟩
  have b42 : ∀ j, Bd ((va_cpy f13 f37 (0 : Int32).toNatClampNeg (0 : Int32).toNatClampNeg (40 : Int32).toNatClampNeg) j) (0) (400) := cpy_b b15 b39
  have c41 : S40 19 = .inl (g.2 0, 40, .inl (va_cpy f13 f37 (0 : Int32).toNatClampNeg (0 : Int32).toNatClampNeg (40 : Int32).toNatClampNeg)) := up_at eS40 rfl
  have q43 : fld (S 53) 0 = v1.toInt := fld_of c3 rfl
  have c44 : S40 16 = .inr (0, [.int v1, .ref (ad 17), .ref (ad 18), .ref (ad 19)]) := (up_ne eS40 (by decide) c35)
  have q45 : fld (S40 16) 0 = v1.toInt := fld_of c44 rfl
  have c46 : S40 17 = .inl (g.2 0, 40, .inl (va_cpy f7 f20 (0 : Int32).toNatClampNeg (0 : Int32).toNatClampNeg (40 : Int32).toNatClampNeg)) := (up_ne eS40 (by decide) (up_ne eS31 (by decide) c24))
  have c47 : S40 18 = .inl (g.2 0, 40, .inl (va_cpy f10 f28 (0 : Int32).toNatClampNeg (0 : Int32).toNatClampNeg (40 : Int32).toNatClampNeg)) := (up_ne eS40 (by decide) c32)
  exact xrv E hr hlk hQ (⟨hI, (up_o (up_o (up_o (up_o o_refl eS16 (by decide)) eS23 (by decide)) eS31 (by decide)) eS40 (by decide)), ⟨by omega, by omega⟩, (ar_cpy c3 rfl c8 c11 c14 hAR39 (b2).2 c44 rfl c46 c47 c41)⟩) dX0_copyFrom_53
set_option maxHeartbeats 4000000 in
set_option maxRecDepth 100000 in
theorem gX6_copyFrom_10_47 (l : Launch) (g : GG) (ad : Nat → Nat) (hD : Dj ad 122) (S : SS) (hI : InvX g ad S) : Met l yX6_copyFrom (wG (.code yX6_copyFrom cX6_copyFrom 2 none)) (Rm 1) (XPre g ad 122 S [.ref (ad 10), .ref (ad 47)]) (va_Qv (fun S' => InvX g ad S' ∧ (∀ j, j ∉ ([10, 11, 12, 13, 14] : List Nat) → S' j = S j)) (QB g ad 122) (FA ad 122)) 0 0 (FA ad 122) := by
  refine xmet cX6_copyFrom "EbbWreck$RuleBook" (by decide) rfl (Nat.le_of_ble_eq_true rfl) (fun p e s m below meth c E hr hlk hml hQ ls hl => ?_)
  have hx := E.1
  have hb := E.2.1
  have hs : Sp ad 122 (FA ad 122) := Sp.fa hD
  have hl : lv_has ls 2 [(0, .ref (ad 10)), (1, .ref (ad 47))] := hl
  refine lv_aload_n hx hb dX6_copyFrom_0 rfl (lv_at hl 0 rfl) ?_
  refine lv_aload_n hx hb dX6_copyFrom_1 rfl (lv_at hl 1 rfl) ?_
  obtain ⟨v1, c3, b2⟩ := invX_47 hI
  have c3 : S 47 = .inr (6, [.int v1, .ref (ad 48), .ref (ad 49), .ref (ad 50), .ref (ad 51)]) := c3
  refine xget E hQ 47 (by decide) c3 rfl 0 (by decide) q186 rfl dX6_copyFrom_2 ?_
  obtain ⟨v4, c6, b5⟩ := invX_10 hI
  have c6 : S 10 = .inr (6, [.int v4, .ref (ad 11), .ref (ad 12), .ref (ad 13), .ref (ad 14)]) := c6
  refine xputi E hs hQ 10 (by decide) c6 rfl 0 (by decide) q186 rfl rfl (Nat.le_of_ble_eq_true rfl) dX6_copyFrom_5 (fun H locs S7 eS7 hQ => ?_)
  have hI := invX_up_10 hI eS7 ⟨v1, rfl, b2⟩
  have c8 : S7 10 = .inr (6, [.int v1, .ref (ad 11), .ref (ad 12), .ref (ad 13), .ref (ad 14)]) := up_at eS7 rfl
  refine lv_aload_n hx hb dX6_copyFrom_8 rfl (lv_at hl 1 rfl) ?_
  have c9 : S7 47 = .inr (6, [.int v1, .ref (ad 48), .ref (ad 49), .ref (ad 50), .ref (ad 51)]) := (up_ne eS7 (by decide) c3)
  refine xget E hQ 47 (by decide) c9 rfl 1 (by decide) q189 rfl dX6_copyFrom_9 ?_
  refine lv_iconst (v := 0) hx hb dX6_copyFrom_12 (by decide) ?_
  refine lv_aload_n hx hb dX6_copyFrom_13 rfl (lv_at hl 0 rfl) ?_
  refine xget E hQ 10 (by decide) c8 rfl 1 (by decide) q189 rfl dX6_copyFrom_14 ?_
  refine lv_iconst (v := 0) hx hb dX6_copyFrom_17 (by decide) ?_
  refine lv_bipush (v := 6) hx hb dX6_copyFrom_18 (by decide) ?_
  obtain ⟨f10, c11⟩ := invX_48 hI
  obtain ⟨f13, c14⟩ := invX_11 hI
  refine xcopyi E hs hQ hml hl.1 48 (by decide) 11 (by decide) c11 c14 q756 (by decide) (by decide) (by decide) (Nat.le_of_ble_eq_true rfl) (Nat.le_of_ble_eq_true rfl) (Nat.le_of_ble_eq_true rfl) (Nat.le_of_ble_eq_true rfl) dX6_copyFrom_20 (fun H locs S16 eS16 hQ => ?_)
  have hI := invX_up_11 hI eS16 ⟨_, rfl⟩
  have c17 : S16 11 = .inl (g.2 0, 6, .inl (va_cpy f10 f13 (0 : Int32).toNatClampNeg (0 : Int32).toNatClampNeg (6 : Int32).toNatClampNeg)) := up_at eS16 rfl
  refine lv_aload_n hx hb dX6_copyFrom_23 rfl (lv_at hl 1 rfl) ?_
  have c18 : S16 47 = .inr (6, [.int v1, .ref (ad 48), .ref (ad 49), .ref (ad 50), .ref (ad 51)]) := (up_ne eS16 (by decide) c9)
  refine xget E hQ 47 (by decide) c18 rfl 2 (by decide) q191 rfl dX6_copyFrom_24 ?_
  refine lv_iconst (v := 0) hx hb dX6_copyFrom_27 (by decide) ?_
  refine lv_aload_n hx hb dX6_copyFrom_28 rfl (lv_at hl 0 rfl) ?_
  have c19 : S16 10 = .inr (6, [.int v1, .ref (ad 11), .ref (ad 12), .ref (ad 13), .ref (ad 14)]) := (up_ne eS16 (by decide) c8)
  refine xget E hQ 10 (by decide) c19 rfl 2 (by decide) q191 rfl dX6_copyFrom_29 ?_
  refine lv_iconst (v := 0) hx hb dX6_copyFrom_32 (by decide) ?_
  refine lv_bipush (v := 6) hx hb dX6_copyFrom_33 (by decide) ?_
  obtain ⟨f20, c21⟩ := invX_49 hI
  obtain ⟨f23, c24⟩ := invX_12 hI
  refine xcopyi E hs hQ hml hl.1 49 (by decide) 12 (by decide) c21 c24 q756 (by decide) (by decide) (by decide) (Nat.le_of_ble_eq_true rfl) (Nat.le_of_ble_eq_true rfl) (Nat.le_of_ble_eq_true rfl) (Nat.le_of_ble_eq_true rfl) dX6_copyFrom_35 (fun H locs S26 eS26 hQ => ?_)
  have hI := invX_up_12 hI eS26 ⟨_, rfl⟩
  have c27 : S26 12 = .inl (g.2 0, 6, .inl (va_cpy f20 f23 (0 : Int32).toNatClampNeg (0 : Int32).toNatClampNeg (6 : Int32).toNatClampNeg)) := up_at eS26 rfl
  refine lv_aload_n hx hb dX6_copyFrom_38 rfl (lv_at hl 1 rfl) ?_
  have c28 : S26 47 = .inr (6, [.int v1, .ref (ad 48), .ref (ad 49), .ref (ad 50), .ref (ad 51)]) := (up_ne eS26 (by decide) c18)
  refine xget E hQ 47 (by decide) c28 rfl 3 (by decide) q193 rfl dX6_copyFrom_39 ?_
  refine lv_iconst (v := 0) hx hb dX6_copyFrom_42 (by decide) ?_
  refine lv_aload_n hx hb dX6_copyFrom_43 rfl (lv_at hl 0 rfl) ?_
  have c29 : S26 10 = .inr (6, [.int v1, .ref (ad 11), .ref (ad 12), .ref (ad 13), .ref (ad 14)]) := (up_ne eS26 (by decide) c19)
  refine xget E hQ 10 (by decide) c29 rfl 3 (by decide) q193 rfl dX6_copyFrom_44 ?_
  refine lv_iconst (v := 0) hx hb dX6_copyFrom_47 (by decide) ?_
  refine lv_bipush (v := 6) hx hb dX6_copyFrom_48 (by decide) ?_
  obtain ⟨f30, c31⟩ := invX_50 hI
  obtain ⟨f33, c34⟩ := invX_13 hI
  refine xcopyi E hs hQ hml hl.1 50 (by decide) 13 (by decide) c31 c34 q756 (by decide) (by decide) (by decide) (Nat.le_of_ble_eq_true rfl) (Nat.le_of_ble_eq_true rfl) (Nat.le_of_ble_eq_true rfl) (Nat.le_of_ble_eq_true rfl) dX6_copyFrom_50 (fun H locs S36 eS36 hQ => ?_)
  have hI := invX_up_13 hI eS36 ⟨_, rfl⟩
  have c37 : S36 13 = .inl (g.2 0, 6, .inl (va_cpy f30 f33 (0 : Int32).toNatClampNeg (0 : Int32).toNatClampNeg (6 : Int32).toNatClampNeg)) := up_at eS36 rfl
  refine lv_aload_n hx hb dX6_copyFrom_53 rfl (lv_at hl 1 rfl) ?_
  have c38 : S36 47 = .inr (6, [.int v1, .ref (ad 48), .ref (ad 49), .ref (ad 50), .ref (ad 51)]) := (up_ne eS36 (by decide) c28)
  refine xget E hQ 47 (by decide) c38 rfl 4 (by decide) q195 rfl dX6_copyFrom_54 ?_
  refine lv_iconst (v := 0) hx hb dX6_copyFrom_57 (by decide) ?_
  refine lv_aload_n hx hb dX6_copyFrom_58 rfl (lv_at hl 0 rfl) ?_
  have c39 : S36 10 = .inr (6, [.int v1, .ref (ad 11), .ref (ad 12), .ref (ad 13), .ref (ad 14)]) := (up_ne eS36 (by decide) c29)
  refine xget E hQ 10 (by decide) c39 rfl 4 (by decide) q195 rfl dX6_copyFrom_59 ?_
  refine lv_iconst (v := 0) hx hb dX6_copyFrom_62 (by decide) ?_
  refine lv_bipush (v := 6) hx hb dX6_copyFrom_63 (by decide) ?_
  obtain ⟨f40, c41⟩ := invX_51 hI
  obtain ⟨f43, c44⟩ := invX_14 hI
  refine xcopyi E hs hQ hml hl.1 51 (by decide) 14 (by decide) c41 c44 q756 (by decide) (by decide) (by decide) (Nat.le_of_ble_eq_true rfl) (Nat.le_of_ble_eq_true rfl) (Nat.le_of_ble_eq_true rfl) (Nat.le_of_ble_eq_true rfl) dX6_copyFrom_65 (fun H locs S46 eS46 hQ => ?_)
  have hI := invX_up_14 hI eS46 ⟨_, rfl⟩
  have c47 : S46 14 = .inl (g.2 0, 6, .inl (va_cpy f40 f43 (0 : Int32).toNatClampNeg (0 : Int32).toNatClampNeg (6 : Int32).toNatClampNeg)) := up_at eS46 rfl
  exact xrv E hr hlk hQ (⟨hI, (up_o (up_o (up_o (up_o (up_o o_refl eS7 (by decide)) eS16 (by decide)) eS26 (by decide)) eS36 (by decide)) eS46 (by decide))⟩) dX6_copyFrom_68
set_option maxHeartbeats 4000000 in
set_option maxRecDepth 100000 in
theorem gX1_copyFrom_2_39 (l : Launch) (g : GG) (ad : Nat → Nat) (hD : Dj ad 122) (S : SS) (hI : InvX g ad S) (hAR39 : ARp (S 53) (S 54) (S 55) (S 56)) : Met l yX1_copyFrom (wG (.code yX1_copyFrom cX1_copyFrom 2 none)) (Rm 2) (XPre g ad 122 S [.ref (ad 2), .ref (ad 39)]) (va_Qv (fun S' => InvX g ad S' ∧ (∀ j, j ∉ ([2, 3, 4, 5, 6, 7, 8, 9, 10, 11, 12, 13, 14, 15, 16, 17, 18, 19] : List Nat) → S' j = S j) ∧ (0 ≤ fld (S 39) 0 + (-1) * fld (S' 2) 0 ∧ 0 ≤ fld (S' 2) 0 + (-1) * fld (S 39) 0) ∧ (0 ≤ fld (S 39) 1 + (-1) * fld (S' 2) 1 ∧ 0 ≤ fld (S' 2) 1 + (-1) * fld (S 39) 1) ∧ (0 ≤ fld (S 39) 7 + (-1) * fld (S' 2) 7 ∧ 0 ≤ fld (S' 2) 7 + (-1) * fld (S 39) 7) ∧ (0 ≤ fld (S 39) 12 + (-1) * fld (S' 2) 12 ∧ 0 ≤ fld (S' 2) 12 + (-1) * fld (S 39) 12) ∧ (ARp (S' 16) (S' 17) (S' 18) (S' 19))) (QB g ad 122) (FA ad 122)) 0 0 (FA ad 122) := by
  refine xmet cX1_copyFrom "EbbWreck$Coast" (by decide) rfl (Nat.le_of_ble_eq_true rfl) (fun p e s m below meth c E hr hlk hml hQ ls hl => ?_)
  have hx := E.1
  have hb := E.2.1
  have hs : Sp ad 122 (FA ad 122) := Sp.fa hD
  have hl : lv_has ls 2 [(0, .ref (ad 2)), (1, .ref (ad 39))] := hl
  obtain ⟨v1, v3, v5, v6, v7, v9, c11, b2, b4, b8, b10⟩ := invX_39 hI
  have c11 : S 39 = .inr (1, [.int v1, .int v3, .int v5, .ref (ad 40), .ref (ad 42), .ref (ad 43), .int v6, .int v7, .ref (ad 44), .ref (ad 45), .ref (ad 46), .ref (ad 47), .int v9, .ref (ad 52), .ref (ad 53)]) := c11
  obtain ⟨v12, v14, v16, v17, v18, v20, c22, b13, b15, b19, b21⟩ := invX_2 hI
  have c22 : S 2 = .inr (1, [.int v12, .int v14, .int v16, .ref (ad 3), .ref (ad 5), .ref (ad 6), .int v17, .int v18, .ref (ad 7), .ref (ad 8), .ref (ad 9), .ref (ad 10), .int v20, .ref (ad 15), .ref (ad 16)]) := c22
  obtain ⟨v23, c25, b24⟩ := invX_53 hI
  have c25 : S 53 = .inr (0, [.int v23, .ref (ad 54), .ref (ad 55), .ref (ad 56)]) := c25
  obtain ⟨f26, c27⟩ := invX_54 hI
  obtain ⟨f29, c30, b31⟩ := invX_55 hI
  obtain ⟨f32, c33, b34⟩ := invX_56 hI
  refine lv_aload_n hx hb dX1_copyFrom_0 rfl (lv_at hl 0 rfl) ?_
  refine lv_aload_n hx hb dX1_copyFrom_1 rfl (lv_at hl 1 rfl) ?_
  refine xget E hQ 39 (by decide) c11 rfl 0 (by decide) q236 rfl dX1_copyFrom_2 ?_
  refine xputi E hs hQ 2 (by decide) c22 rfl 0 (by decide) q236 rfl rfl (Nat.le_of_ble_eq_true rfl) dX1_copyFrom_5 (fun H locs S35 eS35 hQ => ?_)
  have hI := invX_up_2 hI eS35 ⟨v1, v14, v16, v17, v18, v20, rfl, b2, b15, b19, b21⟩
  have c36 : S35 2 = .inr (1, [.int v1, .int v14, .int v16, .ref (ad 3), .ref (ad 5), .ref (ad 6), .int v17, .int v18, .ref (ad 7), .ref (ad 8), .ref (ad 9), .ref (ad 10), .int v20, .ref (ad 15), .ref (ad 16)]) := up_at eS35 rfl
  refine lv_aload_n hx hb dX1_copyFrom_8 rfl (lv_at hl 0 rfl) ?_
  refine lv_aload_n hx hb dX1_copyFrom_9 rfl (lv_at hl 1 rfl) ?_
  have c37 : S35 39 = .inr (1, [.int v1, .int v3, .int v5, .ref (ad 40), .ref (ad 42), .ref (ad 43), .int v6, .int v7, .ref (ad 44), .ref (ad 45), .ref (ad 46), .ref (ad 47), .int v9, .ref (ad 52), .ref (ad 53)]) := (up_ne eS35 (by decide) c11)
  refine xget E hQ 39 (by decide) c37 rfl 1 (by decide) q239 rfl dX1_copyFrom_10 ?_
  refine xputi E hs hQ 2 (by decide) c36 rfl 1 (by decide) q239 rfl rfl (Nat.le_of_ble_eq_true rfl) dX1_copyFrom_13 (fun H locs S38 eS38 hQ => ?_)
  have hI := invX_up_2 hI eS38 ⟨v1, v3, v16, v17, v18, v20, rfl, b2, b4, b19, b21⟩
  have c39 : S38 2 = .inr (1, [.int v1, .int v3, .int v16, .ref (ad 3), .ref (ad 5), .ref (ad 6), .int v17, .int v18, .ref (ad 7), .ref (ad 8), .ref (ad 9), .ref (ad 10), .int v20, .ref (ad 15), .ref (ad 16)]) := up_at eS38 rfl
  refine lv_aload_n hx hb dX1_copyFrom_16 rfl (lv_at hl 0 rfl) ?_
  refine lv_aload_n hx hb dX1_copyFrom_17 rfl (lv_at hl 1 rfl) ?_
  have c40 : S38 39 = .inr (1, [.int v1, .int v3, .int v5, .ref (ad 40), .ref (ad 42), .ref (ad 43), .int v6, .int v7, .ref (ad 44), .ref (ad 45), .ref (ad 46), .ref (ad 47), .int v9, .ref (ad 52), .ref (ad 53)]) := (up_ne eS38 (by decide) c37)
  refine xget E hQ 39 (by decide) c40 rfl 2 (by decide) q247 rfl dX1_copyFrom_18 ?_
  refine xputi E hs hQ 2 (by decide) c39 rfl 2 (by decide) q247 rfl rfl (Nat.le_of_ble_eq_true rfl) dX1_copyFrom_21 (fun H locs S41 eS41 hQ => ?_)
  have hI := invX_up_2 hI eS41 ⟨v1, v3, v5, v17, v18, v20, rfl, b2, b4, b19, b21⟩
  have c42 : S41 2 = .inr (1, [.int v1, .int v3, .int v5, .ref (ad 3), .ref (ad 5), .ref (ad 6), .int v17, .int v18, .ref (ad 7), .ref (ad 8), .ref (ad 9), .ref (ad 10), .int v20, .ref (ad 15), .ref (ad 16)]) := up_at eS41 rfl
  refine lv_aload_n hx hb dX1_copyFrom_24 rfl (lv_at hl 0 rfl) ?_
  refine xget E hQ 2 (by decide) c42 rfl 3 (by decide) q251 rfl dX1_copyFrom_25 ?_
  refine lv_aload_n hx hb dX1_copyFrom_28 rfl (lv_at hl 1 rfl) ?_
  have c43 : S41 39 = .inr (1, [.int v1, .int v3, .int v5, .ref (ad 40), .ref (ad 42), .ref (ad 43), .int v6, .int v7, .ref (ad 44), .ref (ad 45), .ref (ad 46), .ref (ad 47), .int v9, .ref (ad 52), .ref (ad 53)]) := (up_ne eS41 (by decide) c40)
  refine xget E hQ 39 (by decide) c43 rfl 3 (by decide) q251 rfl dX1_copyFrom_29 ?_
  obtain ⟨v44, v46, v48, v50, c52, b45, b47, b49, b51⟩ := invX_40 hI
  have c52 : S41 40 = .inr (10, [.int v44, .int v46, .int v48, .int v50, .ref (ad 41)]) := c52
  refine xget E hQ 40 (by decide) c52 rfl 0 (by decide) q156 rfl dX1_copyFrom_32 ?_
  refine lv_aload_n hx hb dX1_copyFrom_35 rfl (lv_at hl 1 rfl) ?_
  refine xget E hQ 39 (by decide) c43 rfl 3 (by decide) q251 rfl dX1_copyFrom_36 ?_
  refine xget E hQ 40 (by decide) c52 rfl 1 (by decide) q159 rfl dX1_copyFrom_39 ?_
  refine lv_aload_n hx hb dX1_copyFrom_42 rfl (lv_at hl 1 rfl) ?_
  refine xget E hQ 39 (by decide) c43 rfl 3 (by decide) q251 rfl dX1_copyFrom_43 ?_
  refine xget E hQ 40 (by decide) c52 rfl 2 (by decide) q162 rfl dX1_copyFrom_46 ?_
  obtain ⟨v54, v56, v58, v60, c62, b55, b57, b59, b61⟩ := invX_3 hI
  have c62 : S41 3 = .inr (10, [.int v54, .int v56, .int v58, .int v60, .ref (ad 4)]) := c62
  refine xcVv E hs hQ hml hl.1 3 (gX10_tell_3 l g ad hD S41 hI v44 v46 v48 b45 b47 b49) mX10_tell q592 (by decide) c62 rfl rfl ⟨(Nat.le_of_ble_eq_true rfl), (Nat.le_of_ble_eq_true rfl)⟩ ⟨(Nat.le_of_ble_eq_true rfl), (Nat.le_of_ble_eq_true rfl)⟩ (Nat.le_of_ble_eq_true rfl) rfl dX1_copyFrom_49 (fun S53 H locs hp53 hQ _ => ?_)
  obtain ⟨hI, o53⟩ := hp53
  refine lv_aload_n hx hb dX1_copyFrom_52 rfl (lv_at hl 1 rfl) ?_
  have c63 : S53 39 = .inr (1, [.int v1, .int v3, .int v5, .ref (ad 40), .ref (ad 42), .ref (ad 43), .int v6, .int v7, .ref (ad 44), .ref (ad 45), .ref (ad 46), .ref (ad 47), .int v9, .ref (ad 52), .ref (ad 53)]) := ((o53 39 (by decide)).trans c43)
  refine xget E hQ 39 (by decide) c63 rfl 4 (by decide) q257 rfl dX1_copyFrom_53 ?_
  refine lv_iconst (v := 0) hx hb dX1_copyFrom_56 (by decide) ?_
  refine lv_aload_n hx hb dX1_copyFrom_57 rfl (lv_at hl 0 rfl) ?_
  have c64 : S53 2 = .inr (1, [.int v1, .int v3, .int v5, .ref (ad 3), .ref (ad 5), .ref (ad 6), .int v17, .int v18, .ref (ad 7), .ref (ad 8), .ref (ad 9), .ref (ad 10), .int v20, .ref (ad 15), .ref (ad 16)]) := ((o53 2 (by decide)).trans c42)
  refine xget E hQ 2 (by decide) c64 rfl 4 (by decide) q257 rfl dX1_copyFrom_58 ?_
  refine lv_iconst (v := 0) hx hb dX1_copyFrom_61 (by decide) ?_
  refine lv_bipush (v := 12) hx hb dX1_copyFrom_62 (by decide) ?_
  obtain ⟨f65, c66⟩ := invX_42 hI
  obtain ⟨f68, c69⟩ := invX_5 hI
  refine xcopyi E hs hQ hml hl.1 42 (by decide) 5 (by decide) c66 c69 q749 (by decide) (by decide) (by decide) (Nat.le_of_ble_eq_true rfl) (Nat.le_of_ble_eq_true rfl) (Nat.le_of_ble_eq_true rfl) (Nat.le_of_ble_eq_true rfl) dX1_copyFrom_64 (fun H locs S71 eS71 hQ => ?_)
  have hI := invX_up_5 hI eS71 ⟨_, rfl⟩
  have c72 : S71 5 = .inl (g.2 0, 12, .inl (va_cpy f65 f68 (0 : Int32).toNatClampNeg (0 : Int32).toNatClampNeg (12 : Int32).toNatClampNeg)) := up_at eS71 rfl
  refine lv_aload_n hx hb dX1_copyFrom_67 rfl (lv_at hl 1 rfl) ?_
  have c73 : S71 39 = .inr (1, [.int v1, .int v3, .int v5, .ref (ad 40), .ref (ad 42), .ref (ad 43), .int v6, .int v7, .ref (ad 44), .ref (ad 45), .ref (ad 46), .ref (ad 47), .int v9, .ref (ad 52), .ref (ad 53)]) := (up_ne eS71 (by decide) c63)
  refine xget E hQ 39 (by decide) c73 rfl 5 (by decide) q260 rfl dX1_copyFrom_68 ?_
  refine lv_iconst (v := 0) hx hb dX1_copyFrom_71 (by decide) ?_
  refine lv_aload_n hx hb dX1_copyFrom_72 rfl (lv_at hl 0 rfl) ?_
  have c74 : S71 2 = .inr (1, [.int v1, .int v3, .int v5, .ref (ad 3), .ref (ad 5), .ref (ad 6), .int v17, .int v18, .ref (ad 7), .ref (ad 8), .ref (ad 9), .ref (ad 10), .int v20, .ref (ad 15), .ref (ad 16)]) := (up_ne eS71 (by decide) c64)
  refine xget E hQ 2 (by decide) c74 rfl 5 (by decide) q260 rfl dX1_copyFrom_73 ?_
  refine lv_iconst (v := 0) hx hb dX1_copyFrom_76 (by decide) ?_
  refine lv_bipush (v := 12) hx hb dX1_copyFrom_77 (by decide) ?_
  obtain ⟨f75, c76⟩ := invX_43 hI
  obtain ⟨f78, c79⟩ := invX_6 hI
  refine xcopyi E hs hQ hml hl.1 43 (by decide) 6 (by decide) c76 c79 q749 (by decide) (by decide) (by decide) (Nat.le_of_ble_eq_true rfl) (Nat.le_of_ble_eq_true rfl) (Nat.le_of_ble_eq_true rfl) (Nat.le_of_ble_eq_true rfl) dX1_copyFrom_79 (fun H locs S81 eS81 hQ => ?_)
  have hI := invX_up_6 hI eS81 ⟨_, rfl⟩
  have c82 : S81 6 = .inl (g.2 0, 12, .inl (va_cpy f75 f78 (0 : Int32).toNatClampNeg (0 : Int32).toNatClampNeg (12 : Int32).toNatClampNeg)) := up_at eS81 rfl
  refine lv_aload_n hx hb dX1_copyFrom_82 rfl (lv_at hl 0 rfl) ?_
  refine lv_aload_n hx hb dX1_copyFrom_83 rfl (lv_at hl 1 rfl) ?_
  have c83 : S81 39 = .inr (1, [.int v1, .int v3, .int v5, .ref (ad 40), .ref (ad 42), .ref (ad 43), .int v6, .int v7, .ref (ad 44), .ref (ad 45), .ref (ad 46), .ref (ad 47), .int v9, .ref (ad 52), .ref (ad 53)]) := (up_ne eS81 (by decide) c73)
  refine xget E hQ 39 (by decide) c83 rfl 6 (by decide) q263 rfl dX1_copyFrom_84 ?_
  have c84 : S81 2 = .inr (1, [.int v1, .int v3, .int v5, .ref (ad 3), .ref (ad 5), .ref (ad 6), .int v17, .int v18, .ref (ad 7), .ref (ad 8), .ref (ad 9), .ref (ad 10), .int v20, .ref (ad 15), .ref (ad 16)]) := (up_ne eS81 (by decide) c74)
  refine xputi E hs hQ 2 (by decide) c84 rfl 6 (by decide) q263 rfl rfl (Nat.le_of_ble_eq_true rfl) dX1_copyFrom_87 (fun H locs S85 eS85 hQ => ?_)
  have hI := invX_up_2 hI eS85 ⟨v1, v3, v5, v6, v18, v20, rfl, b2, b4, b19, b21⟩
  have c86 : S85 2 = .inr (1, [.int v1, .int v3, .int v5, .ref (ad 3), .ref (ad 5), .ref (ad 6), .int v6, .int v18, .ref (ad 7), .ref (ad 8), .ref (ad 9), .ref (ad 10), .int v20, .ref (ad 15), .ref (ad 16)]) := up_at eS85 rfl
  refine lv_aload_n hx hb dX1_copyFrom_90 rfl (lv_at hl 0 rfl) ?_
  refine lv_aload_n hx hb dX1_copyFrom_91 rfl (lv_at hl 1 rfl) ?_
  have c87 : S85 39 = .inr (1, [.int v1, .int v3, .int v5, .ref (ad 40), .ref (ad 42), .ref (ad 43), .int v6, .int v7, .ref (ad 44), .ref (ad 45), .ref (ad 46), .ref (ad 47), .int v9, .ref (ad 52), .ref (ad 53)]) := (up_ne eS85 (by decide) c83)
  refine xget E hQ 39 (by decide) c87 rfl 7 (by decide) q270 rfl dX1_copyFrom_92 ?_
  refine xputi E hs hQ 2 (by decide) c86 rfl 7 (by decide) q270 rfl rfl (Nat.le_of_ble_eq_true rfl) dX1_copyFrom_95 (fun H locs S88 eS88 hQ => ?_)
  have hI := invX_up_2 hI eS88 ⟨v1, v3, v5, v6, v7, v20, rfl, b2, b4, b8, b21⟩
  have c89 : S88 2 = .inr (1, [.int v1, .int v3, .int v5, .ref (ad 3), .ref (ad 5), .ref (ad 6), .int v6, .int v7, .ref (ad 7), .ref (ad 8), .ref (ad 9), .ref (ad 10), .int v20, .ref (ad 15), .ref (ad 16)]) := up_at eS88 rfl
  refine lv_aload_n hx hb dX1_copyFrom_98 rfl (lv_at hl 1 rfl) ?_
  have c90 : S88 39 = .inr (1, [.int v1, .int v3, .int v5, .ref (ad 40), .ref (ad 42), .ref (ad 43), .int v6, .int v7, .ref (ad 44), .ref (ad 45), .ref (ad 46), .ref (ad 47), .int v9, .ref (ad 52), .ref (ad 53)]) := (up_ne eS88 (by decide) c87)
  refine xget E hQ 39 (by decide) c90 rfl 8 (by decide) q274 rfl dX1_copyFrom_99 ?_
  refine lv_iconst (v := 0) hx hb dX1_copyFrom_102 (by decide) ?_
  refine lv_aload_n hx hb dX1_copyFrom_103 rfl (lv_at hl 0 rfl) ?_
  refine xget E hQ 2 (by decide) c89 rfl 8 (by decide) q274 rfl dX1_copyFrom_104 ?_
  refine lv_iconst (v := 0) hx hb dX1_copyFrom_107 (by decide) ?_
  refine lv_bipush (v := 8) hx hb dX1_copyFrom_108 (by decide) ?_
  obtain ⟨f91, c92⟩ := invX_44 hI
  obtain ⟨f94, c95⟩ := invX_7 hI
  refine xcopyi E hs hQ hml hl.1 44 (by decide) 7 (by decide) c92 c95 q749 (by decide) (by decide) (by decide) (Nat.le_of_ble_eq_true rfl) (Nat.le_of_ble_eq_true rfl) (Nat.le_of_ble_eq_true rfl) (Nat.le_of_ble_eq_true rfl) dX1_copyFrom_110 (fun H locs S97 eS97 hQ => ?_)
  have hI := invX_up_7 hI eS97 ⟨_, rfl⟩
  have c98 : S97 7 = .inl (g.2 0, 8, .inl (va_cpy f91 f94 (0 : Int32).toNatClampNeg (0 : Int32).toNatClampNeg (8 : Int32).toNatClampNeg)) := up_at eS97 rfl
  refine lv_aload_n hx hb dX1_copyFrom_113 rfl (lv_at hl 1 rfl) ?_
  have c99 : S97 39 = .inr (1, [.int v1, .int v3, .int v5, .ref (ad 40), .ref (ad 42), .ref (ad 43), .int v6, .int v7, .ref (ad 44), .ref (ad 45), .ref (ad 46), .ref (ad 47), .int v9, .ref (ad 52), .ref (ad 53)]) := (up_ne eS97 (by decide) c90)
  refine xget E hQ 39 (by decide) c99 rfl 9 (by decide) q279 rfl dX1_copyFrom_114 ?_
  refine lv_iconst (v := 0) hx hb dX1_copyFrom_117 (by decide) ?_
  refine lv_aload_n hx hb dX1_copyFrom_118 rfl (lv_at hl 0 rfl) ?_
  have c100 : S97 2 = .inr (1, [.int v1, .int v3, .int v5, .ref (ad 3), .ref (ad 5), .ref (ad 6), .int v6, .int v7, .ref (ad 7), .ref (ad 8), .ref (ad 9), .ref (ad 10), .int v20, .ref (ad 15), .ref (ad 16)]) := (up_ne eS97 (by decide) c89)
  refine xget E hQ 2 (by decide) c100 rfl 9 (by decide) q279 rfl dX1_copyFrom_119 ?_
  refine lv_iconst (v := 0) hx hb dX1_copyFrom_122 (by decide) ?_
  refine lv_bipush (v := 8) hx hb dX1_copyFrom_123 (by decide) ?_
  obtain ⟨f101, c102, b103⟩ := invX_45 hI
  obtain ⟨f104, c105, b106⟩ := invX_8 hI
  refine xcopyi E hs hQ hml hl.1 45 (by decide) 8 (by decide) c102 c105 q749 (by decide) (by decide) (by decide) (Nat.le_of_ble_eq_true rfl) (Nat.le_of_ble_eq_true rfl) (Nat.le_of_ble_eq_true rfl) (Nat.le_of_ble_eq_true rfl) dX1_copyFrom_125 (fun H locs S107 eS107 hQ => ?_)
  have hI := invX_up_8 hI eS107 ⟨_, rfl, cpy_b b103 b106⟩
  have b109 : ∀ j, Bd ((va_cpy f101 f104 (0 : Int32).toNatClampNeg (0 : Int32).toNatClampNeg (8 : Int32).toNatClampNeg) j) (0) (11) := cpy_b b103 b106
  have c108 : S107 8 = .inl (g.2 0, 8, .inl (va_cpy f101 f104 (0 : Int32).toNatClampNeg (0 : Int32).toNatClampNeg (8 : Int32).toNatClampNeg)) := up_at eS107 rfl
  refine lv_aload_n hx hb dX1_copyFrom_128 rfl (lv_at hl 1 rfl) ?_
  have c110 : S107 39 = .inr (1, [.int v1, .int v3, .int v5, .ref (ad 40), .ref (ad 42), .ref (ad 43), .int v6, .int v7, .ref (ad 44), .ref (ad 45), .ref (ad 46), .ref (ad 47), .int v9, .ref (ad 52), .ref (ad 53)]) := (up_ne eS107 (by decide) c99)
  refine xget E hQ 39 (by decide) c110 rfl 10 (by decide) q284 rfl dX1_copyFrom_129 ?_
  refine lv_iconst (v := 0) hx hb dX1_copyFrom_132 (by decide) ?_
  refine lv_aload_n hx hb dX1_copyFrom_133 rfl (lv_at hl 0 rfl) ?_
  have c111 : S107 2 = .inr (1, [.int v1, .int v3, .int v5, .ref (ad 3), .ref (ad 5), .ref (ad 6), .int v6, .int v7, .ref (ad 7), .ref (ad 8), .ref (ad 9), .ref (ad 10), .int v20, .ref (ad 15), .ref (ad 16)]) := (up_ne eS107 (by decide) c100)
  refine xget E hQ 2 (by decide) c111 rfl 10 (by decide) q284 rfl dX1_copyFrom_134 ?_
  refine lv_iconst (v := 0) hx hb dX1_copyFrom_137 (by decide) ?_
  refine lv_bipush (v := 8) hx hb dX1_copyFrom_138 (by decide) ?_
  obtain ⟨f112, c113, b114⟩ := invX_46 hI
  obtain ⟨f115, c116, b117⟩ := invX_9 hI
  refine xcopyi E hs hQ hml hl.1 46 (by decide) 9 (by decide) c113 c116 q749 (by decide) (by decide) (by decide) (Nat.le_of_ble_eq_true rfl) (Nat.le_of_ble_eq_true rfl) (Nat.le_of_ble_eq_true rfl) (Nat.le_of_ble_eq_true rfl) dX1_copyFrom_140 (fun H locs S118 eS118 hQ => ?_)
  have hI := invX_up_9 hI eS118 ⟨_, rfl, cpy_b b114 b117⟩
  have b120 : ∀ j, Bd ((va_cpy f112 f115 (0 : Int32).toNatClampNeg (0 : Int32).toNatClampNeg (8 : Int32).toNatClampNeg) j) (0) (99) := cpy_b b114 b117
  have c119 : S118 9 = .inl (g.2 0, 8, .inl (va_cpy f112 f115 (0 : Int32).toNatClampNeg (0 : Int32).toNatClampNeg (8 : Int32).toNatClampNeg)) := up_at eS118 rfl
  refine lv_aload_n hx hb dX1_copyFrom_143 rfl (lv_at hl 0 rfl) ?_
  have c121 : S118 2 = .inr (1, [.int v1, .int v3, .int v5, .ref (ad 3), .ref (ad 5), .ref (ad 6), .int v6, .int v7, .ref (ad 7), .ref (ad 8), .ref (ad 9), .ref (ad 10), .int v20, .ref (ad 15), .ref (ad 16)]) := (up_ne eS118 (by decide) c111)
  refine xget E hQ 2 (by decide) c121 rfl 11 (by decide) q289 rfl dX1_copyFrom_144 ?_
  refine lv_aload_n hx hb dX1_copyFrom_147 rfl (lv_at hl 1 rfl) ?_
  have c122 : S118 39 = .inr (1, [.int v1, .int v3, .int v5, .ref (ad 40), .ref (ad 42), .ref (ad 43), .int v6, .int v7, .ref (ad 44), .ref (ad 45), .ref (ad 46), .ref (ad 47), .int v9, .ref (ad 52), .ref (ad 53)]) := (up_ne eS118 (by decide) c110)
  refine xget E hQ 39 (by decide) c122 rfl 11 (by decide) q289 rfl dX1_copyFrom_148 ?_
  obtain ⟨v124, c126, b125⟩ := invX_10 hI
  have c126 : S118 10 = .inr (6, [.int v124, .ref (ad 11), .ref (ad 12), .ref (ad 13), .ref (ad 14)]) := c126
  refine xcVv E hs hQ hml hl.1 10 (gX6_copyFrom_10_47 l g ad hD S118 hI ) mX6_copyFrom q752 (by decide) c126 rfl rfl ⟨(Nat.le_of_ble_eq_true rfl), (Nat.le_of_ble_eq_true rfl)⟩ ⟨(Nat.le_of_ble_eq_true rfl), (Nat.le_of_ble_eq_true rfl)⟩ (Nat.le_of_ble_eq_true rfl) rfl dX1_copyFrom_151 (fun S123 H locs hp123 hQ _ => ?_)
  obtain ⟨hI, o123⟩ := hp123
  refine lv_aload_n hx hb dX1_copyFrom_154 rfl (lv_at hl 0 rfl) ?_
  refine lv_aload_n hx hb dX1_copyFrom_155 rfl (lv_at hl 1 rfl) ?_
  have c127 : S123 39 = .inr (1, [.int v1, .int v3, .int v5, .ref (ad 40), .ref (ad 42), .ref (ad 43), .int v6, .int v7, .ref (ad 44), .ref (ad 45), .ref (ad 46), .ref (ad 47), .int v9, .ref (ad 52), .ref (ad 53)]) := ((o123 39 (by decide)).trans c122)
  refine xget E hQ 39 (by decide) c127 rfl 12 (by decide) q293 rfl dX1_copyFrom_156 ?_
  have c128 : S123 2 = .inr (1, [.int v1, .int v3, .int v5, .ref (ad 3), .ref (ad 5), .ref (ad 6), .int v6, .int v7, .ref (ad 7), .ref (ad 8), .ref (ad 9), .ref (ad 10), .int v20, .ref (ad 15), .ref (ad 16)]) := ((o123 2 (by decide)).trans c121)
  refine xputi E hs hQ 2 (by decide) c128 rfl 12 (by decide) q293 rfl rfl (Nat.le_of_ble_eq_true rfl) dX1_copyFrom_159 (fun H locs S129 eS129 hQ => ?_)
  have hI := invX_up_2 hI eS129 ⟨v1, v3, v5, v6, v7, v9, rfl, b2, b4, b8, b10⟩
  have c130 : S129 2 = .inr (1, [.int v1, .int v3, .int v5, .ref (ad 3), .ref (ad 5), .ref (ad 6), .int v6, .int v7, .ref (ad 7), .ref (ad 8), .ref (ad 9), .ref (ad 10), .int v9, .ref (ad 15), .ref (ad 16)]) := up_at eS129 rfl
  refine lv_aload_n hx hb dX1_copyFrom_162 rfl (lv_at hl 1 rfl) ?_
  have c131 : S129 39 = .inr (1, [.int v1, .int v3, .int v5, .ref (ad 40), .ref (ad 42), .ref (ad 43), .int v6, .int v7, .ref (ad 44), .ref (ad 45), .ref (ad 46), .ref (ad 47), .int v9, .ref (ad 52), .ref (ad 53)]) := (up_ne eS129 (by decide) c127)
  refine xget E hQ 39 (by decide) c131 rfl 13 (by decide) q297 rfl dX1_copyFrom_163 ?_
  refine lv_iconst (v := 0) hx hb dX1_copyFrom_166 (by decide) ?_
  refine lv_aload_n hx hb dX1_copyFrom_167 rfl (lv_at hl 0 rfl) ?_
  refine xget E hQ 2 (by decide) c130 rfl 13 (by decide) q297 rfl dX1_copyFrom_168 ?_
  refine lv_iconst (v := 0) hx hb dX1_copyFrom_171 (by decide) ?_
  refine lv_iconst (v := 3) hx hb dX1_copyFrom_172 (by decide) ?_
  obtain ⟨f132, c133, b134⟩ := invX_52 hI
  obtain ⟨f135, c136, b137⟩ := invX_15 hI
  refine xcopyi E hs hQ hml hl.1 52 (by decide) 15 (by decide) c133 c136 q749 (by decide) (by decide) (by decide) (Nat.le_of_ble_eq_true rfl) (Nat.le_of_ble_eq_true rfl) (Nat.le_of_ble_eq_true rfl) (Nat.le_of_ble_eq_true rfl) dX1_copyFrom_173 (fun H locs S138 eS138 hQ => ?_)
  have hI := invX_up_15 hI eS138 ⟨_, rfl, cpy_b b134 b137⟩
  have b140 : ∀ j, Bd ((va_cpy f132 f135 (0 : Int32).toNatClampNeg (0 : Int32).toNatClampNeg (3 : Int32).toNatClampNeg) j) (0) (11) := cpy_b b134 b137
  have c139 : S138 15 = .inl (g.2 0, 3, .inl (va_cpy f132 f135 (0 : Int32).toNatClampNeg (0 : Int32).toNatClampNeg (3 : Int32).toNatClampNeg)) := up_at eS138 rfl
  refine lv_aload_n hx hb dX1_copyFrom_176 rfl (lv_at hl 0 rfl) ?_
  have c141 : S138 2 = .inr (1, [.int v1, .int v3, .int v5, .ref (ad 3), .ref (ad 5), .ref (ad 6), .int v6, .int v7, .ref (ad 7), .ref (ad 8), .ref (ad 9), .ref (ad 10), .int v9, .ref (ad 15), .ref (ad 16)]) := (up_ne eS138 (by decide) c130)
  refine xget E hQ 2 (by decide) c141 rfl 14 (by decide) q301 rfl dX1_copyFrom_177 ?_
  refine lv_aload_n hx hb dX1_copyFrom_180 rfl (lv_at hl 1 rfl) ?_
  have c142 : S138 39 = .inr (1, [.int v1, .int v3, .int v5, .ref (ad 40), .ref (ad 42), .ref (ad 43), .int v6, .int v7, .ref (ad 44), .ref (ad 45), .ref (ad 46), .ref (ad 47), .int v9, .ref (ad 52), .ref (ad 53)]) := (up_ne eS138 (by decide) c131)
  refine xget E hQ 39 (by decide) c142 rfl 14 (by decide) q301 rfl dX1_copyFrom_181 ?_
  have c143 : S138 53 = .inr (0, [.int v23, .ref (ad 54), .ref (ad 55), .ref (ad 56)]) := (up_ne eS138 (by decide) (up_ne eS129 (by decide) ((o123 53 (by decide)).trans (up_ne eS118 (by decide) (up_ne eS107 (by decide) (up_ne eS97 (by decide) (up_ne eS88 (by decide) (up_ne eS85 (by decide) (up_ne eS81 (by decide) (up_ne eS71 (by decide) ((o53 53 (by decide)).trans (up_ne eS41 (by decide) (up_ne eS38 (by decide) (up_ne eS35 (by decide) c25))))))))))))))
  obtain ⟨v145, c147, b146⟩ := invX_16 hI
  have c147 : S138 16 = .inr (0, [.int v145, .ref (ad 17), .ref (ad 18), .ref (ad 19)]) := c147
  refine xcVv E hs hQ hml hl.1 16 (gX0_copyFrom_16_53 l g ad hD S138 hI (ar_tr hAR39 ((up_eq (j := 53) eS138 (by decide)).trans ((up_eq (j := 53) eS129 (by decide)).trans ((o123 53 (by decide)).trans ((up_eq (j := 53) eS118 (by decide)).trans ((up_eq (j := 53) eS107 (by decide)).trans ((up_eq (j := 53) eS97 (by decide)).trans ((up_eq (j := 53) eS88 (by decide)).trans ((up_eq (j := 53) eS85 (by decide)).trans ((up_eq (j := 53) eS81 (by decide)).trans ((up_eq (j := 53) eS71 (by decide)).trans ((o53 53 (by decide)).trans ((up_eq (j := 53) eS41 (by decide)).trans ((up_eq (j := 53) eS38 (by decide)).trans (up_eq (j := 53) eS35 (by decide))))))))))))))) ((up_eq (j := 54) eS138 (by decide)).trans ((up_eq (j := 54) eS129 (by decide)).trans ((o123 54 (by decide)).trans ((up_eq (j := 54) eS118 (by decide)).trans ((up_eq (j := 54) eS107 (by decide)).trans ((up_eq (j := 54) eS97 (by decide)).trans ((up_eq (j := 54) eS88 (by decide)).trans ((up_eq (j := 54) eS85 (by decide)).trans ((up_eq (j := 54) eS81 (by decide)).trans ((up_eq (j := 54) eS71 (by decide)).trans ((o53 54 (by decide)).trans ((up_eq (j := 54) eS41 (by decide)).trans ((up_eq (j := 54) eS38 (by decide)).trans (up_eq (j := 54) eS35 (by decide))))))))))))))) ((up_eq (j := 55) eS138 (by decide)).trans ((up_eq (j := 55) eS129 (by decide)).trans ((o123 55 (by decide)).trans ((up_eq (j := 55) eS118 (by decide)).trans ((up_eq (j := 55) eS107 (by decide)).trans ((up_eq (j := 55) eS97 (by decide)).trans ((up_eq (j := 55) eS88 (by decide)).trans ((up_eq (j := 55) eS85 (by decide)).trans ((up_eq (j := 55) eS81 (by decide)).trans ((up_eq (j := 55) eS71 (by decide)).trans ((o53 55 (by decide)).trans ((up_eq (j := 55) eS41 (by decide)).trans ((up_eq (j := 55) eS38 (by decide)).trans (up_eq (j := 55) eS35 (by decide))))))))))))))) ((up_eq (j := 56) eS138 (by decide)).trans ((up_eq (j := 56) eS129 (by decide)).trans ((o123 56 (by decide)).trans ((up_eq (j := 56) eS118 (by decide)).trans ((up_eq (j := 56) eS107 (by decide)).trans ((up_eq (j := 56) eS97 (by decide)).trans ((up_eq (j := 56) eS88 (by decide)).trans ((up_eq (j := 56) eS85 (by decide)).trans ((up_eq (j := 56) eS81 (by decide)).trans ((up_eq (j := 56) eS71 (by decide)).trans ((o53 56 (by decide)).trans ((up_eq (j := 56) eS41 (by decide)).trans ((up_eq (j := 56) eS38 (by decide)).trans (up_eq (j := 56) eS35 (by decide))))))))))))))))) mX0_copyFrom q757 (by decide) c147 rfl rfl ⟨(Nat.le_of_ble_eq_true rfl), (Nat.le_of_ble_eq_true rfl)⟩ ⟨(Nat.le_of_ble_eq_true rfl), (Nat.le_of_ble_eq_true rfl)⟩ (Nat.le_of_ble_eq_true rfl) rfl dX1_copyFrom_184 (fun S144 H locs hp144 hQ _ => ?_)
  obtain ⟨hI, o144, g144_0, u144_0⟩ := hp144
  have q148 : fld (S138 53) 0 = v23.toInt := fld_of c143 rfl
  obtain ⟨v149, c151, b150⟩ := invX_16 hI
  have c151 : S144 16 = .inr (0, [.int v149, .ref (ad 17), .ref (ad 18), .ref (ad 19)]) := c151
  have q152 : fld (S144 16) 0 = v149.toInt := fld_of c151 rfl
  have q153 : fld (S 39) 0 = v1.toInt := fld_of c11 rfl
  have c154 : S144 2 = .inr (1, [.int v1, .int v3, .int v5, .ref (ad 3), .ref (ad 5), .ref (ad 6), .int v6, .int v7, .ref (ad 7), .ref (ad 8), .ref (ad 9), .ref (ad 10), .int v9, .ref (ad 15), .ref (ad 16)]) := ((o144 2 (by decide)).trans c141)
  have q155 : fld (S144 2) 0 = v1.toInt := fld_of c154 rfl
  have q156 : fld (S 39) 1 = v3.toInt := fld_of c11 rfl
  have q157 : fld (S144 2) 1 = v3.toInt := fld_of c154 rfl
  have q158 : fld (S 39) 7 = v7.toInt := fld_of c11 rfl
  have q159 : fld (S144 2) 7 = v7.toInt := fld_of c154 rfl
  have q160 : fld (S 39) 12 = v9.toInt := fld_of c11 rfl
  have q161 : fld (S144 2) 12 = v9.toInt := fld_of c154 rfl
  exact xrv E hr hlk hQ (⟨hI, (o_trans (up_o (up_o (o_trans (up_o (up_o (up_o (up_o (up_o (up_o (up_o (o_trans (up_o (up_o (up_o o_refl eS35 (by decide)) eS38 (by decide)) eS41 (by decide)) o53 (by decide)) eS71 (by decide)) eS81 (by decide)) eS85 (by decide)) eS88 (by decide)) eS97 (by decide)) eS107 (by decide)) eS118 (by decide)) o123 (by decide)) eS129 (by decide)) eS138 (by decide)) o144 (by decide)), ⟨by omega, by omega⟩, ⟨by omega, by omega⟩, ⟨by omega, by omega⟩, ⟨by omega, by omega⟩, u144_0⟩) dX1_copyFrom_187
set_option maxHeartbeats 4000000 in
set_option maxRecDepth 100000 in
theorem gX0_copyFrom_16_71 (l : Launch) (g : GG) (ad : Nat → Nat) (hD : Dj ad 122) (S : SS) (hI : InvX g ad S) (hAR57 : ARp (S 71) (S 72) (S 73) (S 74)) : Met l yX0_copyFrom (wG (.code yX0_copyFrom cX0_copyFrom 2 none)) (Rm 1) (XPre g ad 122 S [.ref (ad 16), .ref (ad 71)]) (va_Qv (fun S' => InvX g ad S' ∧ (∀ j, j ∉ ([16, 17, 18, 19] : List Nat) → S' j = S j) ∧ (0 ≤ fld (S 71) 0 + (-1) * fld (S' 16) 0 ∧ 0 ≤ fld (S' 16) 0 + (-1) * fld (S 71) 0) ∧ (ARp (S' 16) (S' 17) (S' 18) (S' 19))) (QB g ad 122) (FA ad 122)) 0 0 (FA ad 122) := by
  refine xmet cX0_copyFrom "EbbWreck$Acts" (by decide) rfl (Nat.le_of_ble_eq_true rfl) (fun p e s m below meth c E hr hlk hml hQ ls hl => ?_)
  have hx := E.1
  have hb := E.2.1
  have hs : Sp ad 122 (FA ad 122) := Sp.fa hD
  have hl : lv_has ls 2 [(0, .ref (ad 16)), (1, .ref (ad 71))] := hl
  obtain ⟨v1, c3, b2⟩ := invX_71 hI
  have c3 : S 71 = .inr (0, [.int v1, .ref (ad 72), .ref (ad 73), .ref (ad 74)]) := c3
  obtain ⟨v4, c6, b5⟩ := invX_16 hI
  have c6 : S 16 = .inr (0, [.int v4, .ref (ad 17), .ref (ad 18), .ref (ad 19)]) := c6
  obtain ⟨f7, c8⟩ := invX_72 hI
  obtain ⟨f10, c11, b12⟩ := invX_73 hI
  obtain ⟨f13, c14, b15⟩ := invX_74 hI
  refine lv_aload_n hx hb dX0_copyFrom_0 rfl (lv_at hl 0 rfl) ?_
  refine lv_aload_n hx hb dX0_copyFrom_1 rfl (lv_at hl 1 rfl) ?_
  refine xget E hQ 71 (by decide) c3 rfl 0 (by decide) q215 rfl dX0_copyFrom_2 ?_
  refine xputi E hs hQ 16 (by decide) c6 rfl 0 (by decide) q215 rfl rfl (Nat.le_of_ble_eq_true rfl) dX0_copyFrom_5 (fun H locs S16 eS16 hQ => ?_)
  have hI := invX_up_16 hI eS16 ⟨v1, rfl, b2⟩
  have c17 : S16 16 = .inr (0, [.int v1, .ref (ad 17), .ref (ad 18), .ref (ad 19)]) := up_at eS16 rfl
  refine lv_aload_n hx hb dX0_copyFrom_8 rfl (lv_at hl 1 rfl) ?_
  have c18 : S16 71 = .inr (0, [.int v1, .ref (ad 72), .ref (ad 73), .ref (ad 74)]) := (up_ne eS16 (by decide) c3)
  refine xget E hQ 71 (by decide) c18 rfl 1 (by decide) q219 rfl dX0_copyFrom_9 ?_
  refine lv_iconst (v := 0) hx hb dX0_copyFrom_12 (by decide) ?_
  refine lv_aload_n hx hb dX0_copyFrom_13 rfl (lv_at hl 0 rfl) ?_
  refine xget E hQ 16 (by decide) c17 rfl 1 (by decide) q219 rfl dX0_copyFrom_14 ?_
  refine lv_iconst (v := 0) hx hb dX0_copyFrom_17 (by decide) ?_
  refine lv_bipush (v := 40) hx hb dX0_copyFrom_18 (by decide) ?_
  have c19 : S16 72 = .inl (g.2 0, 40, .inl f7) := (up_ne eS16 (by decide) c8)
  obtain ⟨f20, c21⟩ := invX_17 hI
  refine xcopyi E hs hQ hml hl.1 72 (by decide) 17 (by decide) c19 c21 q761 (by decide) (by decide) (by decide) (Nat.le_of_ble_eq_true rfl) (Nat.le_of_ble_eq_true rfl) (Nat.le_of_ble_eq_true rfl) (Nat.le_of_ble_eq_true rfl) dX0_copyFrom_20 (fun H locs S23 eS23 hQ => ?_)
  have hI := invX_up_17 hI eS23 ⟨_, rfl⟩
  have c24 : S23 17 = .inl (g.2 0, 40, .inl (va_cpy f7 f20 (0 : Int32).toNatClampNeg (0 : Int32).toNatClampNeg (40 : Int32).toNatClampNeg)) := up_at eS23 rfl
  refine lv_aload_n hx hb dX0_copyFrom_23 rfl (lv_at hl 1 rfl) ?_
  have c25 : S23 71 = .inr (0, [.int v1, .ref (ad 72), .ref (ad 73), .ref (ad 74)]) := (up_ne eS23 (by decide) c18)
  refine xget E hQ 71 (by decide) c25 rfl 2 (by decide) q222 rfl dX0_copyFrom_24 ?_
  refine lv_iconst (v := 0) hx hb dX0_copyFrom_27 (by decide) ?_
  refine lv_aload_n hx hb dX0_copyFrom_28 rfl (lv_at hl 0 rfl) ?_
  have c26 : S23 16 = .inr (0, [.int v1, .ref (ad 17), .ref (ad 18), .ref (ad 19)]) := (up_ne eS23 (by decide) c17)
  refine xget E hQ 16 (by decide) c26 rfl 2 (by decide) q222 rfl dX0_copyFrom_29 ?_
  refine lv_iconst (v := 0) hx hb dX0_copyFrom_32 (by decide) ?_
  refine lv_bipush (v := 40) hx hb dX0_copyFrom_33 (by decide) ?_
  have c27 : S23 73 = .inl (g.2 0, 40, .inl f10) := (up_ne eS23 (by decide) (up_ne eS16 (by decide) c11))
  obtain ⟨f28, c29, b30⟩ := invX_18 hI
  refine xcopyi E hs hQ hml hl.1 73 (by decide) 18 (by decide) c27 c29 q761 (by decide) (by decide) (by decide) (Nat.le_of_ble_eq_true rfl) (Nat.le_of_ble_eq_true rfl) (Nat.le_of_ble_eq_true rfl) (Nat.le_of_ble_eq_true rfl) dX0_copyFrom_35 (fun H locs S31 eS31 hQ => ?_)
  have hI := invX_up_18 hI eS31 ⟨_, rfl, cpy_b b12 b30⟩
  have b33 : ∀ j, Bd ((va_cpy f10 f28 (0 : Int32).toNatClampNeg (0 : Int32).toNatClampNeg (40 : Int32).toNatClampNeg) j) (0) (7) := cpy_b b12 b30
  have c32 : S31 18 = .inl (g.2 0, 40, .inl (va_cpy f10 f28 (0 : Int32).toNatClampNeg (0 : Int32).toNatClampNeg (40 : Int32).toNatClampNeg)) := up_at eS31 rfl
  refine lv_aload_n hx hb dX0_copyFrom_38 rfl (lv_at hl 1 rfl) ?_
  have c34 : S31 71 = .inr (0, [.int v1, .ref (ad 72), .ref (ad 73), .ref (ad 74)]) := (up_ne eS31 (by decide) c25)
  refine xget E hQ 71 (by decide) c34 rfl 3 (by decide) q224 rfl dX0_copyFrom_39 ?_
  refine lv_iconst (v := 0) hx hb dX0_copyFrom_42 (by decide) ?_
  refine lv_aload_n hx hb dX0_copyFrom_43 rfl (lv_at hl 0 rfl) ?_
  have c35 : S31 16 = .inr (0, [.int v1, .ref (ad 17), .ref (ad 18), .ref (ad 19)]) := (up_ne eS31 (by decide) c26)
  refine xget E hQ 16 (by decide) c35 rfl 3 (by decide) q224 rfl dX0_copyFrom_44 ?_
  refine lv_iconst (v := 0) hx hb dX0_copyFrom_47 (by decide) ?_
  refine lv_bipush (v := 40) hx hb dX0_copyFrom_48 (by decide) ?_
  have c36 : S31 74 = .inl (g.2 0, 40, .inl f13) := (up_ne eS31 (by decide) (up_ne eS23 (by decide) (up_ne eS16 (by decide) c14)))
  obtain ⟨f37, c38, b39⟩ := invX_19 hI
  refine xcopyi E hs hQ hml hl.1 74 (by decide) 19 (by decide) c36 c38 q761 (by decide) (by decide) (by decide) (Nat.le_of_ble_eq_true rfl) (Nat.le_of_ble_eq_true rfl) (Nat.le_of_ble_eq_true rfl) (Nat.le_of_ble_eq_true rfl) dX0_copyFrom_50 (fun H locs S40 eS40 hQ => ?_)
  have hI := invX_up_19 hI eS40 ⟨_, rfl, cpy_b b15 b39⟩
  have b42 : ∀ j, Bd ((va_cpy f13 f37 (0 : Int32).toNatClampNeg (0 : Int32).toNatClampNeg (40 : Int32).toNatClampNeg) j) (0) (400) := cpy_b b15 b39
  have c41 : S40 19 = .inl (g.2 0, 40, .inl (va_cpy f13 f37 (0 : Int32).toNatClampNeg (0 : Int32).toNatClampNeg (40 : Int32).toNatClampNeg)) := up_at eS40 rfl
  have q43 : fld (S 71) 0 = v1.toInt := fld_of c3 rfl
  have c44 : S40 16 = .inr (0, [.int v1, .ref (ad 17), .ref (ad 18), .ref (ad 19)]) := (up_ne eS40 (by decide) c35)
  have q45 : fld (S40 16) 0 = v1.toInt := fld_of c44 rfl
  have c46 : S40 17 = .inl (g.2 0, 40, .inl (va_cpy f7 f20 (0 : Int32).toNatClampNeg (0 : Int32).toNatClampNeg (40 : Int32).toNatClampNeg)) := (up_ne eS40 (by decide) (up_ne eS31 (by decide) c24))
  have c47 : S40 18 = .inl (g.2 0, 40, .inl (va_cpy f10 f28 (0 : Int32).toNatClampNeg (0 : Int32).toNatClampNeg (40 : Int32).toNatClampNeg)) := (up_ne eS40 (by decide) c32)
  exact xrv E hr hlk hQ (⟨hI, (up_o (up_o (up_o (up_o o_refl eS16 (by decide)) eS23 (by decide)) eS31 (by decide)) eS40 (by decide)), ⟨by omega, by omega⟩, (ar_cpy c3 rfl c8 c11 c14 hAR57 (b2).2 c44 rfl c46 c47 c41)⟩) dX0_copyFrom_53
set_option maxHeartbeats 4000000 in
set_option maxRecDepth 100000 in
theorem gX6_copyFrom_10_65 (l : Launch) (g : GG) (ad : Nat → Nat) (hD : Dj ad 122) (S : SS) (hI : InvX g ad S) : Met l yX6_copyFrom (wG (.code yX6_copyFrom cX6_copyFrom 2 none)) (Rm 1) (XPre g ad 122 S [.ref (ad 10), .ref (ad 65)]) (va_Qv (fun S' => InvX g ad S' ∧ (∀ j, j ∉ ([10, 11, 12, 13, 14] : List Nat) → S' j = S j)) (QB g ad 122) (FA ad 122)) 0 0 (FA ad 122) := by
  refine xmet cX6_copyFrom "EbbWreck$RuleBook" (by decide) rfl (Nat.le_of_ble_eq_true rfl) (fun p e s m below meth c E hr hlk hml hQ ls hl => ?_)
  have hx := E.1
  have hb := E.2.1
  have hs : Sp ad 122 (FA ad 122) := Sp.fa hD
  have hl : lv_has ls 2 [(0, .ref (ad 10)), (1, .ref (ad 65))] := hl
  refine lv_aload_n hx hb dX6_copyFrom_0 rfl (lv_at hl 0 rfl) ?_
  refine lv_aload_n hx hb dX6_copyFrom_1 rfl (lv_at hl 1 rfl) ?_
  obtain ⟨v1, c3, b2⟩ := invX_65 hI
  have c3 : S 65 = .inr (6, [.int v1, .ref (ad 66), .ref (ad 67), .ref (ad 68), .ref (ad 69)]) := c3
  refine xget E hQ 65 (by decide) c3 rfl 0 (by decide) q186 rfl dX6_copyFrom_2 ?_
  obtain ⟨v4, c6, b5⟩ := invX_10 hI
  have c6 : S 10 = .inr (6, [.int v4, .ref (ad 11), .ref (ad 12), .ref (ad 13), .ref (ad 14)]) := c6
  refine xputi E hs hQ 10 (by decide) c6 rfl 0 (by decide) q186 rfl rfl (Nat.le_of_ble_eq_true rfl) dX6_copyFrom_5 (fun H locs S7 eS7 hQ => ?_)
  have hI := invX_up_10 hI eS7 ⟨v1, rfl, b2⟩
  have c8 : S7 10 = .inr (6, [.int v1, .ref (ad 11), .ref (ad 12), .ref (ad 13), .ref (ad 14)]) := up_at eS7 rfl
  refine lv_aload_n hx hb dX6_copyFrom_8 rfl (lv_at hl 1 rfl) ?_
  have c9 : S7 65 = .inr (6, [.int v1, .ref (ad 66), .ref (ad 67), .ref (ad 68), .ref (ad 69)]) := (up_ne eS7 (by decide) c3)
  refine xget E hQ 65 (by decide) c9 rfl 1 (by decide) q189 rfl dX6_copyFrom_9 ?_
  refine lv_iconst (v := 0) hx hb dX6_copyFrom_12 (by decide) ?_
  refine lv_aload_n hx hb dX6_copyFrom_13 rfl (lv_at hl 0 rfl) ?_
  refine xget E hQ 10 (by decide) c8 rfl 1 (by decide) q189 rfl dX6_copyFrom_14 ?_
  refine lv_iconst (v := 0) hx hb dX6_copyFrom_17 (by decide) ?_
  refine lv_bipush (v := 6) hx hb dX6_copyFrom_18 (by decide) ?_
  obtain ⟨f10, c11⟩ := invX_66 hI
  obtain ⟨f13, c14⟩ := invX_11 hI
  refine xcopyi E hs hQ hml hl.1 66 (by decide) 11 (by decide) c11 c14 q756 (by decide) (by decide) (by decide) (Nat.le_of_ble_eq_true rfl) (Nat.le_of_ble_eq_true rfl) (Nat.le_of_ble_eq_true rfl) (Nat.le_of_ble_eq_true rfl) dX6_copyFrom_20 (fun H locs S16 eS16 hQ => ?_)
  have hI := invX_up_11 hI eS16 ⟨_, rfl⟩
  have c17 : S16 11 = .inl (g.2 0, 6, .inl (va_cpy f10 f13 (0 : Int32).toNatClampNeg (0 : Int32).toNatClampNeg (6 : Int32).toNatClampNeg)) := up_at eS16 rfl
  refine lv_aload_n hx hb dX6_copyFrom_23 rfl (lv_at hl 1 rfl) ?_
  have c18 : S16 65 = .inr (6, [.int v1, .ref (ad 66), .ref (ad 67), .ref (ad 68), .ref (ad 69)]) := (up_ne eS16 (by decide) c9)
  refine xget E hQ 65 (by decide) c18 rfl 2 (by decide) q191 rfl dX6_copyFrom_24 ?_
  refine lv_iconst (v := 0) hx hb dX6_copyFrom_27 (by decide) ?_
  refine lv_aload_n hx hb dX6_copyFrom_28 rfl (lv_at hl 0 rfl) ?_
  have c19 : S16 10 = .inr (6, [.int v1, .ref (ad 11), .ref (ad 12), .ref (ad 13), .ref (ad 14)]) := (up_ne eS16 (by decide) c8)
  refine xget E hQ 10 (by decide) c19 rfl 2 (by decide) q191 rfl dX6_copyFrom_29 ?_
  refine lv_iconst (v := 0) hx hb dX6_copyFrom_32 (by decide) ?_
  refine lv_bipush (v := 6) hx hb dX6_copyFrom_33 (by decide) ?_
  obtain ⟨f20, c21⟩ := invX_67 hI
  obtain ⟨f23, c24⟩ := invX_12 hI
  refine xcopyi E hs hQ hml hl.1 67 (by decide) 12 (by decide) c21 c24 q756 (by decide) (by decide) (by decide) (Nat.le_of_ble_eq_true rfl) (Nat.le_of_ble_eq_true rfl) (Nat.le_of_ble_eq_true rfl) (Nat.le_of_ble_eq_true rfl) dX6_copyFrom_35 (fun H locs S26 eS26 hQ => ?_)
  have hI := invX_up_12 hI eS26 ⟨_, rfl⟩
  have c27 : S26 12 = .inl (g.2 0, 6, .inl (va_cpy f20 f23 (0 : Int32).toNatClampNeg (0 : Int32).toNatClampNeg (6 : Int32).toNatClampNeg)) := up_at eS26 rfl
  refine lv_aload_n hx hb dX6_copyFrom_38 rfl (lv_at hl 1 rfl) ?_
  have c28 : S26 65 = .inr (6, [.int v1, .ref (ad 66), .ref (ad 67), .ref (ad 68), .ref (ad 69)]) := (up_ne eS26 (by decide) c18)
  refine xget E hQ 65 (by decide) c28 rfl 3 (by decide) q193 rfl dX6_copyFrom_39 ?_
  refine lv_iconst (v := 0) hx hb dX6_copyFrom_42 (by decide) ?_
  refine lv_aload_n hx hb dX6_copyFrom_43 rfl (lv_at hl 0 rfl) ?_
  have c29 : S26 10 = .inr (6, [.int v1, .ref (ad 11), .ref (ad 12), .ref (ad 13), .ref (ad 14)]) := (up_ne eS26 (by decide) c19)
  refine xget E hQ 10 (by decide) c29 rfl 3 (by decide) q193 rfl dX6_copyFrom_44 ?_
  refine lv_iconst (v := 0) hx hb dX6_copyFrom_47 (by decide) ?_
  refine lv_bipush (v := 6) hx hb dX6_copyFrom_48 (by decide) ?_
  obtain ⟨f30, c31⟩ := invX_68 hI
  obtain ⟨f33, c34⟩ := invX_13 hI
  refine xcopyi E hs hQ hml hl.1 68 (by decide) 13 (by decide) c31 c34 q756 (by decide) (by decide) (by decide) (Nat.le_of_ble_eq_true rfl) (Nat.le_of_ble_eq_true rfl) (Nat.le_of_ble_eq_true rfl) (Nat.le_of_ble_eq_true rfl) dX6_copyFrom_50 (fun H locs S36 eS36 hQ => ?_)
  have hI := invX_up_13 hI eS36 ⟨_, rfl⟩
  have c37 : S36 13 = .inl (g.2 0, 6, .inl (va_cpy f30 f33 (0 : Int32).toNatClampNeg (0 : Int32).toNatClampNeg (6 : Int32).toNatClampNeg)) := up_at eS36 rfl
  refine lv_aload_n hx hb dX6_copyFrom_53 rfl (lv_at hl 1 rfl) ?_
  have c38 : S36 65 = .inr (6, [.int v1, .ref (ad 66), .ref (ad 67), .ref (ad 68), .ref (ad 69)]) := (up_ne eS36 (by decide) c28)
  refine xget E hQ 65 (by decide) c38 rfl 4 (by decide) q195 rfl dX6_copyFrom_54 ?_
  refine lv_iconst (v := 0) hx hb dX6_copyFrom_57 (by decide) ?_
  refine lv_aload_n hx hb dX6_copyFrom_58 rfl (lv_at hl 0 rfl) ?_
  have c39 : S36 10 = .inr (6, [.int v1, .ref (ad 11), .ref (ad 12), .ref (ad 13), .ref (ad 14)]) := (up_ne eS36 (by decide) c29)
  refine xget E hQ 10 (by decide) c39 rfl 4 (by decide) q195 rfl dX6_copyFrom_59 ?_
  refine lv_iconst (v := 0) hx hb dX6_copyFrom_62 (by decide) ?_
  refine lv_bipush (v := 6) hx hb dX6_copyFrom_63 (by decide) ?_
  obtain ⟨f40, c41⟩ := invX_69 hI
  obtain ⟨f43, c44⟩ := invX_14 hI
  refine xcopyi E hs hQ hml hl.1 69 (by decide) 14 (by decide) c41 c44 q756 (by decide) (by decide) (by decide) (Nat.le_of_ble_eq_true rfl) (Nat.le_of_ble_eq_true rfl) (Nat.le_of_ble_eq_true rfl) (Nat.le_of_ble_eq_true rfl) dX6_copyFrom_65 (fun H locs S46 eS46 hQ => ?_)
  have hI := invX_up_14 hI eS46 ⟨_, rfl⟩
  have c47 : S46 14 = .inl (g.2 0, 6, .inl (va_cpy f40 f43 (0 : Int32).toNatClampNeg (0 : Int32).toNatClampNeg (6 : Int32).toNatClampNeg)) := up_at eS46 rfl
  exact xrv E hr hlk hQ (⟨hI, (up_o (up_o (up_o (up_o (up_o o_refl eS7 (by decide)) eS16 (by decide)) eS26 (by decide)) eS36 (by decide)) eS46 (by decide))⟩) dX6_copyFrom_68
set_option maxHeartbeats 4000000 in
set_option maxRecDepth 100000 in
theorem gX1_copyFrom_2_57 (l : Launch) (g : GG) (ad : Nat → Nat) (hD : Dj ad 122) (S : SS) (hI : InvX g ad S) (hAR57 : ARp (S 71) (S 72) (S 73) (S 74)) : Met l yX1_copyFrom (wG (.code yX1_copyFrom cX1_copyFrom 2 none)) (Rm 2) (XPre g ad 122 S [.ref (ad 2), .ref (ad 57)]) (va_Qv (fun S' => InvX g ad S' ∧ (∀ j, j ∉ ([2, 3, 4, 5, 6, 7, 8, 9, 10, 11, 12, 13, 14, 15, 16, 17, 18, 19] : List Nat) → S' j = S j) ∧ (0 ≤ fld (S 57) 0 + (-1) * fld (S' 2) 0 ∧ 0 ≤ fld (S' 2) 0 + (-1) * fld (S 57) 0) ∧ (0 ≤ fld (S 57) 1 + (-1) * fld (S' 2) 1 ∧ 0 ≤ fld (S' 2) 1 + (-1) * fld (S 57) 1) ∧ (0 ≤ fld (S 57) 7 + (-1) * fld (S' 2) 7 ∧ 0 ≤ fld (S' 2) 7 + (-1) * fld (S 57) 7) ∧ (0 ≤ fld (S 57) 12 + (-1) * fld (S' 2) 12 ∧ 0 ≤ fld (S' 2) 12 + (-1) * fld (S 57) 12) ∧ (ARp (S' 16) (S' 17) (S' 18) (S' 19))) (QB g ad 122) (FA ad 122)) 0 0 (FA ad 122) := by
  refine xmet cX1_copyFrom "EbbWreck$Coast" (by decide) rfl (Nat.le_of_ble_eq_true rfl) (fun p e s m below meth c E hr hlk hml hQ ls hl => ?_)
  have hx := E.1
  have hb := E.2.1
  have hs : Sp ad 122 (FA ad 122) := Sp.fa hD
  have hl : lv_has ls 2 [(0, .ref (ad 2)), (1, .ref (ad 57))] := hl
  obtain ⟨v1, v3, v5, v6, v7, v9, c11, b2, b4, b8, b10⟩ := invX_57 hI
  have c11 : S 57 = .inr (1, [.int v1, .int v3, .int v5, .ref (ad 58), .ref (ad 60), .ref (ad 61), .int v6, .int v7, .ref (ad 62), .ref (ad 63), .ref (ad 64), .ref (ad 65), .int v9, .ref (ad 70), .ref (ad 71)]) := c11
  obtain ⟨v12, v14, v16, v17, v18, v20, c22, b13, b15, b19, b21⟩ := invX_2 hI
  have c22 : S 2 = .inr (1, [.int v12, .int v14, .int v16, .ref (ad 3), .ref (ad 5), .ref (ad 6), .int v17, .int v18, .ref (ad 7), .ref (ad 8), .ref (ad 9), .ref (ad 10), .int v20, .ref (ad 15), .ref (ad 16)]) := c22
  obtain ⟨v23, c25, b24⟩ := invX_71 hI
  have c25 : S 71 = .inr (0, [.int v23, .ref (ad 72), .ref (ad 73), .ref (ad 74)]) := c25
  obtain ⟨f26, c27⟩ := invX_72 hI
  obtain ⟨f29, c30, b31⟩ := invX_73 hI
  obtain ⟨f32, c33, b34⟩ := invX_74 hI
  refine lv_aload_n hx hb dX1_copyFrom_0 rfl (lv_at hl 0 rfl) ?_
  refine lv_aload_n hx hb dX1_copyFrom_1 rfl (lv_at hl 1 rfl) ?_
  refine xget E hQ 57 (by decide) c11 rfl 0 (by decide) q236 rfl dX1_copyFrom_2 ?_
  refine xputi E hs hQ 2 (by decide) c22 rfl 0 (by decide) q236 rfl rfl (Nat.le_of_ble_eq_true rfl) dX1_copyFrom_5 (fun H locs S35 eS35 hQ => ?_)
  have hI := invX_up_2 hI eS35 ⟨v1, v14, v16, v17, v18, v20, rfl, b2, b15, b19, b21⟩
  have c36 : S35 2 = .inr (1, [.int v1, .int v14, .int v16, .ref (ad 3), .ref (ad 5), .ref (ad 6), .int v17, .int v18, .ref (ad 7), .ref (ad 8), .ref (ad 9), .ref (ad 10), .int v20, .ref (ad 15), .ref (ad 16)]) := up_at eS35 rfl
  refine lv_aload_n hx hb dX1_copyFrom_8 rfl (lv_at hl 0 rfl) ?_
  refine lv_aload_n hx hb dX1_copyFrom_9 rfl (lv_at hl 1 rfl) ?_
  have c37 : S35 57 = .inr (1, [.int v1, .int v3, .int v5, .ref (ad 58), .ref (ad 60), .ref (ad 61), .int v6, .int v7, .ref (ad 62), .ref (ad 63), .ref (ad 64), .ref (ad 65), .int v9, .ref (ad 70), .ref (ad 71)]) := (up_ne eS35 (by decide) c11)
  refine xget E hQ 57 (by decide) c37 rfl 1 (by decide) q239 rfl dX1_copyFrom_10 ?_
  refine xputi E hs hQ 2 (by decide) c36 rfl 1 (by decide) q239 rfl rfl (Nat.le_of_ble_eq_true rfl) dX1_copyFrom_13 (fun H locs S38 eS38 hQ => ?_)
  have hI := invX_up_2 hI eS38 ⟨v1, v3, v16, v17, v18, v20, rfl, b2, b4, b19, b21⟩
  have c39 : S38 2 = .inr (1, [.int v1, .int v3, .int v16, .ref (ad 3), .ref (ad 5), .ref (ad 6), .int v17, .int v18, .ref (ad 7), .ref (ad 8), .ref (ad 9), .ref (ad 10), .int v20, .ref (ad 15), .ref (ad 16)]) := up_at eS38 rfl
  refine lv_aload_n hx hb dX1_copyFrom_16 rfl (lv_at hl 0 rfl) ?_
  refine lv_aload_n hx hb dX1_copyFrom_17 rfl (lv_at hl 1 rfl) ?_
  have c40 : S38 57 = .inr (1, [.int v1, .int v3, .int v5, .ref (ad 58), .ref (ad 60), .ref (ad 61), .int v6, .int v7, .ref (ad 62), .ref (ad 63), .ref (ad 64), .ref (ad 65), .int v9, .ref (ad 70), .ref (ad 71)]) := (up_ne eS38 (by decide) c37)
  refine xget E hQ 57 (by decide) c40 rfl 2 (by decide) q247 rfl dX1_copyFrom_18 ?_
  refine xputi E hs hQ 2 (by decide) c39 rfl 2 (by decide) q247 rfl rfl (Nat.le_of_ble_eq_true rfl) dX1_copyFrom_21 (fun H locs S41 eS41 hQ => ?_)
  have hI := invX_up_2 hI eS41 ⟨v1, v3, v5, v17, v18, v20, rfl, b2, b4, b19, b21⟩
  have c42 : S41 2 = .inr (1, [.int v1, .int v3, .int v5, .ref (ad 3), .ref (ad 5), .ref (ad 6), .int v17, .int v18, .ref (ad 7), .ref (ad 8), .ref (ad 9), .ref (ad 10), .int v20, .ref (ad 15), .ref (ad 16)]) := up_at eS41 rfl
  refine lv_aload_n hx hb dX1_copyFrom_24 rfl (lv_at hl 0 rfl) ?_
  refine xget E hQ 2 (by decide) c42 rfl 3 (by decide) q251 rfl dX1_copyFrom_25 ?_
  refine lv_aload_n hx hb dX1_copyFrom_28 rfl (lv_at hl 1 rfl) ?_
  have c43 : S41 57 = .inr (1, [.int v1, .int v3, .int v5, .ref (ad 58), .ref (ad 60), .ref (ad 61), .int v6, .int v7, .ref (ad 62), .ref (ad 63), .ref (ad 64), .ref (ad 65), .int v9, .ref (ad 70), .ref (ad 71)]) := (up_ne eS41 (by decide) c40)
  refine xget E hQ 57 (by decide) c43 rfl 3 (by decide) q251 rfl dX1_copyFrom_29 ?_
  obtain ⟨v44, v46, v48, v50, c52, b45, b47, b49, b51⟩ := invX_58 hI
  have c52 : S41 58 = .inr (10, [.int v44, .int v46, .int v48, .int v50, .ref (ad 59)]) := c52
  refine xget E hQ 58 (by decide) c52 rfl 0 (by decide) q156 rfl dX1_copyFrom_32 ?_
  refine lv_aload_n hx hb dX1_copyFrom_35 rfl (lv_at hl 1 rfl) ?_
  refine xget E hQ 57 (by decide) c43 rfl 3 (by decide) q251 rfl dX1_copyFrom_36 ?_
  refine xget E hQ 58 (by decide) c52 rfl 1 (by decide) q159 rfl dX1_copyFrom_39 ?_
  refine lv_aload_n hx hb dX1_copyFrom_42 rfl (lv_at hl 1 rfl) ?_
  refine xget E hQ 57 (by decide) c43 rfl 3 (by decide) q251 rfl dX1_copyFrom_43 ?_
  refine xget E hQ 58 (by decide) c52 rfl 2 (by decide) q162 rfl dX1_copyFrom_46 ?_
  obtain ⟨v54, v56, v58, v60, c62, b55, b57, b59, b61⟩ := invX_3 hI
  have c62 : S41 3 = .inr (10, [.int v54, .int v56, .int v58, .int v60, .ref (ad 4)]) := c62
  refine xcVv E hs hQ hml hl.1 3 (gX10_tell_3 l g ad hD S41 hI v44 v46 v48 b45 b47 b49) mX10_tell q592 (by decide) c62 rfl rfl ⟨(Nat.le_of_ble_eq_true rfl), (Nat.le_of_ble_eq_true rfl)⟩ ⟨(Nat.le_of_ble_eq_true rfl), (Nat.le_of_ble_eq_true rfl)⟩ (Nat.le_of_ble_eq_true rfl) rfl dX1_copyFrom_49 (fun S53 H locs hp53 hQ _ => ?_)
  obtain ⟨hI, o53⟩ := hp53
  refine lv_aload_n hx hb dX1_copyFrom_52 rfl (lv_at hl 1 rfl) ?_
  have c63 : S53 57 = .inr (1, [.int v1, .int v3, .int v5, .ref (ad 58), .ref (ad 60), .ref (ad 61), .int v6, .int v7, .ref (ad 62), .ref (ad 63), .ref (ad 64), .ref (ad 65), .int v9, .ref (ad 70), .ref (ad 71)]) := ((o53 57 (by decide)).trans c43)
  refine xget E hQ 57 (by decide) c63 rfl 4 (by decide) q257 rfl dX1_copyFrom_53 ?_
  refine lv_iconst (v := 0) hx hb dX1_copyFrom_56 (by decide) ?_
  refine lv_aload_n hx hb dX1_copyFrom_57 rfl (lv_at hl 0 rfl) ?_
  have c64 : S53 2 = .inr (1, [.int v1, .int v3, .int v5, .ref (ad 3), .ref (ad 5), .ref (ad 6), .int v17, .int v18, .ref (ad 7), .ref (ad 8), .ref (ad 9), .ref (ad 10), .int v20, .ref (ad 15), .ref (ad 16)]) := ((o53 2 (by decide)).trans c42)
  refine xget E hQ 2 (by decide) c64 rfl 4 (by decide) q257 rfl dX1_copyFrom_58 ?_
  refine lv_iconst (v := 0) hx hb dX1_copyFrom_61 (by decide) ?_
  refine lv_bipush (v := 12) hx hb dX1_copyFrom_62 (by decide) ?_
  obtain ⟨f65, c66⟩ := invX_60 hI
  obtain ⟨f68, c69⟩ := invX_5 hI
  refine xcopyi E hs hQ hml hl.1 60 (by decide) 5 (by decide) c66 c69 q749 (by decide) (by decide) (by decide) (Nat.le_of_ble_eq_true rfl) (Nat.le_of_ble_eq_true rfl) (Nat.le_of_ble_eq_true rfl) (Nat.le_of_ble_eq_true rfl) dX1_copyFrom_64 (fun H locs S71 eS71 hQ => ?_)
  have hI := invX_up_5 hI eS71 ⟨_, rfl⟩
  have c72 : S71 5 = .inl (g.2 0, 12, .inl (va_cpy f65 f68 (0 : Int32).toNatClampNeg (0 : Int32).toNatClampNeg (12 : Int32).toNatClampNeg)) := up_at eS71 rfl
  refine lv_aload_n hx hb dX1_copyFrom_67 rfl (lv_at hl 1 rfl) ?_
  have c73 : S71 57 = .inr (1, [.int v1, .int v3, .int v5, .ref (ad 58), .ref (ad 60), .ref (ad 61), .int v6, .int v7, .ref (ad 62), .ref (ad 63), .ref (ad 64), .ref (ad 65), .int v9, .ref (ad 70), .ref (ad 71)]) := (up_ne eS71 (by decide) c63)
  refine xget E hQ 57 (by decide) c73 rfl 5 (by decide) q260 rfl dX1_copyFrom_68 ?_
  refine lv_iconst (v := 0) hx hb dX1_copyFrom_71 (by decide) ?_
  refine lv_aload_n hx hb dX1_copyFrom_72 rfl (lv_at hl 0 rfl) ?_
  have c74 : S71 2 = .inr (1, [.int v1, .int v3, .int v5, .ref (ad 3), .ref (ad 5), .ref (ad 6), .int v17, .int v18, .ref (ad 7), .ref (ad 8), .ref (ad 9), .ref (ad 10), .int v20, .ref (ad 15), .ref (ad 16)]) := (up_ne eS71 (by decide) c64)
  refine xget E hQ 2 (by decide) c74 rfl 5 (by decide) q260 rfl dX1_copyFrom_73 ?_
  refine lv_iconst (v := 0) hx hb dX1_copyFrom_76 (by decide) ?_
  refine lv_bipush (v := 12) hx hb dX1_copyFrom_77 (by decide) ?_
  obtain ⟨f75, c76⟩ := invX_61 hI
  obtain ⟨f78, c79⟩ := invX_6 hI
  refine xcopyi E hs hQ hml hl.1 61 (by decide) 6 (by decide) c76 c79 q749 (by decide) (by decide) (by decide) (Nat.le_of_ble_eq_true rfl) (Nat.le_of_ble_eq_true rfl) (Nat.le_of_ble_eq_true rfl) (Nat.le_of_ble_eq_true rfl) dX1_copyFrom_79 (fun H locs S81 eS81 hQ => ?_)
  have hI := invX_up_6 hI eS81 ⟨_, rfl⟩
  have c82 : S81 6 = .inl (g.2 0, 12, .inl (va_cpy f75 f78 (0 : Int32).toNatClampNeg (0 : Int32).toNatClampNeg (12 : Int32).toNatClampNeg)) := up_at eS81 rfl
  refine lv_aload_n hx hb dX1_copyFrom_82 rfl (lv_at hl 0 rfl) ?_
  refine lv_aload_n hx hb dX1_copyFrom_83 rfl (lv_at hl 1 rfl) ?_
  have c83 : S81 57 = .inr (1, [.int v1, .int v3, .int v5, .ref (ad 58), .ref (ad 60), .ref (ad 61), .int v6, .int v7, .ref (ad 62), .ref (ad 63), .ref (ad 64), .ref (ad 65), .int v9, .ref (ad 70), .ref (ad 71)]) := (up_ne eS81 (by decide) c73)
  refine xget E hQ 57 (by decide) c83 rfl 6 (by decide) q263 rfl dX1_copyFrom_84 ?_
  have c84 : S81 2 = .inr (1, [.int v1, .int v3, .int v5, .ref (ad 3), .ref (ad 5), .ref (ad 6), .int v17, .int v18, .ref (ad 7), .ref (ad 8), .ref (ad 9), .ref (ad 10), .int v20, .ref (ad 15), .ref (ad 16)]) := (up_ne eS81 (by decide) c74)
  refine xputi E hs hQ 2 (by decide) c84 rfl 6 (by decide) q263 rfl rfl (Nat.le_of_ble_eq_true rfl) dX1_copyFrom_87 (fun H locs S85 eS85 hQ => ?_)
  have hI := invX_up_2 hI eS85 ⟨v1, v3, v5, v6, v18, v20, rfl, b2, b4, b19, b21⟩
  have c86 : S85 2 = .inr (1, [.int v1, .int v3, .int v5, .ref (ad 3), .ref (ad 5), .ref (ad 6), .int v6, .int v18, .ref (ad 7), .ref (ad 8), .ref (ad 9), .ref (ad 10), .int v20, .ref (ad 15), .ref (ad 16)]) := up_at eS85 rfl
  refine lv_aload_n hx hb dX1_copyFrom_90 rfl (lv_at hl 0 rfl) ?_
  refine lv_aload_n hx hb dX1_copyFrom_91 rfl (lv_at hl 1 rfl) ?_
  have c87 : S85 57 = .inr (1, [.int v1, .int v3, .int v5, .ref (ad 58), .ref (ad 60), .ref (ad 61), .int v6, .int v7, .ref (ad 62), .ref (ad 63), .ref (ad 64), .ref (ad 65), .int v9, .ref (ad 70), .ref (ad 71)]) := (up_ne eS85 (by decide) c83)
  refine xget E hQ 57 (by decide) c87 rfl 7 (by decide) q270 rfl dX1_copyFrom_92 ?_
  refine xputi E hs hQ 2 (by decide) c86 rfl 7 (by decide) q270 rfl rfl (Nat.le_of_ble_eq_true rfl) dX1_copyFrom_95 (fun H locs S88 eS88 hQ => ?_)
  have hI := invX_up_2 hI eS88 ⟨v1, v3, v5, v6, v7, v20, rfl, b2, b4, b8, b21⟩
  have c89 : S88 2 = .inr (1, [.int v1, .int v3, .int v5, .ref (ad 3), .ref (ad 5), .ref (ad 6), .int v6, .int v7, .ref (ad 7), .ref (ad 8), .ref (ad 9), .ref (ad 10), .int v20, .ref (ad 15), .ref (ad 16)]) := up_at eS88 rfl
  refine lv_aload_n hx hb dX1_copyFrom_98 rfl (lv_at hl 1 rfl) ?_
  have c90 : S88 57 = .inr (1, [.int v1, .int v3, .int v5, .ref (ad 58), .ref (ad 60), .ref (ad 61), .int v6, .int v7, .ref (ad 62), .ref (ad 63), .ref (ad 64), .ref (ad 65), .int v9, .ref (ad 70), .ref (ad 71)]) := (up_ne eS88 (by decide) c87)
  refine xget E hQ 57 (by decide) c90 rfl 8 (by decide) q274 rfl dX1_copyFrom_99 ?_
  refine lv_iconst (v := 0) hx hb dX1_copyFrom_102 (by decide) ?_
  refine lv_aload_n hx hb dX1_copyFrom_103 rfl (lv_at hl 0 rfl) ?_
  refine xget E hQ 2 (by decide) c89 rfl 8 (by decide) q274 rfl dX1_copyFrom_104 ?_
  refine lv_iconst (v := 0) hx hb dX1_copyFrom_107 (by decide) ?_
  refine lv_bipush (v := 8) hx hb dX1_copyFrom_108 (by decide) ?_
  obtain ⟨f91, c92⟩ := invX_62 hI
  obtain ⟨f94, c95⟩ := invX_7 hI
  refine xcopyi E hs hQ hml hl.1 62 (by decide) 7 (by decide) c92 c95 q749 (by decide) (by decide) (by decide) (Nat.le_of_ble_eq_true rfl) (Nat.le_of_ble_eq_true rfl) (Nat.le_of_ble_eq_true rfl) (Nat.le_of_ble_eq_true rfl) dX1_copyFrom_110 (fun H locs S97 eS97 hQ => ?_)
  have hI := invX_up_7 hI eS97 ⟨_, rfl⟩
  have c98 : S97 7 = .inl (g.2 0, 8, .inl (va_cpy f91 f94 (0 : Int32).toNatClampNeg (0 : Int32).toNatClampNeg (8 : Int32).toNatClampNeg)) := up_at eS97 rfl
  refine lv_aload_n hx hb dX1_copyFrom_113 rfl (lv_at hl 1 rfl) ?_
  have c99 : S97 57 = .inr (1, [.int v1, .int v3, .int v5, .ref (ad 58), .ref (ad 60), .ref (ad 61), .int v6, .int v7, .ref (ad 62), .ref (ad 63), .ref (ad 64), .ref (ad 65), .int v9, .ref (ad 70), .ref (ad 71)]) := (up_ne eS97 (by decide) c90)
  refine xget E hQ 57 (by decide) c99 rfl 9 (by decide) q279 rfl dX1_copyFrom_114 ?_
  refine lv_iconst (v := 0) hx hb dX1_copyFrom_117 (by decide) ?_
  refine lv_aload_n hx hb dX1_copyFrom_118 rfl (lv_at hl 0 rfl) ?_
  have c100 : S97 2 = .inr (1, [.int v1, .int v3, .int v5, .ref (ad 3), .ref (ad 5), .ref (ad 6), .int v6, .int v7, .ref (ad 7), .ref (ad 8), .ref (ad 9), .ref (ad 10), .int v20, .ref (ad 15), .ref (ad 16)]) := (up_ne eS97 (by decide) c89)
  refine xget E hQ 2 (by decide) c100 rfl 9 (by decide) q279 rfl dX1_copyFrom_119 ?_
  refine lv_iconst (v := 0) hx hb dX1_copyFrom_122 (by decide) ?_
  refine lv_bipush (v := 8) hx hb dX1_copyFrom_123 (by decide) ?_
  obtain ⟨f101, c102, b103⟩ := invX_63 hI
  obtain ⟨f104, c105, b106⟩ := invX_8 hI
  refine xcopyi E hs hQ hml hl.1 63 (by decide) 8 (by decide) c102 c105 q749 (by decide) (by decide) (by decide) (Nat.le_of_ble_eq_true rfl) (Nat.le_of_ble_eq_true rfl) (Nat.le_of_ble_eq_true rfl) (Nat.le_of_ble_eq_true rfl) dX1_copyFrom_125 (fun H locs S107 eS107 hQ => ?_)
  have hI := invX_up_8 hI eS107 ⟨_, rfl, cpy_b b103 b106⟩
  have b109 : ∀ j, Bd ((va_cpy f101 f104 (0 : Int32).toNatClampNeg (0 : Int32).toNatClampNeg (8 : Int32).toNatClampNeg) j) (0) (11) := cpy_b b103 b106
  have c108 : S107 8 = .inl (g.2 0, 8, .inl (va_cpy f101 f104 (0 : Int32).toNatClampNeg (0 : Int32).toNatClampNeg (8 : Int32).toNatClampNeg)) := up_at eS107 rfl
  refine lv_aload_n hx hb dX1_copyFrom_128 rfl (lv_at hl 1 rfl) ?_
  have c110 : S107 57 = .inr (1, [.int v1, .int v3, .int v5, .ref (ad 58), .ref (ad 60), .ref (ad 61), .int v6, .int v7, .ref (ad 62), .ref (ad 63), .ref (ad 64), .ref (ad 65), .int v9, .ref (ad 70), .ref (ad 71)]) := (up_ne eS107 (by decide) c99)
  refine xget E hQ 57 (by decide) c110 rfl 10 (by decide) q284 rfl dX1_copyFrom_129 ?_
  refine lv_iconst (v := 0) hx hb dX1_copyFrom_132 (by decide) ?_
  refine lv_aload_n hx hb dX1_copyFrom_133 rfl (lv_at hl 0 rfl) ?_
  have c111 : S107 2 = .inr (1, [.int v1, .int v3, .int v5, .ref (ad 3), .ref (ad 5), .ref (ad 6), .int v6, .int v7, .ref (ad 7), .ref (ad 8), .ref (ad 9), .ref (ad 10), .int v20, .ref (ad 15), .ref (ad 16)]) := (up_ne eS107 (by decide) c100)
  refine xget E hQ 2 (by decide) c111 rfl 10 (by decide) q284 rfl dX1_copyFrom_134 ?_
  refine lv_iconst (v := 0) hx hb dX1_copyFrom_137 (by decide) ?_
  refine lv_bipush (v := 8) hx hb dX1_copyFrom_138 (by decide) ?_
  obtain ⟨f112, c113, b114⟩ := invX_64 hI
  obtain ⟨f115, c116, b117⟩ := invX_9 hI
  refine xcopyi E hs hQ hml hl.1 64 (by decide) 9 (by decide) c113 c116 q749 (by decide) (by decide) (by decide) (Nat.le_of_ble_eq_true rfl) (Nat.le_of_ble_eq_true rfl) (Nat.le_of_ble_eq_true rfl) (Nat.le_of_ble_eq_true rfl) dX1_copyFrom_140 (fun H locs S118 eS118 hQ => ?_)
  have hI := invX_up_9 hI eS118 ⟨_, rfl, cpy_b b114 b117⟩
  have b120 : ∀ j, Bd ((va_cpy f112 f115 (0 : Int32).toNatClampNeg (0 : Int32).toNatClampNeg (8 : Int32).toNatClampNeg) j) (0) (99) := cpy_b b114 b117
  have c119 : S118 9 = .inl (g.2 0, 8, .inl (va_cpy f112 f115 (0 : Int32).toNatClampNeg (0 : Int32).toNatClampNeg (8 : Int32).toNatClampNeg)) := up_at eS118 rfl
  refine lv_aload_n hx hb dX1_copyFrom_143 rfl (lv_at hl 0 rfl) ?_
  have c121 : S118 2 = .inr (1, [.int v1, .int v3, .int v5, .ref (ad 3), .ref (ad 5), .ref (ad 6), .int v6, .int v7, .ref (ad 7), .ref (ad 8), .ref (ad 9), .ref (ad 10), .int v20, .ref (ad 15), .ref (ad 16)]) := (up_ne eS118 (by decide) c111)
  refine xget E hQ 2 (by decide) c121 rfl 11 (by decide) q289 rfl dX1_copyFrom_144 ?_
  refine lv_aload_n hx hb dX1_copyFrom_147 rfl (lv_at hl 1 rfl) ?_
  have c122 : S118 57 = .inr (1, [.int v1, .int v3, .int v5, .ref (ad 58), .ref (ad 60), .ref (ad 61), .int v6, .int v7, .ref (ad 62), .ref (ad 63), .ref (ad 64), .ref (ad 65), .int v9, .ref (ad 70), .ref (ad 71)]) := (up_ne eS118 (by decide) c110)
  refine xget E hQ 57 (by decide) c122 rfl 11 (by decide) q289 rfl dX1_copyFrom_148 ?_
  obtain ⟨v124, c126, b125⟩ := invX_10 hI
  have c126 : S118 10 = .inr (6, [.int v124, .ref (ad 11), .ref (ad 12), .ref (ad 13), .ref (ad 14)]) := c126
  refine xcVv E hs hQ hml hl.1 10 (gX6_copyFrom_10_65 l g ad hD S118 hI ) mX6_copyFrom q752 (by decide) c126 rfl rfl ⟨(Nat.le_of_ble_eq_true rfl), (Nat.le_of_ble_eq_true rfl)⟩ ⟨(Nat.le_of_ble_eq_true rfl), (Nat.le_of_ble_eq_true rfl)⟩ (Nat.le_of_ble_eq_true rfl) rfl dX1_copyFrom_151 (fun S123 H locs hp123 hQ _ => ?_)
  obtain ⟨hI, o123⟩ := hp123
  refine lv_aload_n hx hb dX1_copyFrom_154 rfl (lv_at hl 0 rfl) ?_
  refine lv_aload_n hx hb dX1_copyFrom_155 rfl (lv_at hl 1 rfl) ?_
  have c127 : S123 57 = .inr (1, [.int v1, .int v3, .int v5, .ref (ad 58), .ref (ad 60), .ref (ad 61), .int v6, .int v7, .ref (ad 62), .ref (ad 63), .ref (ad 64), .ref (ad 65), .int v9, .ref (ad 70), .ref (ad 71)]) := ((o123 57 (by decide)).trans c122)
  refine xget E hQ 57 (by decide) c127 rfl 12 (by decide) q293 rfl dX1_copyFrom_156 ?_
  have c128 : S123 2 = .inr (1, [.int v1, .int v3, .int v5, .ref (ad 3), .ref (ad 5), .ref (ad 6), .int v6, .int v7, .ref (ad 7), .ref (ad 8), .ref (ad 9), .ref (ad 10), .int v20, .ref (ad 15), .ref (ad 16)]) := ((o123 2 (by decide)).trans c121)
  refine xputi E hs hQ 2 (by decide) c128 rfl 12 (by decide) q293 rfl rfl (Nat.le_of_ble_eq_true rfl) dX1_copyFrom_159 (fun H locs S129 eS129 hQ => ?_)
  have hI := invX_up_2 hI eS129 ⟨v1, v3, v5, v6, v7, v9, rfl, b2, b4, b8, b10⟩
  have c130 : S129 2 = .inr (1, [.int v1, .int v3, .int v5, .ref (ad 3), .ref (ad 5), .ref (ad 6), .int v6, .int v7, .ref (ad 7), .ref (ad 8), .ref (ad 9), .ref (ad 10), .int v9, .ref (ad 15), .ref (ad 16)]) := up_at eS129 rfl
  refine lv_aload_n hx hb dX1_copyFrom_162 rfl (lv_at hl 1 rfl) ?_
  have c131 : S129 57 = .inr (1, [.int v1, .int v3, .int v5, .ref (ad 58), .ref (ad 60), .ref (ad 61), .int v6, .int v7, .ref (ad 62), .ref (ad 63), .ref (ad 64), .ref (ad 65), .int v9, .ref (ad 70), .ref (ad 71)]) := (up_ne eS129 (by decide) c127)
  refine xget E hQ 57 (by decide) c131 rfl 13 (by decide) q297 rfl dX1_copyFrom_163 ?_
  refine lv_iconst (v := 0) hx hb dX1_copyFrom_166 (by decide) ?_
  refine lv_aload_n hx hb dX1_copyFrom_167 rfl (lv_at hl 0 rfl) ?_
  refine xget E hQ 2 (by decide) c130 rfl 13 (by decide) q297 rfl dX1_copyFrom_168 ?_
  refine lv_iconst (v := 0) hx hb dX1_copyFrom_171 (by decide) ?_
  refine lv_iconst (v := 3) hx hb dX1_copyFrom_172 (by decide) ?_
  obtain ⟨f132, c133, b134⟩ := invX_70 hI
  obtain ⟨f135, c136, b137⟩ := invX_15 hI
  refine xcopyi E hs hQ hml hl.1 70 (by decide) 15 (by decide) c133 c136 q749 (by decide) (by decide) (by decide) (Nat.le_of_ble_eq_true rfl) (Nat.le_of_ble_eq_true rfl) (Nat.le_of_ble_eq_true rfl) (Nat.le_of_ble_eq_true rfl) dX1_copyFrom_173 (fun H locs S138 eS138 hQ => ?_)
  have hI := invX_up_15 hI eS138 ⟨_, rfl, cpy_b b134 b137⟩
  have b140 : ∀ j, Bd ((va_cpy f132 f135 (0 : Int32).toNatClampNeg (0 : Int32).toNatClampNeg (3 : Int32).toNatClampNeg) j) (0) (11) := cpy_b b134 b137
  have c139 : S138 15 = .inl (g.2 0, 3, .inl (va_cpy f132 f135 (0 : Int32).toNatClampNeg (0 : Int32).toNatClampNeg (3 : Int32).toNatClampNeg)) := up_at eS138 rfl
  refine lv_aload_n hx hb dX1_copyFrom_176 rfl (lv_at hl 0 rfl) ?_
  have c141 : S138 2 = .inr (1, [.int v1, .int v3, .int v5, .ref (ad 3), .ref (ad 5), .ref (ad 6), .int v6, .int v7, .ref (ad 7), .ref (ad 8), .ref (ad 9), .ref (ad 10), .int v9, .ref (ad 15), .ref (ad 16)]) := (up_ne eS138 (by decide) c130)
  refine xget E hQ 2 (by decide) c141 rfl 14 (by decide) q301 rfl dX1_copyFrom_177 ?_
  refine lv_aload_n hx hb dX1_copyFrom_180 rfl (lv_at hl 1 rfl) ?_
  have c142 : S138 57 = .inr (1, [.int v1, .int v3, .int v5, .ref (ad 58), .ref (ad 60), .ref (ad 61), .int v6, .int v7, .ref (ad 62), .ref (ad 63), .ref (ad 64), .ref (ad 65), .int v9, .ref (ad 70), .ref (ad 71)]) := (up_ne eS138 (by decide) c131)
  refine xget E hQ 57 (by decide) c142 rfl 14 (by decide) q301 rfl dX1_copyFrom_181 ?_
  have c143 : S138 71 = .inr (0, [.int v23, .ref (ad 72), .ref (ad 73), .ref (ad 74)]) := (up_ne eS138 (by decide) (up_ne eS129 (by decide) ((o123 71 (by decide)).trans (up_ne eS118 (by decide) (up_ne eS107 (by decide) (up_ne eS97 (by decide) (up_ne eS88 (by decide) (up_ne eS85 (by decide) (up_ne eS81 (by decide) (up_ne eS71 (by decide) ((o53 71 (by decide)).trans (up_ne eS41 (by decide) (up_ne eS38 (by decide) (up_ne eS35 (by decide) c25))))))))))))))
  obtain ⟨v145, c147, b146⟩ := invX_16 hI
  have c147 : S138 16 = .inr (0, [.int v145, .ref (ad 17), .ref (ad 18), .ref (ad 19)]) := c147
  refine xcVv E hs hQ hml hl.1 16 (gX0_copyFrom_16_71 l g ad hD S138 hI (ar_tr hAR57 ((up_eq (j := 71) eS138 (by decide)).trans ((up_eq (j := 71) eS129 (by decide)).trans ((o123 71 (by decide)).trans ((up_eq (j := 71) eS118 (by decide)).trans ((up_eq (j := 71) eS107 (by decide)).trans ((up_eq (j := 71) eS97 (by decide)).trans ((up_eq (j := 71) eS88 (by decide)).trans ((up_eq (j := 71) eS85 (by decide)).trans ((up_eq (j := 71) eS81 (by decide)).trans ((up_eq (j := 71) eS71 (by decide)).trans ((o53 71 (by decide)).trans ((up_eq (j := 71) eS41 (by decide)).trans ((up_eq (j := 71) eS38 (by decide)).trans (up_eq (j := 71) eS35 (by decide))))))))))))))) ((up_eq (j := 72) eS138 (by decide)).trans ((up_eq (j := 72) eS129 (by decide)).trans ((o123 72 (by decide)).trans ((up_eq (j := 72) eS118 (by decide)).trans ((up_eq (j := 72) eS107 (by decide)).trans ((up_eq (j := 72) eS97 (by decide)).trans ((up_eq (j := 72) eS88 (by decide)).trans ((up_eq (j := 72) eS85 (by decide)).trans ((up_eq (j := 72) eS81 (by decide)).trans ((up_eq (j := 72) eS71 (by decide)).trans ((o53 72 (by decide)).trans ((up_eq (j := 72) eS41 (by decide)).trans ((up_eq (j := 72) eS38 (by decide)).trans (up_eq (j := 72) eS35 (by decide))))))))))))))) ((up_eq (j := 73) eS138 (by decide)).trans ((up_eq (j := 73) eS129 (by decide)).trans ((o123 73 (by decide)).trans ((up_eq (j := 73) eS118 (by decide)).trans ((up_eq (j := 73) eS107 (by decide)).trans ((up_eq (j := 73) eS97 (by decide)).trans ((up_eq (j := 73) eS88 (by decide)).trans ((up_eq (j := 73) eS85 (by decide)).trans ((up_eq (j := 73) eS81 (by decide)).trans ((up_eq (j := 73) eS71 (by decide)).trans ((o53 73 (by decide)).trans ((up_eq (j := 73) eS41 (by decide)).trans ((up_eq (j := 73) eS38 (by decide)).trans (up_eq (j := 73) eS35 (by decide))))))))))))))) ((up_eq (j := 74) eS138 (by decide)).trans ((up_eq (j := 74) eS129 (by decide)).trans ((o123 74 (by decide)).trans ((up_eq (j := 74) eS118 (by decide)).trans ((up_eq (j := 74) eS107 (by decide)).trans ((up_eq (j := 74) eS97 (by decide)).trans ((up_eq (j := 74) eS88 (by decide)).trans ((up_eq (j := 74) eS85 (by decide)).trans ((up_eq (j := 74) eS81 (by decide)).trans ((up_eq (j := 74) eS71 (by decide)).trans ((o53 74 (by decide)).trans ((up_eq (j := 74) eS41 (by decide)).trans ((up_eq (j := 74) eS38 (by decide)).trans (up_eq (j := 74) eS35 (by decide))))))))))))))))) mX0_copyFrom q757 (by decide) c147 rfl rfl ⟨(Nat.le_of_ble_eq_true rfl), (Nat.le_of_ble_eq_true rfl)⟩ ⟨(Nat.le_of_ble_eq_true rfl), (Nat.le_of_ble_eq_true rfl)⟩ (Nat.le_of_ble_eq_true rfl) rfl dX1_copyFrom_184 (fun S144 H locs hp144 hQ _ => ?_)
  obtain ⟨hI, o144, g144_0, u144_0⟩ := hp144
  have q148 : fld (S138 71) 0 = v23.toInt := fld_of c143 rfl
  obtain ⟨v149, c151, b150⟩ := invX_16 hI
  have c151 : S144 16 = .inr (0, [.int v149, .ref (ad 17), .ref (ad 18), .ref (ad 19)]) := c151
  have q152 : fld (S144 16) 0 = v149.toInt := fld_of c151 rfl
  have q153 : fld (S 57) 0 = v1.toInt := fld_of c11 rfl
  have c154 : S144 2 = .inr (1, [.int v1, .int v3, .int v5, .ref (ad 3), .ref (ad 5), .ref (ad 6), .int v6, .int v7, .ref (ad 7), .ref (ad 8), .ref (ad 9), .ref (ad 10), .int v9, .ref (ad 15), .ref (ad 16)]) := ((o144 2 (by decide)).trans c141)
  have q155 : fld (S144 2) 0 = v1.toInt := fld_of c154 rfl
  have q156 : fld (S 57) 1 = v3.toInt := fld_of c11 rfl
  have q157 : fld (S144 2) 1 = v3.toInt := fld_of c154 rfl
  have q158 : fld (S 57) 7 = v7.toInt := fld_of c11 rfl
  have q159 : fld (S144 2) 7 = v7.toInt := fld_of c154 rfl
  have q160 : fld (S 57) 12 = v9.toInt := fld_of c11 rfl
  have q161 : fld (S144 2) 12 = v9.toInt := fld_of c154 rfl
  exact xrv E hr hlk hQ (⟨hI, (o_trans (up_o (up_o (o_trans (up_o (up_o (up_o (up_o (up_o (up_o (up_o (o_trans (up_o (up_o (up_o o_refl eS35 (by decide)) eS38 (by decide)) eS41 (by decide)) o53 (by decide)) eS71 (by decide)) eS81 (by decide)) eS85 (by decide)) eS88 (by decide)) eS97 (by decide)) eS107 (by decide)) eS118 (by decide)) o123 (by decide)) eS129 (by decide)) eS138 (by decide)) o144 (by decide)), ⟨by omega, by omega⟩, ⟨by omega, by omega⟩, ⟨by omega, by omega⟩, ⟨by omega, by omega⟩, u144_0⟩) dX1_copyFrom_187
set_option maxHeartbeats 4000000 in
set_option maxRecDepth 100000 in
theorem gX0_copyFrom_16_89 (l : Launch) (g : GG) (ad : Nat → Nat) (hD : Dj ad 122) (S : SS) (hI : InvX g ad S) (hAR75 : ARp (S 89) (S 90) (S 91) (S 92)) : Met l yX0_copyFrom (wG (.code yX0_copyFrom cX0_copyFrom 2 none)) (Rm 1) (XPre g ad 122 S [.ref (ad 16), .ref (ad 89)]) (va_Qv (fun S' => InvX g ad S' ∧ (∀ j, j ∉ ([16, 17, 18, 19] : List Nat) → S' j = S j) ∧ (0 ≤ fld (S 89) 0 + (-1) * fld (S' 16) 0 ∧ 0 ≤ fld (S' 16) 0 + (-1) * fld (S 89) 0) ∧ (ARp (S' 16) (S' 17) (S' 18) (S' 19))) (QB g ad 122) (FA ad 122)) 0 0 (FA ad 122) := by
  refine xmet cX0_copyFrom "EbbWreck$Acts" (by decide) rfl (Nat.le_of_ble_eq_true rfl) (fun p e s m below meth c E hr hlk hml hQ ls hl => ?_)
  have hx := E.1
  have hb := E.2.1
  have hs : Sp ad 122 (FA ad 122) := Sp.fa hD
  have hl : lv_has ls 2 [(0, .ref (ad 16)), (1, .ref (ad 89))] := hl
  obtain ⟨v1, c3, b2⟩ := invX_89 hI
  have c3 : S 89 = .inr (0, [.int v1, .ref (ad 90), .ref (ad 91), .ref (ad 92)]) := c3
  obtain ⟨v4, c6, b5⟩ := invX_16 hI
  have c6 : S 16 = .inr (0, [.int v4, .ref (ad 17), .ref (ad 18), .ref (ad 19)]) := c6
  obtain ⟨f7, c8⟩ := invX_90 hI
  obtain ⟨f10, c11, b12⟩ := invX_91 hI
  obtain ⟨f13, c14, b15⟩ := invX_92 hI
  refine lv_aload_n hx hb dX0_copyFrom_0 rfl (lv_at hl 0 rfl) ?_
  refine lv_aload_n hx hb dX0_copyFrom_1 rfl (lv_at hl 1 rfl) ?_
  refine xget E hQ 89 (by decide) c3 rfl 0 (by decide) q215 rfl dX0_copyFrom_2 ?_
  refine xputi E hs hQ 16 (by decide) c6 rfl 0 (by decide) q215 rfl rfl (Nat.le_of_ble_eq_true rfl) dX0_copyFrom_5 (fun H locs S16 eS16 hQ => ?_)
  have hI := invX_up_16 hI eS16 ⟨v1, rfl, b2⟩
  have c17 : S16 16 = .inr (0, [.int v1, .ref (ad 17), .ref (ad 18), .ref (ad 19)]) := up_at eS16 rfl
  refine lv_aload_n hx hb dX0_copyFrom_8 rfl (lv_at hl 1 rfl) ?_
  have c18 : S16 89 = .inr (0, [.int v1, .ref (ad 90), .ref (ad 91), .ref (ad 92)]) := (up_ne eS16 (by decide) c3)
  refine xget E hQ 89 (by decide) c18 rfl 1 (by decide) q219 rfl dX0_copyFrom_9 ?_
  refine lv_iconst (v := 0) hx hb dX0_copyFrom_12 (by decide) ?_
  refine lv_aload_n hx hb dX0_copyFrom_13 rfl (lv_at hl 0 rfl) ?_
  refine xget E hQ 16 (by decide) c17 rfl 1 (by decide) q219 rfl dX0_copyFrom_14 ?_
  refine lv_iconst (v := 0) hx hb dX0_copyFrom_17 (by decide) ?_
  refine lv_bipush (v := 40) hx hb dX0_copyFrom_18 (by decide) ?_
  have c19 : S16 90 = .inl (g.2 0, 40, .inl f7) := (up_ne eS16 (by decide) c8)
  obtain ⟨f20, c21⟩ := invX_17 hI
  refine xcopyi E hs hQ hml hl.1 90 (by decide) 17 (by decide) c19 c21 q761 (by decide) (by decide) (by decide) (Nat.le_of_ble_eq_true rfl) (Nat.le_of_ble_eq_true rfl) (Nat.le_of_ble_eq_true rfl) (Nat.le_of_ble_eq_true rfl) dX0_copyFrom_20 (fun H locs S23 eS23 hQ => ?_)
  have hI := invX_up_17 hI eS23 ⟨_, rfl⟩
  have c24 : S23 17 = .inl (g.2 0, 40, .inl (va_cpy f7 f20 (0 : Int32).toNatClampNeg (0 : Int32).toNatClampNeg (40 : Int32).toNatClampNeg)) := up_at eS23 rfl
  refine lv_aload_n hx hb dX0_copyFrom_23 rfl (lv_at hl 1 rfl) ?_
  have c25 : S23 89 = .inr (0, [.int v1, .ref (ad 90), .ref (ad 91), .ref (ad 92)]) := (up_ne eS23 (by decide) c18)
  refine xget E hQ 89 (by decide) c25 rfl 2 (by decide) q222 rfl dX0_copyFrom_24 ?_
  refine lv_iconst (v := 0) hx hb dX0_copyFrom_27 (by decide) ?_
  refine lv_aload_n hx hb dX0_copyFrom_28 rfl (lv_at hl 0 rfl) ?_
  have c26 : S23 16 = .inr (0, [.int v1, .ref (ad 17), .ref (ad 18), .ref (ad 19)]) := (up_ne eS23 (by decide) c17)
  refine xget E hQ 16 (by decide) c26 rfl 2 (by decide) q222 rfl dX0_copyFrom_29 ?_
  refine lv_iconst (v := 0) hx hb dX0_copyFrom_32 (by decide) ?_
  refine lv_bipush (v := 40) hx hb dX0_copyFrom_33 (by decide) ?_
  have c27 : S23 91 = .inl (g.2 0, 40, .inl f10) := (up_ne eS23 (by decide) (up_ne eS16 (by decide) c11))
  obtain ⟨f28, c29, b30⟩ := invX_18 hI
  refine xcopyi E hs hQ hml hl.1 91 (by decide) 18 (by decide) c27 c29 q761 (by decide) (by decide) (by decide) (Nat.le_of_ble_eq_true rfl) (Nat.le_of_ble_eq_true rfl) (Nat.le_of_ble_eq_true rfl) (Nat.le_of_ble_eq_true rfl) dX0_copyFrom_35 (fun H locs S31 eS31 hQ => ?_)
  have hI := invX_up_18 hI eS31 ⟨_, rfl, cpy_b b12 b30⟩
  have b33 : ∀ j, Bd ((va_cpy f10 f28 (0 : Int32).toNatClampNeg (0 : Int32).toNatClampNeg (40 : Int32).toNatClampNeg) j) (0) (7) := cpy_b b12 b30
  have c32 : S31 18 = .inl (g.2 0, 40, .inl (va_cpy f10 f28 (0 : Int32).toNatClampNeg (0 : Int32).toNatClampNeg (40 : Int32).toNatClampNeg)) := up_at eS31 rfl
  refine lv_aload_n hx hb dX0_copyFrom_38 rfl (lv_at hl 1 rfl) ?_
  have c34 : S31 89 = .inr (0, [.int v1, .ref (ad 90), .ref (ad 91), .ref (ad 92)]) := (up_ne eS31 (by decide) c25)
  refine xget E hQ 89 (by decide) c34 rfl 3 (by decide) q224 rfl dX0_copyFrom_39 ?_
  refine lv_iconst (v := 0) hx hb dX0_copyFrom_42 (by decide) ?_
  refine lv_aload_n hx hb dX0_copyFrom_43 rfl (lv_at hl 0 rfl) ?_
  have c35 : S31 16 = .inr (0, [.int v1, .ref (ad 17), .ref (ad 18), .ref (ad 19)]) := (up_ne eS31 (by decide) c26)
  refine xget E hQ 16 (by decide) c35 rfl 3 (by decide) q224 rfl dX0_copyFrom_44 ?_
  refine lv_iconst (v := 0) hx hb dX0_copyFrom_47 (by decide) ?_
  refine lv_bipush (v := 40) hx hb dX0_copyFrom_48 (by decide) ?_
  have c36 : S31 92 = .inl (g.2 0, 40, .inl f13) := (up_ne eS31 (by decide) (up_ne eS23 (by decide) (up_ne eS16 (by decide) c14)))
  obtain ⟨f37, c38, b39⟩ := invX_19 hI
  refine xcopyi E hs hQ hml hl.1 92 (by decide) 19 (by decide) c36 c38 q761 (by decide) (by decide) (by decide) (Nat.le_of_ble_eq_true rfl) (Nat.le_of_ble_eq_true rfl) (Nat.le_of_ble_eq_true rfl) (Nat.le_of_ble_eq_true rfl) dX0_copyFrom_50 (fun H locs S40 eS40 hQ => ?_)
  have hI := invX_up_19 hI eS40 ⟨_, rfl, cpy_b b15 b39⟩
  have b42 : ∀ j, Bd ((va_cpy f13 f37 (0 : Int32).toNatClampNeg (0 : Int32).toNatClampNeg (40 : Int32).toNatClampNeg) j) (0) (400) := cpy_b b15 b39
  have c41 : S40 19 = .inl (g.2 0, 40, .inl (va_cpy f13 f37 (0 : Int32).toNatClampNeg (0 : Int32).toNatClampNeg (40 : Int32).toNatClampNeg)) := up_at eS40 rfl
  have q43 : fld (S 89) 0 = v1.toInt := fld_of c3 rfl
  have c44 : S40 16 = .inr (0, [.int v1, .ref (ad 17), .ref (ad 18), .ref (ad 19)]) := (up_ne eS40 (by decide) c35)
  have q45 : fld (S40 16) 0 = v1.toInt := fld_of c44 rfl
  have c46 : S40 17 = .inl (g.2 0, 40, .inl (va_cpy f7 f20 (0 : Int32).toNatClampNeg (0 : Int32).toNatClampNeg (40 : Int32).toNatClampNeg)) := (up_ne eS40 (by decide) (up_ne eS31 (by decide) c24))
  have c47 : S40 18 = .inl (g.2 0, 40, .inl (va_cpy f10 f28 (0 : Int32).toNatClampNeg (0 : Int32).toNatClampNeg (40 : Int32).toNatClampNeg)) := (up_ne eS40 (by decide) c32)
  exact xrv E hr hlk hQ (⟨hI, (up_o (up_o (up_o (up_o o_refl eS16 (by decide)) eS23 (by decide)) eS31 (by decide)) eS40 (by decide)), ⟨by omega, by omega⟩, (ar_cpy c3 rfl c8 c11 c14 hAR75 (b2).2 c44 rfl c46 c47 c41)⟩) dX0_copyFrom_53
set_option maxHeartbeats 4000000 in
set_option maxRecDepth 100000 in
theorem gX6_copyFrom_10_83 (l : Launch) (g : GG) (ad : Nat → Nat) (hD : Dj ad 122) (S : SS) (hI : InvX g ad S) : Met l yX6_copyFrom (wG (.code yX6_copyFrom cX6_copyFrom 2 none)) (Rm 1) (XPre g ad 122 S [.ref (ad 10), .ref (ad 83)]) (va_Qv (fun S' => InvX g ad S' ∧ (∀ j, j ∉ ([10, 11, 12, 13, 14] : List Nat) → S' j = S j)) (QB g ad 122) (FA ad 122)) 0 0 (FA ad 122) := by
  refine xmet cX6_copyFrom "EbbWreck$RuleBook" (by decide) rfl (Nat.le_of_ble_eq_true rfl) (fun p e s m below meth c E hr hlk hml hQ ls hl => ?_)
  have hx := E.1
  have hb := E.2.1
  have hs : Sp ad 122 (FA ad 122) := Sp.fa hD
  have hl : lv_has ls 2 [(0, .ref (ad 10)), (1, .ref (ad 83))] := hl
  refine lv_aload_n hx hb dX6_copyFrom_0 rfl (lv_at hl 0 rfl) ?_
  refine lv_aload_n hx hb dX6_copyFrom_1 rfl (lv_at hl 1 rfl) ?_
  obtain ⟨v1, c3, b2⟩ := invX_83 hI
  have c3 : S 83 = .inr (6, [.int v1, .ref (ad 84), .ref (ad 85), .ref (ad 86), .ref (ad 87)]) := c3
  refine xget E hQ 83 (by decide) c3 rfl 0 (by decide) q186 rfl dX6_copyFrom_2 ?_
  obtain ⟨v4, c6, b5⟩ := invX_10 hI
  have c6 : S 10 = .inr (6, [.int v4, .ref (ad 11), .ref (ad 12), .ref (ad 13), .ref (ad 14)]) := c6
  refine xputi E hs hQ 10 (by decide) c6 rfl 0 (by decide) q186 rfl rfl (Nat.le_of_ble_eq_true rfl) dX6_copyFrom_5 (fun H locs S7 eS7 hQ => ?_)
  have hI := invX_up_10 hI eS7 ⟨v1, rfl, b2⟩
  have c8 : S7 10 = .inr (6, [.int v1, .ref (ad 11), .ref (ad 12), .ref (ad 13), .ref (ad 14)]) := up_at eS7 rfl
  refine lv_aload_n hx hb dX6_copyFrom_8 rfl (lv_at hl 1 rfl) ?_
  have c9 : S7 83 = .inr (6, [.int v1, .ref (ad 84), .ref (ad 85), .ref (ad 86), .ref (ad 87)]) := (up_ne eS7 (by decide) c3)
  refine xget E hQ 83 (by decide) c9 rfl 1 (by decide) q189 rfl dX6_copyFrom_9 ?_
  refine lv_iconst (v := 0) hx hb dX6_copyFrom_12 (by decide) ?_
  refine lv_aload_n hx hb dX6_copyFrom_13 rfl (lv_at hl 0 rfl) ?_
  refine xget E hQ 10 (by decide) c8 rfl 1 (by decide) q189 rfl dX6_copyFrom_14 ?_
  refine lv_iconst (v := 0) hx hb dX6_copyFrom_17 (by decide) ?_
  refine lv_bipush (v := 6) hx hb dX6_copyFrom_18 (by decide) ?_
  obtain ⟨f10, c11⟩ := invX_84 hI
  obtain ⟨f13, c14⟩ := invX_11 hI
  refine xcopyi E hs hQ hml hl.1 84 (by decide) 11 (by decide) c11 c14 q756 (by decide) (by decide) (by decide) (Nat.le_of_ble_eq_true rfl) (Nat.le_of_ble_eq_true rfl) (Nat.le_of_ble_eq_true rfl) (Nat.le_of_ble_eq_true rfl) dX6_copyFrom_20 (fun H locs S16 eS16 hQ => ?_)
  have hI := invX_up_11 hI eS16 ⟨_, rfl⟩
  have c17 : S16 11 = .inl (g.2 0, 6, .inl (va_cpy f10 f13 (0 : Int32).toNatClampNeg (0 : Int32).toNatClampNeg (6 : Int32).toNatClampNeg)) := up_at eS16 rfl
  refine lv_aload_n hx hb dX6_copyFrom_23 rfl (lv_at hl 1 rfl) ?_
  have c18 : S16 83 = .inr (6, [.int v1, .ref (ad 84), .ref (ad 85), .ref (ad 86), .ref (ad 87)]) := (up_ne eS16 (by decide) c9)
  refine xget E hQ 83 (by decide) c18 rfl 2 (by decide) q191 rfl dX6_copyFrom_24 ?_
  refine lv_iconst (v := 0) hx hb dX6_copyFrom_27 (by decide) ?_
  refine lv_aload_n hx hb dX6_copyFrom_28 rfl (lv_at hl 0 rfl) ?_
  have c19 : S16 10 = .inr (6, [.int v1, .ref (ad 11), .ref (ad 12), .ref (ad 13), .ref (ad 14)]) := (up_ne eS16 (by decide) c8)
  refine xget E hQ 10 (by decide) c19 rfl 2 (by decide) q191 rfl dX6_copyFrom_29 ?_
  refine lv_iconst (v := 0) hx hb dX6_copyFrom_32 (by decide) ?_
  refine lv_bipush (v := 6) hx hb dX6_copyFrom_33 (by decide) ?_
  obtain ⟨f20, c21⟩ := invX_85 hI
  obtain ⟨f23, c24⟩ := invX_12 hI
  refine xcopyi E hs hQ hml hl.1 85 (by decide) 12 (by decide) c21 c24 q756 (by decide) (by decide) (by decide) (Nat.le_of_ble_eq_true rfl) (Nat.le_of_ble_eq_true rfl) (Nat.le_of_ble_eq_true rfl) (Nat.le_of_ble_eq_true rfl) dX6_copyFrom_35 (fun H locs S26 eS26 hQ => ?_)
  have hI := invX_up_12 hI eS26 ⟨_, rfl⟩
  have c27 : S26 12 = .inl (g.2 0, 6, .inl (va_cpy f20 f23 (0 : Int32).toNatClampNeg (0 : Int32).toNatClampNeg (6 : Int32).toNatClampNeg)) := up_at eS26 rfl
  refine lv_aload_n hx hb dX6_copyFrom_38 rfl (lv_at hl 1 rfl) ?_
  have c28 : S26 83 = .inr (6, [.int v1, .ref (ad 84), .ref (ad 85), .ref (ad 86), .ref (ad 87)]) := (up_ne eS26 (by decide) c18)
  refine xget E hQ 83 (by decide) c28 rfl 3 (by decide) q193 rfl dX6_copyFrom_39 ?_
  refine lv_iconst (v := 0) hx hb dX6_copyFrom_42 (by decide) ?_
  refine lv_aload_n hx hb dX6_copyFrom_43 rfl (lv_at hl 0 rfl) ?_
  have c29 : S26 10 = .inr (6, [.int v1, .ref (ad 11), .ref (ad 12), .ref (ad 13), .ref (ad 14)]) := (up_ne eS26 (by decide) c19)
  refine xget E hQ 10 (by decide) c29 rfl 3 (by decide) q193 rfl dX6_copyFrom_44 ?_
  refine lv_iconst (v := 0) hx hb dX6_copyFrom_47 (by decide) ?_
  refine lv_bipush (v := 6) hx hb dX6_copyFrom_48 (by decide) ?_
  obtain ⟨f30, c31⟩ := invX_86 hI
  obtain ⟨f33, c34⟩ := invX_13 hI
  refine xcopyi E hs hQ hml hl.1 86 (by decide) 13 (by decide) c31 c34 q756 (by decide) (by decide) (by decide) (Nat.le_of_ble_eq_true rfl) (Nat.le_of_ble_eq_true rfl) (Nat.le_of_ble_eq_true rfl) (Nat.le_of_ble_eq_true rfl) dX6_copyFrom_50 (fun H locs S36 eS36 hQ => ?_)
  have hI := invX_up_13 hI eS36 ⟨_, rfl⟩
  have c37 : S36 13 = .inl (g.2 0, 6, .inl (va_cpy f30 f33 (0 : Int32).toNatClampNeg (0 : Int32).toNatClampNeg (6 : Int32).toNatClampNeg)) := up_at eS36 rfl
  refine lv_aload_n hx hb dX6_copyFrom_53 rfl (lv_at hl 1 rfl) ?_
  have c38 : S36 83 = .inr (6, [.int v1, .ref (ad 84), .ref (ad 85), .ref (ad 86), .ref (ad 87)]) := (up_ne eS36 (by decide) c28)
  refine xget E hQ 83 (by decide) c38 rfl 4 (by decide) q195 rfl dX6_copyFrom_54 ?_
  refine lv_iconst (v := 0) hx hb dX6_copyFrom_57 (by decide) ?_
  refine lv_aload_n hx hb dX6_copyFrom_58 rfl (lv_at hl 0 rfl) ?_
  have c39 : S36 10 = .inr (6, [.int v1, .ref (ad 11), .ref (ad 12), .ref (ad 13), .ref (ad 14)]) := (up_ne eS36 (by decide) c29)
  refine xget E hQ 10 (by decide) c39 rfl 4 (by decide) q195 rfl dX6_copyFrom_59 ?_
  refine lv_iconst (v := 0) hx hb dX6_copyFrom_62 (by decide) ?_
  refine lv_bipush (v := 6) hx hb dX6_copyFrom_63 (by decide) ?_
  obtain ⟨f40, c41⟩ := invX_87 hI
  obtain ⟨f43, c44⟩ := invX_14 hI
  refine xcopyi E hs hQ hml hl.1 87 (by decide) 14 (by decide) c41 c44 q756 (by decide) (by decide) (by decide) (Nat.le_of_ble_eq_true rfl) (Nat.le_of_ble_eq_true rfl) (Nat.le_of_ble_eq_true rfl) (Nat.le_of_ble_eq_true rfl) dX6_copyFrom_65 (fun H locs S46 eS46 hQ => ?_)
  have hI := invX_up_14 hI eS46 ⟨_, rfl⟩
  have c47 : S46 14 = .inl (g.2 0, 6, .inl (va_cpy f40 f43 (0 : Int32).toNatClampNeg (0 : Int32).toNatClampNeg (6 : Int32).toNatClampNeg)) := up_at eS46 rfl
  exact xrv E hr hlk hQ (⟨hI, (up_o (up_o (up_o (up_o (up_o o_refl eS7 (by decide)) eS16 (by decide)) eS26 (by decide)) eS36 (by decide)) eS46 (by decide))⟩) dX6_copyFrom_68
set_option maxHeartbeats 4000000 in
set_option maxRecDepth 100000 in
theorem gX1_copyFrom_2_75 (l : Launch) (g : GG) (ad : Nat → Nat) (hD : Dj ad 122) (S : SS) (hI : InvX g ad S) (hAR75 : ARp (S 89) (S 90) (S 91) (S 92)) : Met l yX1_copyFrom (wG (.code yX1_copyFrom cX1_copyFrom 2 none)) (Rm 2) (XPre g ad 122 S [.ref (ad 2), .ref (ad 75)]) (va_Qv (fun S' => InvX g ad S' ∧ (∀ j, j ∉ ([2, 3, 4, 5, 6, 7, 8, 9, 10, 11, 12, 13, 14, 15, 16, 17, 18, 19] : List Nat) → S' j = S j) ∧ (0 ≤ fld (S 75) 0 + (-1) * fld (S' 2) 0 ∧ 0 ≤ fld (S' 2) 0 + (-1) * fld (S 75) 0) ∧ (0 ≤ fld (S 75) 1 + (-1) * fld (S' 2) 1 ∧ 0 ≤ fld (S' 2) 1 + (-1) * fld (S 75) 1) ∧ (0 ≤ fld (S 75) 7 + (-1) * fld (S' 2) 7 ∧ 0 ≤ fld (S' 2) 7 + (-1) * fld (S 75) 7) ∧ (0 ≤ fld (S 75) 12 + (-1) * fld (S' 2) 12 ∧ 0 ≤ fld (S' 2) 12 + (-1) * fld (S 75) 12) ∧ (ARp (S' 16) (S' 17) (S' 18) (S' 19))) (QB g ad 122) (FA ad 122)) 0 0 (FA ad 122) := by
  refine xmet cX1_copyFrom "EbbWreck$Coast" (by decide) rfl (Nat.le_of_ble_eq_true rfl) (fun p e s m below meth c E hr hlk hml hQ ls hl => ?_)
  have hx := E.1
  have hb := E.2.1
  have hs : Sp ad 122 (FA ad 122) := Sp.fa hD
  have hl : lv_has ls 2 [(0, .ref (ad 2)), (1, .ref (ad 75))] := hl
  obtain ⟨v1, v3, v5, v6, v7, v9, c11, b2, b4, b8, b10⟩ := invX_75 hI
  have c11 : S 75 = .inr (1, [.int v1, .int v3, .int v5, .ref (ad 76), .ref (ad 78), .ref (ad 79), .int v6, .int v7, .ref (ad 80), .ref (ad 81), .ref (ad 82), .ref (ad 83), .int v9, .ref (ad 88), .ref (ad 89)]) := c11
  obtain ⟨v12, v14, v16, v17, v18, v20, c22, b13, b15, b19, b21⟩ := invX_2 hI
  have c22 : S 2 = .inr (1, [.int v12, .int v14, .int v16, .ref (ad 3), .ref (ad 5), .ref (ad 6), .int v17, .int v18, .ref (ad 7), .ref (ad 8), .ref (ad 9), .ref (ad 10), .int v20, .ref (ad 15), .ref (ad 16)]) := c22
  obtain ⟨v23, c25, b24⟩ := invX_89 hI
  have c25 : S 89 = .inr (0, [.int v23, .ref (ad 90), .ref (ad 91), .ref (ad 92)]) := c25
  obtain ⟨f26, c27⟩ := invX_90 hI
  obtain ⟨f29, c30, b31⟩ := invX_91 hI
  obtain ⟨f32, c33, b34⟩ := invX_92 hI
  refine lv_aload_n hx hb dX1_copyFrom_0 rfl (lv_at hl 0 rfl) ?_
  refine lv_aload_n hx hb dX1_copyFrom_1 rfl (lv_at hl 1 rfl) ?_
  refine xget E hQ 75 (by decide) c11 rfl 0 (by decide) q236 rfl dX1_copyFrom_2 ?_
  refine xputi E hs hQ 2 (by decide) c22 rfl 0 (by decide) q236 rfl rfl (Nat.le_of_ble_eq_true rfl) dX1_copyFrom_5 (fun H locs S35 eS35 hQ => ?_)
  have hI := invX_up_2 hI eS35 ⟨v1, v14, v16, v17, v18, v20, rfl, b2, b15, b19, b21⟩
  have c36 : S35 2 = .inr (1, [.int v1, .int v14, .int v16, .ref (ad 3), .ref (ad 5), .ref (ad 6), .int v17, .int v18, .ref (ad 7), .ref (ad 8), .ref (ad 9), .ref (ad 10), .int v20, .ref (ad 15), .ref (ad 16)]) := up_at eS35 rfl
  refine lv_aload_n hx hb dX1_copyFrom_8 rfl (lv_at hl 0 rfl) ?_
  refine lv_aload_n hx hb dX1_copyFrom_9 rfl (lv_at hl 1 rfl) ?_
  have c37 : S35 75 = .inr (1, [.int v1, .int v3, .int v5, .ref (ad 76), .ref (ad 78), .ref (ad 79), .int v6, .int v7, .ref (ad 80), .ref (ad 81), .ref (ad 82), .ref (ad 83), .int v9, .ref (ad 88), .ref (ad 89)]) := (up_ne eS35 (by decide) c11)
  refine xget E hQ 75 (by decide) c37 rfl 1 (by decide) q239 rfl dX1_copyFrom_10 ?_
  refine xputi E hs hQ 2 (by decide) c36 rfl 1 (by decide) q239 rfl rfl (Nat.le_of_ble_eq_true rfl) dX1_copyFrom_13 (fun H locs S38 eS38 hQ => ?_)
  have hI := invX_up_2 hI eS38 ⟨v1, v3, v16, v17, v18, v20, rfl, b2, b4, b19, b21⟩
  have c39 : S38 2 = .inr (1, [.int v1, .int v3, .int v16, .ref (ad 3), .ref (ad 5), .ref (ad 6), .int v17, .int v18, .ref (ad 7), .ref (ad 8), .ref (ad 9), .ref (ad 10), .int v20, .ref (ad 15), .ref (ad 16)]) := up_at eS38 rfl
  refine lv_aload_n hx hb dX1_copyFrom_16 rfl (lv_at hl 0 rfl) ?_
  refine lv_aload_n hx hb dX1_copyFrom_17 rfl (lv_at hl 1 rfl) ?_
  have c40 : S38 75 = .inr (1, [.int v1, .int v3, .int v5, .ref (ad 76), .ref (ad 78), .ref (ad 79), .int v6, .int v7, .ref (ad 80), .ref (ad 81), .ref (ad 82), .ref (ad 83), .int v9, .ref (ad 88), .ref (ad 89)]) := (up_ne eS38 (by decide) c37)
  refine xget E hQ 75 (by decide) c40 rfl 2 (by decide) q247 rfl dX1_copyFrom_18 ?_
  refine xputi E hs hQ 2 (by decide) c39 rfl 2 (by decide) q247 rfl rfl (Nat.le_of_ble_eq_true rfl) dX1_copyFrom_21 (fun H locs S41 eS41 hQ => ?_)
  have hI := invX_up_2 hI eS41 ⟨v1, v3, v5, v17, v18, v20, rfl, b2, b4, b19, b21⟩
  have c42 : S41 2 = .inr (1, [.int v1, .int v3, .int v5, .ref (ad 3), .ref (ad 5), .ref (ad 6), .int v17, .int v18, .ref (ad 7), .ref (ad 8), .ref (ad 9), .ref (ad 10), .int v20, .ref (ad 15), .ref (ad 16)]) := up_at eS41 rfl
  refine lv_aload_n hx hb dX1_copyFrom_24 rfl (lv_at hl 0 rfl) ?_
  refine xget E hQ 2 (by decide) c42 rfl 3 (by decide) q251 rfl dX1_copyFrom_25 ?_
  refine lv_aload_n hx hb dX1_copyFrom_28 rfl (lv_at hl 1 rfl) ?_
  have c43 : S41 75 = .inr (1, [.int v1, .int v3, .int v5, .ref (ad 76), .ref (ad 78), .ref (ad 79), .int v6, .int v7, .ref (ad 80), .ref (ad 81), .ref (ad 82), .ref (ad 83), .int v9, .ref (ad 88), .ref (ad 89)]) := (up_ne eS41 (by decide) c40)
  refine xget E hQ 75 (by decide) c43 rfl 3 (by decide) q251 rfl dX1_copyFrom_29 ?_
  obtain ⟨v44, v46, v48, v50, c52, b45, b47, b49, b51⟩ := invX_76 hI
  have c52 : S41 76 = .inr (10, [.int v44, .int v46, .int v48, .int v50, .ref (ad 77)]) := c52
  refine xget E hQ 76 (by decide) c52 rfl 0 (by decide) q156 rfl dX1_copyFrom_32 ?_
  refine lv_aload_n hx hb dX1_copyFrom_35 rfl (lv_at hl 1 rfl) ?_
  refine xget E hQ 75 (by decide) c43 rfl 3 (by decide) q251 rfl dX1_copyFrom_36 ?_
  refine xget E hQ 76 (by decide) c52 rfl 1 (by decide) q159 rfl dX1_copyFrom_39 ?_
  refine lv_aload_n hx hb dX1_copyFrom_42 rfl (lv_at hl 1 rfl) ?_
  refine xget E hQ 75 (by decide) c43 rfl 3 (by decide) q251 rfl dX1_copyFrom_43 ?_
  refine xget E hQ 76 (by decide) c52 rfl 2 (by decide) q162 rfl dX1_copyFrom_46 ?_
  obtain ⟨v54, v56, v58, v60, c62, b55, b57, b59, b61⟩ := invX_3 hI
  have c62 : S41 3 = .inr (10, [.int v54, .int v56, .int v58, .int v60, .ref (ad 4)]) := c62
  refine xcVv E hs hQ hml hl.1 3 (gX10_tell_3 l g ad hD S41 hI v44 v46 v48 b45 b47 b49) mX10_tell q592 (by decide) c62 rfl rfl ⟨(Nat.le_of_ble_eq_true rfl), (Nat.le_of_ble_eq_true rfl)⟩ ⟨(Nat.le_of_ble_eq_true rfl), (Nat.le_of_ble_eq_true rfl)⟩ (Nat.le_of_ble_eq_true rfl) rfl dX1_copyFrom_49 (fun S53 H locs hp53 hQ _ => ?_)
  obtain ⟨hI, o53⟩ := hp53
  refine lv_aload_n hx hb dX1_copyFrom_52 rfl (lv_at hl 1 rfl) ?_
  have c63 : S53 75 = .inr (1, [.int v1, .int v3, .int v5, .ref (ad 76), .ref (ad 78), .ref (ad 79), .int v6, .int v7, .ref (ad 80), .ref (ad 81), .ref (ad 82), .ref (ad 83), .int v9, .ref (ad 88), .ref (ad 89)]) := ((o53 75 (by decide)).trans c43)
  refine xget E hQ 75 (by decide) c63 rfl 4 (by decide) q257 rfl dX1_copyFrom_53 ?_
  refine lv_iconst (v := 0) hx hb dX1_copyFrom_56 (by decide) ?_
  refine lv_aload_n hx hb dX1_copyFrom_57 rfl (lv_at hl 0 rfl) ?_
  have c64 : S53 2 = .inr (1, [.int v1, .int v3, .int v5, .ref (ad 3), .ref (ad 5), .ref (ad 6), .int v17, .int v18, .ref (ad 7), .ref (ad 8), .ref (ad 9), .ref (ad 10), .int v20, .ref (ad 15), .ref (ad 16)]) := ((o53 2 (by decide)).trans c42)
  refine xget E hQ 2 (by decide) c64 rfl 4 (by decide) q257 rfl dX1_copyFrom_58 ?_
  refine lv_iconst (v := 0) hx hb dX1_copyFrom_61 (by decide) ?_
  refine lv_bipush (v := 12) hx hb dX1_copyFrom_62 (by decide) ?_
  obtain ⟨f65, c66⟩ := invX_78 hI
  obtain ⟨f68, c69⟩ := invX_5 hI
  refine xcopyi E hs hQ hml hl.1 78 (by decide) 5 (by decide) c66 c69 q749 (by decide) (by decide) (by decide) (Nat.le_of_ble_eq_true rfl) (Nat.le_of_ble_eq_true rfl) (Nat.le_of_ble_eq_true rfl) (Nat.le_of_ble_eq_true rfl) dX1_copyFrom_64 (fun H locs S71 eS71 hQ => ?_)
  have hI := invX_up_5 hI eS71 ⟨_, rfl⟩
  have c72 : S71 5 = .inl (g.2 0, 12, .inl (va_cpy f65 f68 (0 : Int32).toNatClampNeg (0 : Int32).toNatClampNeg (12 : Int32).toNatClampNeg)) := up_at eS71 rfl
  refine lv_aload_n hx hb dX1_copyFrom_67 rfl (lv_at hl 1 rfl) ?_
  have c73 : S71 75 = .inr (1, [.int v1, .int v3, .int v5, .ref (ad 76), .ref (ad 78), .ref (ad 79), .int v6, .int v7, .ref (ad 80), .ref (ad 81), .ref (ad 82), .ref (ad 83), .int v9, .ref (ad 88), .ref (ad 89)]) := (up_ne eS71 (by decide) c63)
  refine xget E hQ 75 (by decide) c73 rfl 5 (by decide) q260 rfl dX1_copyFrom_68 ?_
  refine lv_iconst (v := 0) hx hb dX1_copyFrom_71 (by decide) ?_
  refine lv_aload_n hx hb dX1_copyFrom_72 rfl (lv_at hl 0 rfl) ?_
  have c74 : S71 2 = .inr (1, [.int v1, .int v3, .int v5, .ref (ad 3), .ref (ad 5), .ref (ad 6), .int v17, .int v18, .ref (ad 7), .ref (ad 8), .ref (ad 9), .ref (ad 10), .int v20, .ref (ad 15), .ref (ad 16)]) := (up_ne eS71 (by decide) c64)
  refine xget E hQ 2 (by decide) c74 rfl 5 (by decide) q260 rfl dX1_copyFrom_73 ?_
  refine lv_iconst (v := 0) hx hb dX1_copyFrom_76 (by decide) ?_
  refine lv_bipush (v := 12) hx hb dX1_copyFrom_77 (by decide) ?_
  obtain ⟨f75, c76⟩ := invX_79 hI
  obtain ⟨f78, c79⟩ := invX_6 hI
  refine xcopyi E hs hQ hml hl.1 79 (by decide) 6 (by decide) c76 c79 q749 (by decide) (by decide) (by decide) (Nat.le_of_ble_eq_true rfl) (Nat.le_of_ble_eq_true rfl) (Nat.le_of_ble_eq_true rfl) (Nat.le_of_ble_eq_true rfl) dX1_copyFrom_79 (fun H locs S81 eS81 hQ => ?_)
  have hI := invX_up_6 hI eS81 ⟨_, rfl⟩
  have c82 : S81 6 = .inl (g.2 0, 12, .inl (va_cpy f75 f78 (0 : Int32).toNatClampNeg (0 : Int32).toNatClampNeg (12 : Int32).toNatClampNeg)) := up_at eS81 rfl
  refine lv_aload_n hx hb dX1_copyFrom_82 rfl (lv_at hl 0 rfl) ?_
  refine lv_aload_n hx hb dX1_copyFrom_83 rfl (lv_at hl 1 rfl) ?_
  have c83 : S81 75 = .inr (1, [.int v1, .int v3, .int v5, .ref (ad 76), .ref (ad 78), .ref (ad 79), .int v6, .int v7, .ref (ad 80), .ref (ad 81), .ref (ad 82), .ref (ad 83), .int v9, .ref (ad 88), .ref (ad 89)]) := (up_ne eS81 (by decide) c73)
  refine xget E hQ 75 (by decide) c83 rfl 6 (by decide) q263 rfl dX1_copyFrom_84 ?_
  have c84 : S81 2 = .inr (1, [.int v1, .int v3, .int v5, .ref (ad 3), .ref (ad 5), .ref (ad 6), .int v17, .int v18, .ref (ad 7), .ref (ad 8), .ref (ad 9), .ref (ad 10), .int v20, .ref (ad 15), .ref (ad 16)]) := (up_ne eS81 (by decide) c74)
  refine xputi E hs hQ 2 (by decide) c84 rfl 6 (by decide) q263 rfl rfl (Nat.le_of_ble_eq_true rfl) dX1_copyFrom_87 (fun H locs S85 eS85 hQ => ?_)
  have hI := invX_up_2 hI eS85 ⟨v1, v3, v5, v6, v18, v20, rfl, b2, b4, b19, b21⟩
  have c86 : S85 2 = .inr (1, [.int v1, .int v3, .int v5, .ref (ad 3), .ref (ad 5), .ref (ad 6), .int v6, .int v18, .ref (ad 7), .ref (ad 8), .ref (ad 9), .ref (ad 10), .int v20, .ref (ad 15), .ref (ad 16)]) := up_at eS85 rfl
  refine lv_aload_n hx hb dX1_copyFrom_90 rfl (lv_at hl 0 rfl) ?_
  refine lv_aload_n hx hb dX1_copyFrom_91 rfl (lv_at hl 1 rfl) ?_
  have c87 : S85 75 = .inr (1, [.int v1, .int v3, .int v5, .ref (ad 76), .ref (ad 78), .ref (ad 79), .int v6, .int v7, .ref (ad 80), .ref (ad 81), .ref (ad 82), .ref (ad 83), .int v9, .ref (ad 88), .ref (ad 89)]) := (up_ne eS85 (by decide) c83)
  refine xget E hQ 75 (by decide) c87 rfl 7 (by decide) q270 rfl dX1_copyFrom_92 ?_
  refine xputi E hs hQ 2 (by decide) c86 rfl 7 (by decide) q270 rfl rfl (Nat.le_of_ble_eq_true rfl) dX1_copyFrom_95 (fun H locs S88 eS88 hQ => ?_)
  have hI := invX_up_2 hI eS88 ⟨v1, v3, v5, v6, v7, v20, rfl, b2, b4, b8, b21⟩
  have c89 : S88 2 = .inr (1, [.int v1, .int v3, .int v5, .ref (ad 3), .ref (ad 5), .ref (ad 6), .int v6, .int v7, .ref (ad 7), .ref (ad 8), .ref (ad 9), .ref (ad 10), .int v20, .ref (ad 15), .ref (ad 16)]) := up_at eS88 rfl
  refine lv_aload_n hx hb dX1_copyFrom_98 rfl (lv_at hl 1 rfl) ?_
  have c90 : S88 75 = .inr (1, [.int v1, .int v3, .int v5, .ref (ad 76), .ref (ad 78), .ref (ad 79), .int v6, .int v7, .ref (ad 80), .ref (ad 81), .ref (ad 82), .ref (ad 83), .int v9, .ref (ad 88), .ref (ad 89)]) := (up_ne eS88 (by decide) c87)
  refine xget E hQ 75 (by decide) c90 rfl 8 (by decide) q274 rfl dX1_copyFrom_99 ?_
  refine lv_iconst (v := 0) hx hb dX1_copyFrom_102 (by decide) ?_
  refine lv_aload_n hx hb dX1_copyFrom_103 rfl (lv_at hl 0 rfl) ?_
  refine xget E hQ 2 (by decide) c89 rfl 8 (by decide) q274 rfl dX1_copyFrom_104 ?_
  refine lv_iconst (v := 0) hx hb dX1_copyFrom_107 (by decide) ?_
  refine lv_bipush (v := 8) hx hb dX1_copyFrom_108 (by decide) ?_
  obtain ⟨f91, c92⟩ := invX_80 hI
  obtain ⟨f94, c95⟩ := invX_7 hI
  refine xcopyi E hs hQ hml hl.1 80 (by decide) 7 (by decide) c92 c95 q749 (by decide) (by decide) (by decide) (Nat.le_of_ble_eq_true rfl) (Nat.le_of_ble_eq_true rfl) (Nat.le_of_ble_eq_true rfl) (Nat.le_of_ble_eq_true rfl) dX1_copyFrom_110 (fun H locs S97 eS97 hQ => ?_)
  have hI := invX_up_7 hI eS97 ⟨_, rfl⟩
  have c98 : S97 7 = .inl (g.2 0, 8, .inl (va_cpy f91 f94 (0 : Int32).toNatClampNeg (0 : Int32).toNatClampNeg (8 : Int32).toNatClampNeg)) := up_at eS97 rfl
  refine lv_aload_n hx hb dX1_copyFrom_113 rfl (lv_at hl 1 rfl) ?_
  have c99 : S97 75 = .inr (1, [.int v1, .int v3, .int v5, .ref (ad 76), .ref (ad 78), .ref (ad 79), .int v6, .int v7, .ref (ad 80), .ref (ad 81), .ref (ad 82), .ref (ad 83), .int v9, .ref (ad 88), .ref (ad 89)]) := (up_ne eS97 (by decide) c90)
  refine xget E hQ 75 (by decide) c99 rfl 9 (by decide) q279 rfl dX1_copyFrom_114 ?_
  refine lv_iconst (v := 0) hx hb dX1_copyFrom_117 (by decide) ?_
  refine lv_aload_n hx hb dX1_copyFrom_118 rfl (lv_at hl 0 rfl) ?_
  have c100 : S97 2 = .inr (1, [.int v1, .int v3, .int v5, .ref (ad 3), .ref (ad 5), .ref (ad 6), .int v6, .int v7, .ref (ad 7), .ref (ad 8), .ref (ad 9), .ref (ad 10), .int v20, .ref (ad 15), .ref (ad 16)]) := (up_ne eS97 (by decide) c89)
  refine xget E hQ 2 (by decide) c100 rfl 9 (by decide) q279 rfl dX1_copyFrom_119 ?_
  refine lv_iconst (v := 0) hx hb dX1_copyFrom_122 (by decide) ?_
  refine lv_bipush (v := 8) hx hb dX1_copyFrom_123 (by decide) ?_
  obtain ⟨f101, c102, b103⟩ := invX_81 hI
  obtain ⟨f104, c105, b106⟩ := invX_8 hI
  refine xcopyi E hs hQ hml hl.1 81 (by decide) 8 (by decide) c102 c105 q749 (by decide) (by decide) (by decide) (Nat.le_of_ble_eq_true rfl) (Nat.le_of_ble_eq_true rfl) (Nat.le_of_ble_eq_true rfl) (Nat.le_of_ble_eq_true rfl) dX1_copyFrom_125 (fun H locs S107 eS107 hQ => ?_)
  have hI := invX_up_8 hI eS107 ⟨_, rfl, cpy_b b103 b106⟩
  have b109 : ∀ j, Bd ((va_cpy f101 f104 (0 : Int32).toNatClampNeg (0 : Int32).toNatClampNeg (8 : Int32).toNatClampNeg) j) (0) (11) := cpy_b b103 b106
  have c108 : S107 8 = .inl (g.2 0, 8, .inl (va_cpy f101 f104 (0 : Int32).toNatClampNeg (0 : Int32).toNatClampNeg (8 : Int32).toNatClampNeg)) := up_at eS107 rfl
  refine lv_aload_n hx hb dX1_copyFrom_128 rfl (lv_at hl 1 rfl) ?_
  have c110 : S107 75 = .inr (1, [.int v1, .int v3, .int v5, .ref (ad 76), .ref (ad 78), .ref (ad 79), .int v6, .int v7, .ref (ad 80), .ref (ad 81), .ref (ad 82), .ref (ad 83), .int v9, .ref (ad 88), .ref (ad 89)]) := (up_ne eS107 (by decide) c99)
  refine xget E hQ 75 (by decide) c110 rfl 10 (by decide) q284 rfl dX1_copyFrom_129 ?_
  refine lv_iconst (v := 0) hx hb dX1_copyFrom_132 (by decide) ?_
  refine lv_aload_n hx hb dX1_copyFrom_133 rfl (lv_at hl 0 rfl) ?_
  have c111 : S107 2 = .inr (1, [.int v1, .int v3, .int v5, .ref (ad 3), .ref (ad 5), .ref (ad 6), .int v6, .int v7, .ref (ad 7), .ref (ad 8), .ref (ad 9), .ref (ad 10), .int v20, .ref (ad 15), .ref (ad 16)]) := (up_ne eS107 (by decide) c100)
  refine xget E hQ 2 (by decide) c111 rfl 10 (by decide) q284 rfl dX1_copyFrom_134 ?_
  refine lv_iconst (v := 0) hx hb dX1_copyFrom_137 (by decide) ?_
  refine lv_bipush (v := 8) hx hb dX1_copyFrom_138 (by decide) ?_
  obtain ⟨f112, c113, b114⟩ := invX_82 hI
  obtain ⟨f115, c116, b117⟩ := invX_9 hI
  refine xcopyi E hs hQ hml hl.1 82 (by decide) 9 (by decide) c113 c116 q749 (by decide) (by decide) (by decide) (Nat.le_of_ble_eq_true rfl) (Nat.le_of_ble_eq_true rfl) (Nat.le_of_ble_eq_true rfl) (Nat.le_of_ble_eq_true rfl) dX1_copyFrom_140 (fun H locs S118 eS118 hQ => ?_)
  have hI := invX_up_9 hI eS118 ⟨_, rfl, cpy_b b114 b117⟩
  have b120 : ∀ j, Bd ((va_cpy f112 f115 (0 : Int32).toNatClampNeg (0 : Int32).toNatClampNeg (8 : Int32).toNatClampNeg) j) (0) (99) := cpy_b b114 b117
  have c119 : S118 9 = .inl (g.2 0, 8, .inl (va_cpy f112 f115 (0 : Int32).toNatClampNeg (0 : Int32).toNatClampNeg (8 : Int32).toNatClampNeg)) := up_at eS118 rfl
  refine lv_aload_n hx hb dX1_copyFrom_143 rfl (lv_at hl 0 rfl) ?_
  have c121 : S118 2 = .inr (1, [.int v1, .int v3, .int v5, .ref (ad 3), .ref (ad 5), .ref (ad 6), .int v6, .int v7, .ref (ad 7), .ref (ad 8), .ref (ad 9), .ref (ad 10), .int v20, .ref (ad 15), .ref (ad 16)]) := (up_ne eS118 (by decide) c111)
  refine xget E hQ 2 (by decide) c121 rfl 11 (by decide) q289 rfl dX1_copyFrom_144 ?_
  refine lv_aload_n hx hb dX1_copyFrom_147 rfl (lv_at hl 1 rfl) ?_
  have c122 : S118 75 = .inr (1, [.int v1, .int v3, .int v5, .ref (ad 76), .ref (ad 78), .ref (ad 79), .int v6, .int v7, .ref (ad 80), .ref (ad 81), .ref (ad 82), .ref (ad 83), .int v9, .ref (ad 88), .ref (ad 89)]) := (up_ne eS118 (by decide) c110)
  refine xget E hQ 75 (by decide) c122 rfl 11 (by decide) q289 rfl dX1_copyFrom_148 ?_
  obtain ⟨v124, c126, b125⟩ := invX_10 hI
  have c126 : S118 10 = .inr (6, [.int v124, .ref (ad 11), .ref (ad 12), .ref (ad 13), .ref (ad 14)]) := c126
  refine xcVv E hs hQ hml hl.1 10 (gX6_copyFrom_10_83 l g ad hD S118 hI ) mX6_copyFrom q752 (by decide) c126 rfl rfl ⟨(Nat.le_of_ble_eq_true rfl), (Nat.le_of_ble_eq_true rfl)⟩ ⟨(Nat.le_of_ble_eq_true rfl), (Nat.le_of_ble_eq_true rfl)⟩ (Nat.le_of_ble_eq_true rfl) rfl dX1_copyFrom_151 (fun S123 H locs hp123 hQ _ => ?_)
  obtain ⟨hI, o123⟩ := hp123
  refine lv_aload_n hx hb dX1_copyFrom_154 rfl (lv_at hl 0 rfl) ?_
  refine lv_aload_n hx hb dX1_copyFrom_155 rfl (lv_at hl 1 rfl) ?_
  have c127 : S123 75 = .inr (1, [.int v1, .int v3, .int v5, .ref (ad 76), .ref (ad 78), .ref (ad 79), .int v6, .int v7, .ref (ad 80), .ref (ad 81), .ref (ad 82), .ref (ad 83), .int v9, .ref (ad 88), .ref (ad 89)]) := ((o123 75 (by decide)).trans c122)
  refine xget E hQ 75 (by decide) c127 rfl 12 (by decide) q293 rfl dX1_copyFrom_156 ?_
  have c128 : S123 2 = .inr (1, [.int v1, .int v3, .int v5, .ref (ad 3), .ref (ad 5), .ref (ad 6), .int v6, .int v7, .ref (ad 7), .ref (ad 8), .ref (ad 9), .ref (ad 10), .int v20, .ref (ad 15), .ref (ad 16)]) := ((o123 2 (by decide)).trans c121)
  refine xputi E hs hQ 2 (by decide) c128 rfl 12 (by decide) q293 rfl rfl (Nat.le_of_ble_eq_true rfl) dX1_copyFrom_159 (fun H locs S129 eS129 hQ => ?_)
  have hI := invX_up_2 hI eS129 ⟨v1, v3, v5, v6, v7, v9, rfl, b2, b4, b8, b10⟩
  have c130 : S129 2 = .inr (1, [.int v1, .int v3, .int v5, .ref (ad 3), .ref (ad 5), .ref (ad 6), .int v6, .int v7, .ref (ad 7), .ref (ad 8), .ref (ad 9), .ref (ad 10), .int v9, .ref (ad 15), .ref (ad 16)]) := up_at eS129 rfl
  refine lv_aload_n hx hb dX1_copyFrom_162 rfl (lv_at hl 1 rfl) ?_
  have c131 : S129 75 = .inr (1, [.int v1, .int v3, .int v5, .ref (ad 76), .ref (ad 78), .ref (ad 79), .int v6, .int v7, .ref (ad 80), .ref (ad 81), .ref (ad 82), .ref (ad 83), .int v9, .ref (ad 88), .ref (ad 89)]) := (up_ne eS129 (by decide) c127)
  refine xget E hQ 75 (by decide) c131 rfl 13 (by decide) q297 rfl dX1_copyFrom_163 ?_
  refine lv_iconst (v := 0) hx hb dX1_copyFrom_166 (by decide) ?_
  refine lv_aload_n hx hb dX1_copyFrom_167 rfl (lv_at hl 0 rfl) ?_
  refine xget E hQ 2 (by decide) c130 rfl 13 (by decide) q297 rfl dX1_copyFrom_168 ?_
  refine lv_iconst (v := 0) hx hb dX1_copyFrom_171 (by decide) ?_
  refine lv_iconst (v := 3) hx hb dX1_copyFrom_172 (by decide) ?_
  obtain ⟨f132, c133, b134⟩ := invX_88 hI
  obtain ⟨f135, c136, b137⟩ := invX_15 hI
  refine xcopyi E hs hQ hml hl.1 88 (by decide) 15 (by decide) c133 c136 q749 (by decide) (by decide) (by decide) (Nat.le_of_ble_eq_true rfl) (Nat.le_of_ble_eq_true rfl) (Nat.le_of_ble_eq_true rfl) (Nat.le_of_ble_eq_true rfl) dX1_copyFrom_173 (fun H locs S138 eS138 hQ => ?_)
  have hI := invX_up_15 hI eS138 ⟨_, rfl, cpy_b b134 b137⟩
  have b140 : ∀ j, Bd ((va_cpy f132 f135 (0 : Int32).toNatClampNeg (0 : Int32).toNatClampNeg (3 : Int32).toNatClampNeg) j) (0) (11) := cpy_b b134 b137
  have c139 : S138 15 = .inl (g.2 0, 3, .inl (va_cpy f132 f135 (0 : Int32).toNatClampNeg (0 : Int32).toNatClampNeg (3 : Int32).toNatClampNeg)) := up_at eS138 rfl
  refine lv_aload_n hx hb dX1_copyFrom_176 rfl (lv_at hl 0 rfl) ?_
  have c141 : S138 2 = .inr (1, [.int v1, .int v3, .int v5, .ref (ad 3), .ref (ad 5), .ref (ad 6), .int v6, .int v7, .ref (ad 7), .ref (ad 8), .ref (ad 9), .ref (ad 10), .int v9, .ref (ad 15), .ref (ad 16)]) := (up_ne eS138 (by decide) c130)
  refine xget E hQ 2 (by decide) c141 rfl 14 (by decide) q301 rfl dX1_copyFrom_177 ?_
  refine lv_aload_n hx hb dX1_copyFrom_180 rfl (lv_at hl 1 rfl) ?_
  have c142 : S138 75 = .inr (1, [.int v1, .int v3, .int v5, .ref (ad 76), .ref (ad 78), .ref (ad 79), .int v6, .int v7, .ref (ad 80), .ref (ad 81), .ref (ad 82), .ref (ad 83), .int v9, .ref (ad 88), .ref (ad 89)]) := (up_ne eS138 (by decide) c131)
  refine xget E hQ 75 (by decide) c142 rfl 14 (by decide) q301 rfl dX1_copyFrom_181 ?_
  have c143 : S138 89 = .inr (0, [.int v23, .ref (ad 90), .ref (ad 91), .ref (ad 92)]) := (up_ne eS138 (by decide) (up_ne eS129 (by decide) ((o123 89 (by decide)).trans (up_ne eS118 (by decide) (up_ne eS107 (by decide) (up_ne eS97 (by decide) (up_ne eS88 (by decide) (up_ne eS85 (by decide) (up_ne eS81 (by decide) (up_ne eS71 (by decide) ((o53 89 (by decide)).trans (up_ne eS41 (by decide) (up_ne eS38 (by decide) (up_ne eS35 (by decide) c25))))))))))))))
  obtain ⟨v145, c147, b146⟩ := invX_16 hI
  have c147 : S138 16 = .inr (0, [.int v145, .ref (ad 17), .ref (ad 18), .ref (ad 19)]) := c147
  refine xcVv E hs hQ hml hl.1 16 (gX0_copyFrom_16_89 l g ad hD S138 hI (ar_tr hAR75 ((up_eq (j := 89) eS138 (by decide)).trans ((up_eq (j := 89) eS129 (by decide)).trans ((o123 89 (by decide)).trans ((up_eq (j := 89) eS118 (by decide)).trans ((up_eq (j := 89) eS107 (by decide)).trans ((up_eq (j := 89) eS97 (by decide)).trans ((up_eq (j := 89) eS88 (by decide)).trans ((up_eq (j := 89) eS85 (by decide)).trans ((up_eq (j := 89) eS81 (by decide)).trans ((up_eq (j := 89) eS71 (by decide)).trans ((o53 89 (by decide)).trans ((up_eq (j := 89) eS41 (by decide)).trans ((up_eq (j := 89) eS38 (by decide)).trans (up_eq (j := 89) eS35 (by decide))))))))))))))) ((up_eq (j := 90) eS138 (by decide)).trans ((up_eq (j := 90) eS129 (by decide)).trans ((o123 90 (by decide)).trans ((up_eq (j := 90) eS118 (by decide)).trans ((up_eq (j := 90) eS107 (by decide)).trans ((up_eq (j := 90) eS97 (by decide)).trans ((up_eq (j := 90) eS88 (by decide)).trans ((up_eq (j := 90) eS85 (by decide)).trans ((up_eq (j := 90) eS81 (by decide)).trans ((up_eq (j := 90) eS71 (by decide)).trans ((o53 90 (by decide)).trans ((up_eq (j := 90) eS41 (by decide)).trans ((up_eq (j := 90) eS38 (by decide)).trans (up_eq (j := 90) eS35 (by decide))))))))))))))) ((up_eq (j := 91) eS138 (by decide)).trans ((up_eq (j := 91) eS129 (by decide)).trans ((o123 91 (by decide)).trans ((up_eq (j := 91) eS118 (by decide)).trans ((up_eq (j := 91) eS107 (by decide)).trans ((up_eq (j := 91) eS97 (by decide)).trans ((up_eq (j := 91) eS88 (by decide)).trans ((up_eq (j := 91) eS85 (by decide)).trans ((up_eq (j := 91) eS81 (by decide)).trans ((up_eq (j := 91) eS71 (by decide)).trans ((o53 91 (by decide)).trans ((up_eq (j := 91) eS41 (by decide)).trans ((up_eq (j := 91) eS38 (by decide)).trans (up_eq (j := 91) eS35 (by decide))))))))))))))) ((up_eq (j := 92) eS138 (by decide)).trans ((up_eq (j := 92) eS129 (by decide)).trans ((o123 92 (by decide)).trans ((up_eq (j := 92) eS118 (by decide)).trans ((up_eq (j := 92) eS107 (by decide)).trans ((up_eq (j := 92) eS97 (by decide)).trans ((up_eq (j := 92) eS88 (by decide)).trans ((up_eq (j := 92) eS85 (by decide)).trans ((up_eq (j := 92) eS81 (by decide)).trans ((up_eq (j := 92) eS71 (by decide)).trans ((o53 92 (by decide)).trans ((up_eq (j := 92) eS41 (by decide)).trans ((up_eq (j := 92) eS38 (by decide)).trans (up_eq (j := 92) eS35 (by decide))))))))))))))))) mX0_copyFrom q757 (by decide) c147 rfl rfl ⟨(Nat.le_of_ble_eq_true rfl), (Nat.le_of_ble_eq_true rfl)⟩ ⟨(Nat.le_of_ble_eq_true rfl), (Nat.le_of_ble_eq_true rfl)⟩ (Nat.le_of_ble_eq_true rfl) rfl dX1_copyFrom_184 (fun S144 H locs hp144 hQ _ => ?_)
  obtain ⟨hI, o144, g144_0, u144_0⟩ := hp144
  have q148 : fld (S138 89) 0 = v23.toInt := fld_of c143 rfl
  obtain ⟨v149, c151, b150⟩ := invX_16 hI
  have c151 : S144 16 = .inr (0, [.int v149, .ref (ad 17), .ref (ad 18), .ref (ad 19)]) := c151
  have q152 : fld (S144 16) 0 = v149.toInt := fld_of c151 rfl
  have q153 : fld (S 75) 0 = v1.toInt := fld_of c11 rfl
  have c154 : S144 2 = .inr (1, [.int v1, .int v3, .int v5, .ref (ad 3), .ref (ad 5), .ref (ad 6), .int v6, .int v7, .ref (ad 7), .ref (ad 8), .ref (ad 9), .ref (ad 10), .int v9, .ref (ad 15), .ref (ad 16)]) := ((o144 2 (by decide)).trans c141)
  have q155 : fld (S144 2) 0 = v1.toInt := fld_of c154 rfl
  have q156 : fld (S 75) 1 = v3.toInt := fld_of c11 rfl
  have q157 : fld (S144 2) 1 = v3.toInt := fld_of c154 rfl
  have q158 : fld (S 75) 7 = v7.toInt := fld_of c11 rfl
  have q159 : fld (S144 2) 7 = v7.toInt := fld_of c154 rfl
  have q160 : fld (S 75) 12 = v9.toInt := fld_of c11 rfl
  have q161 : fld (S144 2) 12 = v9.toInt := fld_of c154 rfl
  exact xrv E hr hlk hQ (⟨hI, (o_trans (up_o (up_o (o_trans (up_o (up_o (up_o (up_o (up_o (up_o (up_o (o_trans (up_o (up_o (up_o o_refl eS35 (by decide)) eS38 (by decide)) eS41 (by decide)) o53 (by decide)) eS71 (by decide)) eS81 (by decide)) eS85 (by decide)) eS88 (by decide)) eS97 (by decide)) eS107 (by decide)) eS118 (by decide)) o123 (by decide)) eS129 (by decide)) eS138 (by decide)) o144 (by decide)), ⟨by omega, by omega⟩, ⟨by omega, by omega⟩, ⟨by omega, by omega⟩, ⟨by omega, by omega⟩, u144_0⟩) dX1_copyFrom_187
set_option maxHeartbeats 4000000 in
set_option maxRecDepth 100000 in
theorem gX11_shore_0 (l : Launch) (g : GG) (tt : TT) (ad : Nat → Nat) (hD : Dj ad 122) (S : SS) (hI : InvX g ad S) (hq1 : 0 ≤ 1201 * fld (S 2) 1 + (-1) * fld (S 2) 0) (hq2 : 0 ≤ 8 * fld (S 2) 1 + (-1) * fld (S 2) 7) (hq3 : 0 ≤ 3 * fld (S 2) 1 + (-1) * fld (S 2) 12) (hAR2 : ARp (S 16) (S 17) (S 18) (S 19)) : Met l yX11_shore (wG (.code yX11_shore cX11_shore 1 (some .int))) (Rm 9) (XPreT g tt ad 122 S [.ref (ad 0)]) (va_Qi (fun r S' => InvX g ad S' ∧ (∀ j, j ∉ ([0, 2, 3, 4, 5, 6, 7, 8, 9, 10, 11, 12, 13, 14, 15, 16, 17, 18, 19, 20, 21, 22, 23, 24, 25, 26, 27, 28, 29, 30, 31, 32, 33, 34, 94, 95, 96, 97, 98] : List Nat) → S' j = S j) ∧ Bd r (-4) (1201) ∧ (0 ≤ 1201 * fld (S' 2) 1 + (-1) * fld (S' 2) 0) ∧ (0 ≤ 8 * fld (S' 2) 1 + (-1) * fld (S' 2) 7) ∧ (0 ≤ 3 * fld (S' 2) 1 + (-1) * fld (S' 2) 12) ∧ (ARp (S' 16) (S' 17) (S' 18) (S' 19))) (QB g ad 122) (FA ad 122)) 0 0 (FA ad 122) := by
  refine xmetT cX11_shore "EbbWreck" (by decide) rfl (Nat.le_of_ble_eq_true rfl) (fun p e s m below meth c E hT hr hlk hml hQ ls hl => ?_)
  have hx := E.1
  have hb := E.2.1
  have hs : Sp ad 122 (FA ad 122) := Sp.fa hD
  have hl : lv_has ls 1 [(0, .ref (ad 0))] := hl
  obtain ⟨v1, v3, v5, v6, v7, v9, c11, b2, b4, b8, b10⟩ := invX_2 hI
  have c11 : S 2 = .inr (1, [.int v1, .int v3, .int v5, .ref (ad 3), .ref (ad 5), .ref (ad 6), .int v6, .int v7, .ref (ad 7), .ref (ad 8), .ref (ad 9), .ref (ad 10), .int v9, .ref (ad 15), .ref (ad 16)]) := c11
  have q12 : fld (S 2) 1 = v3.toInt := fld_of c11 rfl
  have q13 : fld (S 2) 0 = v1.toInt := fld_of c11 rfl
  have q14 : fld (S 2) 7 = v7.toInt := fld_of c11 rfl
  have q15 : fld (S 2) 12 = v9.toInt := fld_of c11 rfl
  obtain ⟨v16, c18, b17⟩ := invX_16 hI
  have c18 : S 16 = .inr (0, [.int v16, .ref (ad 17), .ref (ad 18), .ref (ad 19)]) := c18
  obtain ⟨f19, c20⟩ := invX_17 hI
  obtain ⟨f22, c23, b24⟩ := invX_18 hI
  obtain ⟨f25, c26, b27⟩ := invX_19 hI
  refine lv_aload_n hx hb dX11_shore_0 rfl (lv_at hl 0 rfl) ?_
  obtain ⟨v28, v30, v31, c32, b29⟩ := invX_0 hI
  have c32 : S 0 = .inr (11, [.ref (ad 1), .int v28, .int v30, .int v31, .ref (ad 2), .ref (ad 20), .ref (ad 38), .ref (ad 93), .ref (ad 94), .ref (ad 95), .ref (ad 102), .ref (ad 104), .ref (ad 107), .ref (ad 111), .ref (ad 119)]) := c32
  refine xget E hQ 0 (by decide) c32 rfl 8 (by decide) q524 rfl dX11_shore_1 ?_
  refine lv_aload_n hx hb dX11_shore_4 rfl (lv_at hl 0 rfl) ?_
  refine xget E hQ 0 (by decide) c32 rfl 1 (by decide) q517 rfl dX11_shore_5 ?_
  obtain ⟨v34, v36, v37, v39, v41, v42, v44, c45, b35, b38, b40, b43⟩ := invX_94 hI
  have c45 : S 94 = .inr (5, [.ref (ad 1), .ref (ad 20), .int v34, .int v36, .int v37, .int v39, .int v41, .int v42, .int v44]) := c45
  refine xcVvT E hs hQ hml hl.1 hT 94 (gX5_read_94 l g tt ad hD S hI v28) mX5_read q578 (by decide) c45 rfl rfl ⟨(Nat.le_of_ble_eq_true rfl), (Nat.le_of_ble_eq_true rfl)⟩ ⟨(Nat.le_of_ble_eq_true rfl), (Nat.le_of_ble_eq_true rfl)⟩ (Nat.le_of_ble_eq_true rfl) rfl dX11_shore_8 (fun S33 H locs hp33 hQ _ => ?_)
  obtain ⟨hI, o33, g33_0, g33_1, g33_2, g33_3⟩ := hp33
  obtain ⟨v46, v48, v50, v51, v52, v54, c56, b47, b49, b53, b55⟩ := invX_20 hI
  have c56 : S33 20 = .inr (1, [.int v46, .int v48, .int v50, .ref (ad 21), .ref (ad 23), .ref (ad 24), .int v51, .int v52, .ref (ad 25), .ref (ad 26), .ref (ad 27), .ref (ad 28), .int v54, .ref (ad 33), .ref (ad 34)]) := c56
  have q57 : fld (S33 20) 1 = v48.toInt := fld_of c56 rfl
  have q58 : fld (S33 20) 0 = v46.toInt := fld_of c56 rfl
  have q59 : fld (S33 20) 7 = v52.toInt := fld_of c56 rfl
  have q60 : fld (S33 20) 12 = v54.toInt := fld_of c56 rfl
  obtain ⟨v61, c63, b62⟩ := invX_34 hI
  have c63 : S33 34 = .inr (0, [.int v61, .ref (ad 35), .ref (ad 36), .ref (ad 37)]) := c63
  have q64 : fld (S33 34) 0 = v61.toInt := fld_of c63 rfl
  have b65 : Bd v61 (0) (0) := ⟨by omega, by omega⟩
  refine lv_aload_n hx hb dX11_shore_11 rfl (lv_at hl 0 rfl) ?_
  refine lv_aload_n hx hb dX11_shore_12 rfl (lv_at hl 0 rfl) ?_
  have c66 : S33 0 = .inr (11, [.ref (ad 1), .int v28, .int v30, .int v31, .ref (ad 2), .ref (ad 20), .ref (ad 38), .ref (ad 93), .ref (ad 94), .ref (ad 95), .ref (ad 102), .ref (ad 104), .ref (ad 107), .ref (ad 111), .ref (ad 119)]) := ((o33 0 (by decide)).trans c32)
  refine xget E hQ 0 (by decide) c66 rfl 8 (by decide) q524 rfl dX11_shore_13 ?_
  obtain ⟨v67, v69, v70, v72, v74, v75, v77, c78, b68, b71, b73, b76⟩ := invX_94 hI
  have c78 : S33 94 = .inr (5, [.ref (ad 1), .ref (ad 20), .int v67, .int v69, .int v70, .int v72, .int v74, .int v75, .int v77]) := c78
  refine xget E hQ 94 (by decide) c78 rfl 7 (by decide) q350 rfl dX11_shore_16 ?_
  refine xputi E hs hQ 0 (by decide) c66 rfl 2 (by decide) q518 rfl rfl (Nat.le_of_ble_eq_true rfl) dX11_shore_19 (fun H locs S79 eS79 hQ => ?_)
  have hI := invX_up_0 hI eS79 ⟨v28, v75, v31, rfl, b29⟩
  have c80 : S79 0 = .inr (11, [.ref (ad 1), .int v28, .int v75, .int v31, .ref (ad 2), .ref (ad 20), .ref (ad 38), .ref (ad 93), .ref (ad 94), .ref (ad 95), .ref (ad 102), .ref (ad 104), .ref (ad 107), .ref (ad 111), .ref (ad 119)]) := up_at eS79 rfl
  refine lv_aload_n hx hb dX11_shore_22 rfl (lv_at hl 0 rfl) ?_
  refine lv_aload_n hx hb dX11_shore_23 rfl (lv_at hl 0 rfl) ?_
  refine xget E hQ 0 (by decide) c80 rfl 8 (by decide) q524 rfl dX11_shore_24 ?_
  have c81 : S79 94 = .inr (5, [.ref (ad 1), .ref (ad 20), .int v67, .int v69, .int v70, .int v72, .int v74, .int v75, .int v77]) := (up_ne eS79 (by decide) c78)
  refine xget E hQ 94 (by decide) c81 rfl 8 (by decide) q352 rfl dX11_shore_27 ?_
  refine xputi E hs hQ 0 (by decide) c80 rfl 3 (by decide) q519 rfl rfl (Nat.le_of_ble_eq_true rfl) dX11_shore_30 (fun H locs S82 eS82 hQ => ?_)
  have hI := invX_up_0 hI eS82 ⟨v28, v75, v77, rfl, b29⟩
  have c83 : S82 0 = .inr (11, [.ref (ad 1), .int v28, .int v75, .int v77, .ref (ad 2), .ref (ad 20), .ref (ad 38), .ref (ad 93), .ref (ad 94), .ref (ad 95), .ref (ad 102), .ref (ad 104), .ref (ad 107), .ref (ad 111), .ref (ad 119)]) := up_at eS82 rfl
  refine lv_aload_n hx hb dX11_shore_33 rfl (lv_at hl 0 rfl) ?_
  refine xget E hQ 0 (by decide) c83 rfl 2 (by decide) q518 rfl dX11_shore_34 ?_
  refine lv_if_eq (tgt := 43) hx hb dX11_shore_37 (by decide) (fun k84 => ?_) (fun k84 => ?_)
  · have h85 := ib_eq k84
    have b86 : Bd v75 (0) (0) := ⟨(b76).1, ((rf_eq b76 (by decide : Bd 0 (0) (0)) h85).1).2⟩
    refine lv_aload_n hx hb dX11_shore_43 rfl (lv_at hl 0 rfl) ?_
    refine xget E hQ 0 (by decide) c83 rfl 4 (by decide) q520 rfl dX11_shore_44 ?_
    refine lv_aload_n hx hb dX11_shore_47 rfl (lv_at hl 0 rfl) ?_
    refine xget E hQ 0 (by decide) c83 rfl 5 (by decide) q521 rfl dX11_shore_48 ?_
    have c87 : S82 34 = .inr (0, [.int v61, .ref (ad 35), .ref (ad 36), .ref (ad 37)]) := (up_ne eS82 (by decide) (up_ne eS79 (by decide) c63))
    have q88 : fld (S82 34) 0 = v61.toInt := fld_of c87 rfl
    have c89 : S82 20 = .inr (1, [.int v46, .int v48, .int v50, .ref (ad 21), .ref (ad 23), .ref (ad 24), .int v51, .int v52, .ref (ad 25), .ref (ad 26), .ref (ad 27), .ref (ad 28), .int v54, .ref (ad 33), .ref (ad 34)]) := (up_ne eS82 (by decide) (up_ne eS79 (by decide) c56))
    have c91 : S82 2 = .inr (1, [.int v1, .int v3, .int v5, .ref (ad 3), .ref (ad 5), .ref (ad 6), .int v6, .int v7, .ref (ad 7), .ref (ad 8), .ref (ad 9), .ref (ad 10), .int v9, .ref (ad 15), .ref (ad 16)]) := (up_ne eS82 (by decide) (up_ne eS79 (by decide) ((o33 2 (by decide)).trans c11)))
    refine xcVv E hs hQ hml hl.1 2 (gX1_copyFrom_2_20 l g ad hD S82 hI (ar_z (by omega))) mX1_copyFrom q745 (by decide) c91 rfl rfl ⟨(Nat.le_of_ble_eq_true rfl), (Nat.le_of_ble_eq_true rfl)⟩ ⟨(Nat.le_of_ble_eq_true rfl), (Nat.le_of_ble_eq_true rfl)⟩ (Nat.le_of_ble_eq_true rfl) rfl dX11_shore_51 (fun S90 H locs hp90 hQ _ => ?_)
    obtain ⟨hI, o90, g90_0, g90_1, g90_2, g90_3, u90_0⟩ := hp90
    have q92 : fld (S82 20) 0 = v46.toInt := fld_of c89 rfl
    obtain ⟨v93, v95, v97, v98, v99, v101, c103, b94, b96, b100, b102⟩ := invX_2 hI
    have c103 : S90 2 = .inr (1, [.int v93, .int v95, .int v97, .ref (ad 3), .ref (ad 5), .ref (ad 6), .int v98, .int v99, .ref (ad 7), .ref (ad 8), .ref (ad 9), .ref (ad 10), .int v101, .ref (ad 15), .ref (ad 16)]) := c103
    have q104 : fld (S90 2) 0 = v93.toInt := fld_of c103 rfl
    have q105 : fld (S82 20) 1 = v48.toInt := fld_of c89 rfl
    have q106 : fld (S90 2) 1 = v95.toInt := fld_of c103 rfl
    have q107 : fld (S82 20) 7 = v52.toInt := fld_of c89 rfl
    have q108 : fld (S90 2) 7 = v99.toInt := fld_of c103 rfl
    have q109 : fld (S82 20) 12 = v54.toInt := fld_of c89 rfl
    have q110 : fld (S90 2) 12 = v101.toInt := fld_of c103 rfl
    refine lv_aload_n hx hb dX11_shore_54 rfl (lv_at hl 0 rfl) ?_
    refine lv_iconst (v := 0) hx hb dX11_shore_55 (by decide) ?_
    have c111 : S90 0 = .inr (11, [.ref (ad 1), .int v28, .int v75, .int v77, .ref (ad 2), .ref (ad 20), .ref (ad 38), .ref (ad 93), .ref (ad 94), .ref (ad 95), .ref (ad 102), .ref (ad 104), .ref (ad 107), .ref (ad 111), .ref (ad 119)]) := ((o90 0 (by decide)).trans c83)
    refine xputi E hs hQ 0 (by decide) c111 rfl 1 (by decide) q517 rfl rfl (Nat.le_of_ble_eq_true rfl) dX11_shore_56 (fun H locs S112 eS112 hQ => ?_)
    have hI := invX_up_0 hI eS112 ⟨0, v75, v77, rfl, (ib_wk (by decide : Bd 0 (0) (0)) (by decide) (by decide))⟩
    have c113 : S112 0 = .inr (11, [.ref (ad 1), .int 0, .int v75, .int v77, .ref (ad 2), .ref (ad 20), .ref (ad 38), .ref (ad 93), .ref (ad 94), .ref (ad 95), .ref (ad 102), .ref (ad 104), .ref (ad 107), .ref (ad 111), .ref (ad 119)]) := up_at eS112 rfl
    refine lv_aload_n hx hb dX11_shore_59 rfl (lv_at hl 0 rfl) ?_
    refine xget E hQ 0 (by decide) c113 rfl 9 (by decide) q525 rfl dX11_shore_60 ?_
    have c114 : S112 2 = .inr (1, [.int v93, .int v95, .int v97, .ref (ad 3), .ref (ad 5), .ref (ad 6), .int v98, .int v99, .ref (ad 7), .ref (ad 8), .ref (ad 9), .ref (ad 10), .int v101, .ref (ad 15), .ref (ad 16)]) := (up_ne eS112 (by decide) c103)
    have q115 : fld (S112 2) 1 = v95.toInt := fld_of c114 rfl
    have q116 : fld (S112 2) 0 = v93.toInt := fld_of c114 rfl
    have q117 : fld (S112 2) 7 = v99.toInt := fld_of c114 rfl
    have q118 : fld (S112 2) 12 = v101.toInt := fld_of c114 rfl
    obtain ⟨v120, v121, c123, b122⟩ := invX_95 hI
    have c123 : S112 95 = .inr (2, [.ref (ad 2), .ref (ad 96), .ref (ad 97), .ref (ad 98), .ref (ad 99), .ref (ad 100), .ref (ad 101), .int v120, .int v121]) := c123
    refine xcVv E hs hQ hml hl.1 95 (gX2_settleAll_95 l g ad hD S112 hI (by omega) (by omega) (by omega)) mX2_settleAll q762 (by decide) c123 rfl rfl ⟨(Nat.le_of_ble_eq_true rfl), (Nat.le_of_ble_eq_true rfl)⟩ ⟨(Nat.le_of_ble_eq_true rfl), (Nat.le_of_ble_eq_true rfl)⟩ (Nat.le_of_ble_eq_true rfl) rfl dX11_shore_63 (fun S119 H locs hp119 hQ _ => ?_)
    obtain ⟨hI, o119⟩ := hp119
    refine lv_aload_n hx hb dX11_shore_66 rfl (lv_at hl 0 rfl) ?_
    have c124 : S119 0 = .inr (11, [.ref (ad 1), .int 0, .int v75, .int v77, .ref (ad 2), .ref (ad 20), .ref (ad 38), .ref (ad 93), .ref (ad 94), .ref (ad 95), .ref (ad 102), .ref (ad 104), .ref (ad 107), .ref (ad 111), .ref (ad 119)]) := ((o119 0 (by decide)).trans c113)
    refine xget E hQ 0 (by decide) c124 rfl 4 (by decide) q520 rfl dX11_shore_67 ?_
    have c125 : S119 2 = .inr (1, [.int v93, .int v95, .int v97, .ref (ad 3), .ref (ad 5), .ref (ad 6), .int v98, .int v99, .ref (ad 7), .ref (ad 8), .ref (ad 9), .ref (ad 10), .int v101, .ref (ad 15), .ref (ad 16)]) := ((o119 2 (by decide)).trans c114)
    refine xget E hQ 2 (by decide) c125 rfl 0 (by decide) q238 rfl dX11_shore_70 ?_
    have q126 : fld (S119 2) 1 = v95.toInt := fld_of c125 rfl
    have q127 : fld (S119 2) 0 = v93.toInt := fld_of c125 rfl
    have q128 : fld (S119 2) 7 = v99.toInt := fld_of c125 rfl
    have q129 : fld (S119 2) 12 = v101.toInt := fld_of c125 rfl
    exact xri E hr hlk hQ (⟨hI, (o_trans (up_o (o_trans (up_o (up_o (o_trans o_refl o33 (by decide)) eS79 (by decide)) eS82 (by decide)) o90 (by decide)) eS112 (by decide)) o119 (by decide)), (ib_wk b94 (by decide) (by decide)), (by omega), (by omega), (by omega), (ar_tr u90_0 ((o119 16 (by decide)).trans (up_eq (j := 16) eS112 (by decide))) ((o119 17 (by decide)).trans (up_eq (j := 17) eS112 (by decide))) ((o119 18 (by decide)).trans (up_eq (j := 18) eS112 (by decide))) ((o119 19 (by decide)).trans (up_eq (j := 19) eS112 (by decide))))⟩) dX11_shore_73
  · have h130 := ib_ne k84
    have b131 : Bd v75 (1) (3) := rf_nlo b76 (by decide : Bd 0 (0) (0)) h130
    refine lv_bipush (v := (-4)) hx hb dX11_shore_40 (by decide) ?_
    have c132 : S82 2 = .inr (1, [.int v1, .int v3, .int v5, .ref (ad 3), .ref (ad 5), .ref (ad 6), .int v6, .int v7, .ref (ad 7), .ref (ad 8), .ref (ad 9), .ref (ad 10), .int v9, .ref (ad 15), .ref (ad 16)]) := (up_ne eS82 (by decide) (up_ne eS79 (by decide) ((o33 2 (by decide)).trans c11)))
    have q133 : fld (S82 2) 1 = v3.toInt := fld_of c132 rfl
    have q134 : fld (S82 2) 0 = v1.toInt := fld_of c132 rfl
    have q135 : fld (S82 2) 7 = v7.toInt := fld_of c132 rfl
    have q136 : fld (S82 2) 12 = v9.toInt := fld_of c132 rfl
    exact xri E hr hlk hQ (⟨hI, (up_o (up_o (o_trans o_refl o33 (by decide)) eS79 (by decide)) eS82 (by decide)), (ib_wk (by decide : Bd (-4) (-4) (-4)) (by decide) (by decide)), (by omega), (by omega), (by omega), (ar_tr hAR2 ((up_eq (j := 16) eS82 (by decide)).trans ((up_eq (j := 16) eS79 (by decide)).trans (o33 16 (by decide)))) ((up_eq (j := 17) eS82 (by decide)).trans ((up_eq (j := 17) eS79 (by decide)).trans (o33 17 (by decide)))) ((up_eq (j := 18) eS82 (by decide)).trans ((up_eq (j := 18) eS79 (by decide)).trans (o33 18 (by decide)))) ((up_eq (j := 19) eS82 (by decide)).trans ((up_eq (j := 19) eS79 (by decide)).trans (o33 19 (by decide)))))⟩) dX11_shore_42
set_option maxHeartbeats 4000000 in
set_option maxRecDepth 100000 in
theorem gX11_image_0 (l : Launch) (g : GG) (ad : Nat → Nat) (hD : Dj ad 122) (S : SS) (hI : InvX g ad S) (a1 : Int32) (hq1 : 0 ≤ 1201 * fld (S 2) 1 + (-1) * fld (S 2) 0) (hq2 : 0 ≤ 8 * fld (S 2) 1 + (-1) * fld (S 2) 7) (hq3 : 0 ≤ 3 * fld (S 2) 1 + (-1) * fld (S 2) 12) (hq4 : 0 ≤ 1201 * fld (S 39) 1 + (-1) * fld (S 39) 0) (hq5 : 0 ≤ 8 * fld (S 39) 1 + (-1) * fld (S 39) 7) (hq6 : 0 ≤ 3 * fld (S 39) 1 + (-1) * fld (S 39) 12) (hq7 : 0 ≤ 1201 * fld (S 57) 1 + (-1) * fld (S 57) 0) (hq8 : 0 ≤ 8 * fld (S 57) 1 + (-1) * fld (S 57) 7) (hq9 : 0 ≤ 3 * fld (S 57) 1 + (-1) * fld (S 57) 12) (hq10 : 0 ≤ 1201 * fld (S 75) 1 + (-1) * fld (S 75) 0) (hq11 : 0 ≤ 8 * fld (S 75) 1 + (-1) * fld (S 75) 7) (hq12 : 0 ≤ 3 * fld (S 75) 1 + (-1) * fld (S 75) 12) (hAR2 : ARp (S 16) (S 17) (S 18) (S 19)) (hAR39 : ARp (S 53) (S 54) (S 55) (S 56)) (hAR57 : ARp (S 71) (S 72) (S 73) (S 74)) (hAR75 : ARp (S 89) (S 90) (S 91) (S 92)) : Met l yX11_image (wG (.code yX11_image cX11_image 2 (some .int))) (Rm 3) (XPre g ad 122 S [.ref (ad 0), .int a1]) (va_Qi (fun r S' => InvX g ad S' ∧ (∀ j, j ∉ ([39, 40, 41, 42, 43, 44, 45, 46, 47, 48, 49, 50, 51, 52, 53, 54, 55, 56, 57, 58, 59, 60, 61, 62, 63, 64, 65, 66, 67, 68, 69, 70, 71, 72, 73, 74, 75, 76, 77, 78, 79, 80, 81, 82, 83, 84, 85, 86, 87, 88, 89, 90, 91, 92, 93] : List Nat) → S' j = S j) ∧ Bd r (-2) (0) ∧ (0 ≤ 1201 * fld (S' 2) 1 + (-1) * fld (S' 2) 0) ∧ (0 ≤ 8 * fld (S' 2) 1 + (-1) * fld (S' 2) 7) ∧ (0 ≤ 3 * fld (S' 2) 1 + (-1) * fld (S' 2) 12) ∧ (0 ≤ 1201 * fld (S' 39) 1 + (-1) * fld (S' 39) 0) ∧ (0 ≤ 8 * fld (S' 39) 1 + (-1) * fld (S' 39) 7) ∧ (0 ≤ 3 * fld (S' 39) 1 + (-1) * fld (S' 39) 12) ∧ (0 ≤ 1201 * fld (S' 57) 1 + (-1) * fld (S' 57) 0) ∧ (0 ≤ 8 * fld (S' 57) 1 + (-1) * fld (S' 57) 7) ∧ (0 ≤ 3 * fld (S' 57) 1 + (-1) * fld (S' 57) 12) ∧ (0 ≤ 1201 * fld (S' 75) 1 + (-1) * fld (S' 75) 0) ∧ (0 ≤ 8 * fld (S' 75) 1 + (-1) * fld (S' 75) 7) ∧ (0 ≤ 3 * fld (S' 75) 1 + (-1) * fld (S' 75) 12) ∧ (ARp (S' 16) (S' 17) (S' 18) (S' 19)) ∧ (ARp (S' 53) (S' 54) (S' 55) (S' 56)) ∧ (ARp (S' 71) (S' 72) (S' 73) (S' 74)) ∧ (ARp (S' 89) (S' 90) (S' 91) (S' 92)) ∧ (r = ansImage a1) ∧ (PUp (S' 93) (S 93) a1.toInt 1 3)) (QB g ad 122) (FA ad 122)) 0 0 (FA ad 122) := by
  refine xmet cX11_image "EbbWreck" (by decide) rfl (Nat.le_of_ble_eq_true rfl) (fun p e s m below meth c E hr hlk hml hQ ls hl => ?_)
  have hx := E.1
  have hb := E.2.1
  have hs : Sp ad 122 (FA ad 122) := Sp.fa hD
  have hl : lv_has ls 2 [(0, .ref (ad 0)), (1, .int a1)] := hl
  obtain ⟨v1, v3, v5, v6, v7, v9, c11, b2, b4, b8, b10⟩ := invX_2 hI
  have c11 : S 2 = .inr (1, [.int v1, .int v3, .int v5, .ref (ad 3), .ref (ad 5), .ref (ad 6), .int v6, .int v7, .ref (ad 7), .ref (ad 8), .ref (ad 9), .ref (ad 10), .int v9, .ref (ad 15), .ref (ad 16)]) := c11
  obtain ⟨v12, v14, v16, v17, v18, v20, c22, b13, b15, b19, b21⟩ := invX_39 hI
  have c22 : S 39 = .inr (1, [.int v12, .int v14, .int v16, .ref (ad 40), .ref (ad 42), .ref (ad 43), .int v17, .int v18, .ref (ad 44), .ref (ad 45), .ref (ad 46), .ref (ad 47), .int v20, .ref (ad 52), .ref (ad 53)]) := c22
  obtain ⟨v23, v25, v27, v28, v29, v31, c33, b24, b26, b30, b32⟩ := invX_57 hI
  have c33 : S 57 = .inr (1, [.int v23, .int v25, .int v27, .ref (ad 58), .ref (ad 60), .ref (ad 61), .int v28, .int v29, .ref (ad 62), .ref (ad 63), .ref (ad 64), .ref (ad 65), .int v31, .ref (ad 70), .ref (ad 71)]) := c33
  obtain ⟨v34, v36, v38, v39, v40, v42, c44, b35, b37, b41, b43⟩ := invX_75 hI
  have c44 : S 75 = .inr (1, [.int v34, .int v36, .int v38, .ref (ad 76), .ref (ad 78), .ref (ad 79), .int v39, .int v40, .ref (ad 80), .ref (ad 81), .ref (ad 82), .ref (ad 83), .int v42, .ref (ad 88), .ref (ad 89)]) := c44
  have q45 : fld (S 2) 1 = v3.toInt := fld_of c11 rfl
  have q46 : fld (S 2) 0 = v1.toInt := fld_of c11 rfl
  have q47 : fld (S 2) 7 = v7.toInt := fld_of c11 rfl
  have q48 : fld (S 2) 12 = v9.toInt := fld_of c11 rfl
  have q49 : fld (S 39) 1 = v14.toInt := fld_of c22 rfl
  have q50 : fld (S 39) 0 = v12.toInt := fld_of c22 rfl
  have q51 : fld (S 39) 7 = v18.toInt := fld_of c22 rfl
  have q52 : fld (S 39) 12 = v20.toInt := fld_of c22 rfl
  have q53 : fld (S 57) 1 = v25.toInt := fld_of c33 rfl
  have q54 : fld (S 57) 0 = v23.toInt := fld_of c33 rfl
  have q55 : fld (S 57) 7 = v29.toInt := fld_of c33 rfl
  have q56 : fld (S 57) 12 = v31.toInt := fld_of c33 rfl
  have q57 : fld (S 75) 1 = v36.toInt := fld_of c44 rfl
  have q58 : fld (S 75) 0 = v34.toInt := fld_of c44 rfl
  have q59 : fld (S 75) 7 = v40.toInt := fld_of c44 rfl
  have q60 : fld (S 75) 12 = v42.toInt := fld_of c44 rfl
  obtain ⟨v61, c63, b62⟩ := invX_16 hI
  have c63 : S 16 = .inr (0, [.int v61, .ref (ad 17), .ref (ad 18), .ref (ad 19)]) := c63
  obtain ⟨f64, c65⟩ := invX_17 hI
  obtain ⟨f67, c68, b69⟩ := invX_18 hI
  obtain ⟨f70, c71, b72⟩ := invX_19 hI
  obtain ⟨v73, c75, b74⟩ := invX_53 hI
  have c75 : S 53 = .inr (0, [.int v73, .ref (ad 54), .ref (ad 55), .ref (ad 56)]) := c75
  obtain ⟨f76, c77⟩ := invX_54 hI
  obtain ⟨f79, c80, b81⟩ := invX_55 hI
  obtain ⟨f82, c83, b84⟩ := invX_56 hI
  obtain ⟨v85, c87, b86⟩ := invX_71 hI
  have c87 : S 71 = .inr (0, [.int v85, .ref (ad 72), .ref (ad 73), .ref (ad 74)]) := c87
  obtain ⟨f88, c89⟩ := invX_72 hI
  obtain ⟨f91, c92, b93⟩ := invX_73 hI
  obtain ⟨f94, c95, b96⟩ := invX_74 hI
  obtain ⟨v97, c99, b98⟩ := invX_89 hI
  have c99 : S 89 = .inr (0, [.int v97, .ref (ad 90), .ref (ad 91), .ref (ad 92)]) := c99
  obtain ⟨f100, c101⟩ := invX_90 hI
  obtain ⟨f103, c104, b105⟩ := invX_91 hI
  obtain ⟨f106, c107, b108⟩ := invX_92 hI
  obtain ⟨f109, c110, b111⟩ := invX_93 hI
  refine lv_iload_n hx hb dX11_image_0 rfl (lv_at hl 1 rfl) ?_
  refine lv_if_lt (tgt := 9) hx hb dX11_image_1 (by decide) (fun k112 => ?_) (fun k112 => ?_)
  · have h113 := ib_lt k112
    have b114 : Bd a1 (-2147483648) (-1) := ⟨((ib_full a1)).1, ((rf_lt (ib_full a1) (by decide : Bd 0 (0) (0)) h113).1).2⟩
    refine lv_bipush (v := (-2)) hx hb dX11_image_9 (by decide) ?_
    exact xri E hr hlk hQ (⟨hI, o_refl, (ib_wk (by decide : Bd (-2) (-2) (-2)) (by decide) (by decide)), (by omega), (by omega), (by omega), (by omega), (by omega), (by omega), (by omega), (by omega), (by omega), (by omega), (by omega), (by omega), hAR2, hAR39, hAR57, hAR75, (by unfold ansImage; rw [if_pos (by omega)]), (pu_no rfl (by omega))⟩) dX11_image_11
  · have h115 := ib_nlt k112
    have b116 : Bd a1 (0) (2147483647) := ⟨((rf_le (by decide : Bd 0 (0) (0)) (ib_full a1) h115).2).1, ((ib_full a1)).2⟩
    refine lv_iload_n hx hb dX11_image_4 rfl (lv_at hl 1 rfl) ?_
    refine lv_iconst (v := 3) hx hb dX11_image_5 (by decide) ?_
    refine lv_icmp_lt (tgt := 12) hx hb dX11_image_6 (by decide) (fun k117 => ?_) (fun k117 => ?_)
    · have h118 := ib_lt k117
      have b119 : Bd a1 (0) (2) := ⟨(b116).1, ((rf_lt b116 (by decide : Bd 3 (3) (3)) h118).1).2⟩
      refine lv_aload_n hx hb dX11_image_12 rfl (lv_at hl 0 rfl) ?_
      obtain ⟨v120, v122, v123, c124, b121⟩ := invX_0 hI
      have c124 : S 0 = .inr (11, [.ref (ad 1), .int v120, .int v122, .int v123, .ref (ad 2), .ref (ad 20), .ref (ad 38), .ref (ad 93), .ref (ad 94), .ref (ad 95), .ref (ad 102), .ref (ad 104), .ref (ad 107), .ref (ad 111), .ref (ad 119)]) := c124
      refine xget E hQ 0 (by decide) c124 rfl 6 (by decide) q522 rfl dX11_image_13 ?_
      refine lv_iload_n hx hb dX11_image_16 rfl (lv_at hl 1 rfl) ?_
      have c125 : S 38 = _ := invX_38 hI
      rcases bd_c3 b119 with h126 | h126 | h126
      · refine xqald E hQ 38 (by decide) c125 (by rw [h126]; exact vp_in_lit 0 3 (by decide)) (by rw [h126]; rfl) dX11_image_17 ?_
        have b127 : Bd a1 (0) (0) := (by rw [h126]; decide)
        refine lv_aload_n hx hb dX11_image_18 rfl (lv_at hl 0 rfl) ?_
        refine xget E hQ 0 (by decide) c124 rfl 4 (by decide) q520 rfl dX11_image_19 ?_
        refine xcVv E hs hQ hml hl.1 39 (gX1_copyFrom_39_2 l g ad hD S hI hAR2) mX1_copyFrom q745 (by decide) c22 rfl rfl ⟨(Nat.le_of_ble_eq_true rfl), (Nat.le_of_ble_eq_true rfl)⟩ ⟨(Nat.le_of_ble_eq_true rfl), (Nat.le_of_ble_eq_true rfl)⟩ (Nat.le_of_ble_eq_true rfl) rfl dX11_image_22 (fun S128 H locs hp128 hQ _ => ?_)
        obtain ⟨hI, o128, g128_0, g128_1, g128_2, g128_3, u128_0⟩ := hp128
        obtain ⟨v129, v131, v133, v134, v135, v137, c139, b130, b132, b136, b138⟩ := invX_39 hI
        have c139 : S128 39 = .inr (1, [.int v129, .int v131, .int v133, .ref (ad 40), .ref (ad 42), .ref (ad 43), .int v134, .int v135, .ref (ad 44), .ref (ad 45), .ref (ad 46), .ref (ad 47), .int v137, .ref (ad 52), .ref (ad 53)]) := c139
        have q140 : fld (S128 39) 0 = v129.toInt := fld_of c139 rfl
        have q141 : fld (S128 39) 1 = v131.toInt := fld_of c139 rfl
        have q142 : fld (S128 39) 7 = v135.toInt := fld_of c139 rfl
        have q143 : fld (S128 39) 12 = v137.toInt := fld_of c139 rfl
        refine lv_aload_n hx hb dX11_image_25 rfl (lv_at hl 0 rfl) ?_
        have c144 : S128 0 = .inr (11, [.ref (ad 1), .int v120, .int v122, .int v123, .ref (ad 2), .ref (ad 20), .ref (ad 38), .ref (ad 93), .ref (ad 94), .ref (ad 95), .ref (ad 102), .ref (ad 104), .ref (ad 107), .ref (ad 111), .ref (ad 119)]) := ((o128 0 (by decide)).trans c124)
        refine xget E hQ 0 (by decide) c144 rfl 7 (by decide) q523 rfl dX11_image_26 ?_
        refine lv_iload_n hx hb dX11_image_29 rfl (lv_at hl 1 rfl) ?_
        refine lv_iconst (v := 1) hx hb dX11_image_30 (by decide) ?_
        have c145 : S128 93 = .inl (g.2 3, 3, .inl f109) := ((o128 93 (by decide)).trans c110)
        refine xzast E hs hQ 93 (by decide) c145 (ib_in b127 (by decide) (by decide)) dX11_image_31 (fun H locs S146 eS146 hQ => ?_)
        have hI := invX_up_93 hI eS146 ⟨_, rfl, upd_b b111 (nar_z _)⟩
        have b148 : ∀ j, Bd ((upd f109 (a1 : Int32).toNatClampNeg (vp_nar .boolean 1)) j) (0) (1) := upd_b b111 (nar_z _)
        have c147 : S146 93 = .inl (g.2 3, 3, .inl (upd f109 (a1 : Int32).toNatClampNeg (vp_nar .boolean 1))) := up_at eS146 rfl
        refine lv_iconst (v := 0) hx hb dX11_image_32 (by decide) ?_
        have c149 : S146 2 = .inr (1, [.int v1, .int v3, .int v5, .ref (ad 3), .ref (ad 5), .ref (ad 6), .int v6, .int v7, .ref (ad 7), .ref (ad 8), .ref (ad 9), .ref (ad 10), .int v9, .ref (ad 15), .ref (ad 16)]) := (up_ne eS146 (by decide) ((o128 2 (by decide)).trans c11))
        have q150 : fld (S146 2) 1 = v3.toInt := fld_of c149 rfl
        have q151 : fld (S146 2) 0 = v1.toInt := fld_of c149 rfl
        have q152 : fld (S146 2) 7 = v7.toInt := fld_of c149 rfl
        have q153 : fld (S146 2) 12 = v9.toInt := fld_of c149 rfl
        have c154 : S146 39 = .inr (1, [.int v129, .int v131, .int v133, .ref (ad 40), .ref (ad 42), .ref (ad 43), .int v134, .int v135, .ref (ad 44), .ref (ad 45), .ref (ad 46), .ref (ad 47), .int v137, .ref (ad 52), .ref (ad 53)]) := (up_ne eS146 (by decide) c139)
        have q155 : fld (S146 39) 1 = v131.toInt := fld_of c154 rfl
        have q156 : fld (S146 39) 0 = v129.toInt := fld_of c154 rfl
        have q157 : fld (S146 39) 7 = v135.toInt := fld_of c154 rfl
        have q158 : fld (S146 39) 12 = v137.toInt := fld_of c154 rfl
        have c159 : S146 57 = .inr (1, [.int v23, .int v25, .int v27, .ref (ad 58), .ref (ad 60), .ref (ad 61), .int v28, .int v29, .ref (ad 62), .ref (ad 63), .ref (ad 64), .ref (ad 65), .int v31, .ref (ad 70), .ref (ad 71)]) := (up_ne eS146 (by decide) ((o128 57 (by decide)).trans c33))
        have q160 : fld (S146 57) 1 = v25.toInt := fld_of c159 rfl
        have q161 : fld (S146 57) 0 = v23.toInt := fld_of c159 rfl
        have q162 : fld (S146 57) 7 = v29.toInt := fld_of c159 rfl
        have q163 : fld (S146 57) 12 = v31.toInt := fld_of c159 rfl
        have c164 : S146 75 = .inr (1, [.int v34, .int v36, .int v38, .ref (ad 76), .ref (ad 78), .ref (ad 79), .int v39, .int v40, .ref (ad 80), .ref (ad 81), .ref (ad 82), .ref (ad 83), .int v42, .ref (ad 88), .ref (ad 89)]) := (up_ne eS146 (by decide) ((o128 75 (by decide)).trans c44))
        have q165 : fld (S146 75) 1 = v36.toInt := fld_of c164 rfl
        have q166 : fld (S146 75) 0 = v34.toInt := fld_of c164 rfl
        have q167 : fld (S146 75) 7 = v40.toInt := fld_of c164 rfl
        have q168 : fld (S146 75) 12 = v42.toInt := fld_of c164 rfl
        exact xri E hr hlk hQ (⟨hI, (up_o (o_trans o_refl o128 (by decide)) eS146 (by decide)), (ib_wk (by decide : Bd 0 (0) (0)) (by decide) (by decide)), (by omega), (by omega), (by omega), (by omega), (by omega), (by omega), (by omega), (by omega), (by omega), (by omega), (by omega), (by omega), (ar_tr hAR2 ((up_eq (j := 16) eS146 (by decide)).trans (o128 16 (by decide))) ((up_eq (j := 17) eS146 (by decide)).trans (o128 17 (by decide))) ((up_eq (j := 18) eS146 (by decide)).trans (o128 18 (by decide))) ((up_eq (j := 19) eS146 (by decide)).trans (o128 19 (by decide)))), (ar_tr u128_0 (up_eq (j := 53) eS146 (by decide)) (up_eq (j := 54) eS146 (by decide)) (up_eq (j := 55) eS146 (by decide)) (up_eq (j := 56) eS146 (by decide))), (ar_tr hAR57 ((up_eq (j := 71) eS146 (by decide)).trans (o128 71 (by decide))) ((up_eq (j := 72) eS146 (by decide)).trans (o128 72 (by decide))) ((up_eq (j := 73) eS146 (by decide)).trans (o128 73 (by decide))) ((up_eq (j := 74) eS146 (by decide)).trans (o128 74 (by decide)))), (ar_tr hAR75 ((up_eq (j := 89) eS146 (by decide)).trans (o128 89 (by decide))) ((up_eq (j := 90) eS146 (by decide)).trans (o128 90 (by decide))) ((up_eq (j := 91) eS146 (by decide)).trans (o128 91 (by decide))) ((up_eq (j := 92) eS146 (by decide)).trans (o128 92 (by decide)))), (by unfold ansImage; rw [if_neg (by omega)]), (pu_st c110 c147 (by omega) (by decide))⟩) dX11_image_33
      · refine xqald E hQ 38 (by decide) c125 (by rw [h126]; exact vp_in_lit 1 3 (by decide)) (by rw [h126]; rfl) dX11_image_17 ?_
        have b169 : Bd a1 (1) (1) := (by rw [h126]; decide)
        refine lv_aload_n hx hb dX11_image_18 rfl (lv_at hl 0 rfl) ?_
        refine xget E hQ 0 (by decide) c124 rfl 4 (by decide) q520 rfl dX11_image_19 ?_
        refine xcVv E hs hQ hml hl.1 57 (gX1_copyFrom_57_2 l g ad hD S hI hAR2) mX1_copyFrom q745 (by decide) c33 rfl rfl ⟨(Nat.le_of_ble_eq_true rfl), (Nat.le_of_ble_eq_true rfl)⟩ ⟨(Nat.le_of_ble_eq_true rfl), (Nat.le_of_ble_eq_true rfl)⟩ (Nat.le_of_ble_eq_true rfl) rfl dX11_image_22 (fun S170 H locs hp170 hQ _ => ?_)
        obtain ⟨hI, o170, g170_0, g170_1, g170_2, g170_3, u170_0⟩ := hp170
        obtain ⟨v171, v173, v175, v176, v177, v179, c181, b172, b174, b178, b180⟩ := invX_57 hI
        have c181 : S170 57 = .inr (1, [.int v171, .int v173, .int v175, .ref (ad 58), .ref (ad 60), .ref (ad 61), .int v176, .int v177, .ref (ad 62), .ref (ad 63), .ref (ad 64), .ref (ad 65), .int v179, .ref (ad 70), .ref (ad 71)]) := c181
        have q182 : fld (S170 57) 0 = v171.toInt := fld_of c181 rfl
        have q183 : fld (S170 57) 1 = v173.toInt := fld_of c181 rfl
        have q184 : fld (S170 57) 7 = v177.toInt := fld_of c181 rfl
        have q185 : fld (S170 57) 12 = v179.toInt := fld_of c181 rfl
        refine lv_aload_n hx hb dX11_image_25 rfl (lv_at hl 0 rfl) ?_
        have c186 : S170 0 = .inr (11, [.ref (ad 1), .int v120, .int v122, .int v123, .ref (ad 2), .ref (ad 20), .ref (ad 38), .ref (ad 93), .ref (ad 94), .ref (ad 95), .ref (ad 102), .ref (ad 104), .ref (ad 107), .ref (ad 111), .ref (ad 119)]) := ((o170 0 (by decide)).trans c124)
        refine xget E hQ 0 (by decide) c186 rfl 7 (by decide) q523 rfl dX11_image_26 ?_
        refine lv_iload_n hx hb dX11_image_29 rfl (lv_at hl 1 rfl) ?_
        refine lv_iconst (v := 1) hx hb dX11_image_30 (by decide) ?_
        have c187 : S170 93 = .inl (g.2 3, 3, .inl f109) := ((o170 93 (by decide)).trans c110)
        refine xzast E hs hQ 93 (by decide) c187 (ib_in b169 (by decide) (by decide)) dX11_image_31 (fun H locs S188 eS188 hQ => ?_)
        have hI := invX_up_93 hI eS188 ⟨_, rfl, upd_b b111 (nar_z _)⟩
        have b190 : ∀ j, Bd ((upd f109 (a1 : Int32).toNatClampNeg (vp_nar .boolean 1)) j) (0) (1) := upd_b b111 (nar_z _)
        have c189 : S188 93 = .inl (g.2 3, 3, .inl (upd f109 (a1 : Int32).toNatClampNeg (vp_nar .boolean 1))) := up_at eS188 rfl
        refine lv_iconst (v := 0) hx hb dX11_image_32 (by decide) ?_
        have c191 : S188 2 = .inr (1, [.int v1, .int v3, .int v5, .ref (ad 3), .ref (ad 5), .ref (ad 6), .int v6, .int v7, .ref (ad 7), .ref (ad 8), .ref (ad 9), .ref (ad 10), .int v9, .ref (ad 15), .ref (ad 16)]) := (up_ne eS188 (by decide) ((o170 2 (by decide)).trans c11))
        have q192 : fld (S188 2) 1 = v3.toInt := fld_of c191 rfl
        have q193 : fld (S188 2) 0 = v1.toInt := fld_of c191 rfl
        have q194 : fld (S188 2) 7 = v7.toInt := fld_of c191 rfl
        have q195 : fld (S188 2) 12 = v9.toInt := fld_of c191 rfl
        have c196 : S188 39 = .inr (1, [.int v12, .int v14, .int v16, .ref (ad 40), .ref (ad 42), .ref (ad 43), .int v17, .int v18, .ref (ad 44), .ref (ad 45), .ref (ad 46), .ref (ad 47), .int v20, .ref (ad 52), .ref (ad 53)]) := (up_ne eS188 (by decide) ((o170 39 (by decide)).trans c22))
        have q197 : fld (S188 39) 1 = v14.toInt := fld_of c196 rfl
        have q198 : fld (S188 39) 0 = v12.toInt := fld_of c196 rfl
        have q199 : fld (S188 39) 7 = v18.toInt := fld_of c196 rfl
        have q200 : fld (S188 39) 12 = v20.toInt := fld_of c196 rfl
        have c201 : S188 57 = .inr (1, [.int v171, .int v173, .int v175, .ref (ad 58), .ref (ad 60), .ref (ad 61), .int v176, .int v177, .ref (ad 62), .ref (ad 63), .ref (ad 64), .ref (ad 65), .int v179, .ref (ad 70), .ref (ad 71)]) := (up_ne eS188 (by decide) c181)
        have q202 : fld (S188 57) 1 = v173.toInt := fld_of c201 rfl
        have q203 : fld (S188 57) 0 = v171.toInt := fld_of c201 rfl
        have q204 : fld (S188 57) 7 = v177.toInt := fld_of c201 rfl
        have q205 : fld (S188 57) 12 = v179.toInt := fld_of c201 rfl
        have c206 : S188 75 = .inr (1, [.int v34, .int v36, .int v38, .ref (ad 76), .ref (ad 78), .ref (ad 79), .int v39, .int v40, .ref (ad 80), .ref (ad 81), .ref (ad 82), .ref (ad 83), .int v42, .ref (ad 88), .ref (ad 89)]) := (up_ne eS188 (by decide) ((o170 75 (by decide)).trans c44))
        have q207 : fld (S188 75) 1 = v36.toInt := fld_of c206 rfl
        have q208 : fld (S188 75) 0 = v34.toInt := fld_of c206 rfl
        have q209 : fld (S188 75) 7 = v40.toInt := fld_of c206 rfl
        have q210 : fld (S188 75) 12 = v42.toInt := fld_of c206 rfl
        exact xri E hr hlk hQ (⟨hI, (up_o (o_trans o_refl o170 (by decide)) eS188 (by decide)), (ib_wk (by decide : Bd 0 (0) (0)) (by decide) (by decide)), (by omega), (by omega), (by omega), (by omega), (by omega), (by omega), (by omega), (by omega), (by omega), (by omega), (by omega), (by omega), (ar_tr hAR2 ((up_eq (j := 16) eS188 (by decide)).trans (o170 16 (by decide))) ((up_eq (j := 17) eS188 (by decide)).trans (o170 17 (by decide))) ((up_eq (j := 18) eS188 (by decide)).trans (o170 18 (by decide))) ((up_eq (j := 19) eS188 (by decide)).trans (o170 19 (by decide)))), (ar_tr hAR39 ((up_eq (j := 53) eS188 (by decide)).trans (o170 53 (by decide))) ((up_eq (j := 54) eS188 (by decide)).trans (o170 54 (by decide))) ((up_eq (j := 55) eS188 (by decide)).trans (o170 55 (by decide))) ((up_eq (j := 56) eS188 (by decide)).trans (o170 56 (by decide)))), (ar_tr u170_0 (up_eq (j := 71) eS188 (by decide)) (up_eq (j := 72) eS188 (by decide)) (up_eq (j := 73) eS188 (by decide)) (up_eq (j := 74) eS188 (by decide))), (ar_tr hAR75 ((up_eq (j := 89) eS188 (by decide)).trans (o170 89 (by decide))) ((up_eq (j := 90) eS188 (by decide)).trans (o170 90 (by decide))) ((up_eq (j := 91) eS188 (by decide)).trans (o170 91 (by decide))) ((up_eq (j := 92) eS188 (by decide)).trans (o170 92 (by decide)))), (by unfold ansImage; rw [if_neg (by omega)]), (pu_st c110 c189 (by omega) (by decide))⟩) dX11_image_33
      · refine xqald E hQ 38 (by decide) c125 (by rw [h126]; exact vp_in_lit 2 3 (by decide)) (by rw [h126]; rfl) dX11_image_17 ?_
        have b211 : Bd a1 (2) (2) := (by rw [h126]; decide)
        refine lv_aload_n hx hb dX11_image_18 rfl (lv_at hl 0 rfl) ?_
        refine xget E hQ 0 (by decide) c124 rfl 4 (by decide) q520 rfl dX11_image_19 ?_
        refine xcVv E hs hQ hml hl.1 75 (gX1_copyFrom_75_2 l g ad hD S hI hAR2) mX1_copyFrom q745 (by decide) c44 rfl rfl ⟨(Nat.le_of_ble_eq_true rfl), (Nat.le_of_ble_eq_true rfl)⟩ ⟨(Nat.le_of_ble_eq_true rfl), (Nat.le_of_ble_eq_true rfl)⟩ (Nat.le_of_ble_eq_true rfl) rfl dX11_image_22 (fun S212 H locs hp212 hQ _ => ?_)
        obtain ⟨hI, o212, g212_0, g212_1, g212_2, g212_3, u212_0⟩ := hp212
        obtain ⟨v213, v215, v217, v218, v219, v221, c223, b214, b216, b220, b222⟩ := invX_75 hI
        have c223 : S212 75 = .inr (1, [.int v213, .int v215, .int v217, .ref (ad 76), .ref (ad 78), .ref (ad 79), .int v218, .int v219, .ref (ad 80), .ref (ad 81), .ref (ad 82), .ref (ad 83), .int v221, .ref (ad 88), .ref (ad 89)]) := c223
        have q224 : fld (S212 75) 0 = v213.toInt := fld_of c223 rfl
        have q225 : fld (S212 75) 1 = v215.toInt := fld_of c223 rfl
        have q226 : fld (S212 75) 7 = v219.toInt := fld_of c223 rfl
        have q227 : fld (S212 75) 12 = v221.toInt := fld_of c223 rfl
        refine lv_aload_n hx hb dX11_image_25 rfl (lv_at hl 0 rfl) ?_
        have c228 : S212 0 = .inr (11, [.ref (ad 1), .int v120, .int v122, .int v123, .ref (ad 2), .ref (ad 20), .ref (ad 38), .ref (ad 93), .ref (ad 94), .ref (ad 95), .ref (ad 102), .ref (ad 104), .ref (ad 107), .ref (ad 111), .ref (ad 119)]) := ((o212 0 (by decide)).trans c124)
        refine xget E hQ 0 (by decide) c228 rfl 7 (by decide) q523 rfl dX11_image_26 ?_
        refine lv_iload_n hx hb dX11_image_29 rfl (lv_at hl 1 rfl) ?_
        refine lv_iconst (v := 1) hx hb dX11_image_30 (by decide) ?_
        have c229 : S212 93 = .inl (g.2 3, 3, .inl f109) := ((o212 93 (by decide)).trans c110)
        refine xzast E hs hQ 93 (by decide) c229 (ib_in b211 (by decide) (by decide)) dX11_image_31 (fun H locs S230 eS230 hQ => ?_)
        have hI := invX_up_93 hI eS230 ⟨_, rfl, upd_b b111 (nar_z _)⟩
        have b232 : ∀ j, Bd ((upd f109 (a1 : Int32).toNatClampNeg (vp_nar .boolean 1)) j) (0) (1) := upd_b b111 (nar_z _)
        have c231 : S230 93 = .inl (g.2 3, 3, .inl (upd f109 (a1 : Int32).toNatClampNeg (vp_nar .boolean 1))) := up_at eS230 rfl
        refine lv_iconst (v := 0) hx hb dX11_image_32 (by decide) ?_
        have c233 : S230 2 = .inr (1, [.int v1, .int v3, .int v5, .ref (ad 3), .ref (ad 5), .ref (ad 6), .int v6, .int v7, .ref (ad 7), .ref (ad 8), .ref (ad 9), .ref (ad 10), .int v9, .ref (ad 15), .ref (ad 16)]) := (up_ne eS230 (by decide) ((o212 2 (by decide)).trans c11))
        have q234 : fld (S230 2) 1 = v3.toInt := fld_of c233 rfl
        have q235 : fld (S230 2) 0 = v1.toInt := fld_of c233 rfl
        have q236 : fld (S230 2) 7 = v7.toInt := fld_of c233 rfl
        have q237 : fld (S230 2) 12 = v9.toInt := fld_of c233 rfl
        have c238 : S230 39 = .inr (1, [.int v12, .int v14, .int v16, .ref (ad 40), .ref (ad 42), .ref (ad 43), .int v17, .int v18, .ref (ad 44), .ref (ad 45), .ref (ad 46), .ref (ad 47), .int v20, .ref (ad 52), .ref (ad 53)]) := (up_ne eS230 (by decide) ((o212 39 (by decide)).trans c22))
        have q239 : fld (S230 39) 1 = v14.toInt := fld_of c238 rfl
        have q240 : fld (S230 39) 0 = v12.toInt := fld_of c238 rfl
        have q241 : fld (S230 39) 7 = v18.toInt := fld_of c238 rfl
        have q242 : fld (S230 39) 12 = v20.toInt := fld_of c238 rfl
        have c243 : S230 57 = .inr (1, [.int v23, .int v25, .int v27, .ref (ad 58), .ref (ad 60), .ref (ad 61), .int v28, .int v29, .ref (ad 62), .ref (ad 63), .ref (ad 64), .ref (ad 65), .int v31, .ref (ad 70), .ref (ad 71)]) := (up_ne eS230 (by decide) ((o212 57 (by decide)).trans c33))
        have q244 : fld (S230 57) 1 = v25.toInt := fld_of c243 rfl
        have q245 : fld (S230 57) 0 = v23.toInt := fld_of c243 rfl
        have q246 : fld (S230 57) 7 = v29.toInt := fld_of c243 rfl
        have q247 : fld (S230 57) 12 = v31.toInt := fld_of c243 rfl
        have c248 : S230 75 = .inr (1, [.int v213, .int v215, .int v217, .ref (ad 76), .ref (ad 78), .ref (ad 79), .int v218, .int v219, .ref (ad 80), .ref (ad 81), .ref (ad 82), .ref (ad 83), .int v221, .ref (ad 88), .ref (ad 89)]) := (up_ne eS230 (by decide) c223)
        have q249 : fld (S230 75) 1 = v215.toInt := fld_of c248 rfl
        have q250 : fld (S230 75) 0 = v213.toInt := fld_of c248 rfl
        have q251 : fld (S230 75) 7 = v219.toInt := fld_of c248 rfl
        have q252 : fld (S230 75) 12 = v221.toInt := fld_of c248 rfl
        exact xri E hr hlk hQ (⟨hI, (up_o (o_trans o_refl o212 (by decide)) eS230 (by decide)), (ib_wk (by decide : Bd 0 (0) (0)) (by decide) (by decide)), (by omega), (by omega), (by omega), (by omega), (by omega), (by omega), (by omega), (by omega), (by omega), (by omega), (by omega), (by omega), (ar_tr hAR2 ((up_eq (j := 16) eS230 (by decide)).trans (o212 16 (by decide))) ((up_eq (j := 17) eS230 (by decide)).trans (o212 17 (by decide))) ((up_eq (j := 18) eS230 (by decide)).trans (o212 18 (by decide))) ((up_eq (j := 19) eS230 (by decide)).trans (o212 19 (by decide)))), (ar_tr hAR39 ((up_eq (j := 53) eS230 (by decide)).trans (o212 53 (by decide))) ((up_eq (j := 54) eS230 (by decide)).trans (o212 54 (by decide))) ((up_eq (j := 55) eS230 (by decide)).trans (o212 55 (by decide))) ((up_eq (j := 56) eS230 (by decide)).trans (o212 56 (by decide)))), (ar_tr hAR57 ((up_eq (j := 71) eS230 (by decide)).trans (o212 71 (by decide))) ((up_eq (j := 72) eS230 (by decide)).trans (o212 72 (by decide))) ((up_eq (j := 73) eS230 (by decide)).trans (o212 73 (by decide))) ((up_eq (j := 74) eS230 (by decide)).trans (o212 74 (by decide)))), (ar_tr u212_0 (up_eq (j := 89) eS230 (by decide)) (up_eq (j := 90) eS230 (by decide)) (up_eq (j := 91) eS230 (by decide)) (up_eq (j := 92) eS230 (by decide))), (by unfold ansImage; rw [if_neg (by omega)]), (pu_st c110 c231 (by omega) (by decide))⟩) dX11_image_33
    · have h253 := ib_nlt k117
      have b254 : Bd a1 (3) (2147483647) := ⟨((rf_le (by decide : Bd 3 (3) (3)) b116 h253).2).1, (b116).2⟩
      refine lv_bipush (v := (-2)) hx hb dX11_image_9 (by decide) ?_
      exact xri E hr hlk hQ (⟨hI, o_refl, (ib_wk (by decide : Bd (-2) (-2) (-2)) (by decide) (by decide)), (by omega), (by omega), (by omega), (by omega), (by omega), (by omega), (by omega), (by omega), (by omega), (by omega), (by omega), (by omega), hAR2, hAR39, hAR57, hAR75, (by unfold ansImage; rw [if_pos (by omega)]), (pu_no rfl (by omega))⟩) dX11_image_11
set_option maxHeartbeats 4000000 in
set_option maxRecDepth 100000 in
theorem gX11_back_0 (l : Launch) (g : GG) (ad : Nat → Nat) (hD : Dj ad 122) (S : SS) (hI : InvX g ad S) (a1 : Int32) (hq1 : 0 ≤ 1201 * fld (S 2) 1 + (-1) * fld (S 2) 0) (hq2 : 0 ≤ 8 * fld (S 2) 1 + (-1) * fld (S 2) 7) (hq3 : 0 ≤ 3 * fld (S 2) 1 + (-1) * fld (S 2) 12) (hq4 : 0 ≤ 1201 * fld (S 39) 1 + (-1) * fld (S 39) 0) (hq5 : 0 ≤ 8 * fld (S 39) 1 + (-1) * fld (S 39) 7) (hq6 : 0 ≤ 3 * fld (S 39) 1 + (-1) * fld (S 39) 12) (hq7 : 0 ≤ 1201 * fld (S 57) 1 + (-1) * fld (S 57) 0) (hq8 : 0 ≤ 8 * fld (S 57) 1 + (-1) * fld (S 57) 7) (hq9 : 0 ≤ 3 * fld (S 57) 1 + (-1) * fld (S 57) 12) (hq10 : 0 ≤ 1201 * fld (S 75) 1 + (-1) * fld (S 75) 0) (hq11 : 0 ≤ 8 * fld (S 75) 1 + (-1) * fld (S 75) 7) (hq12 : 0 ≤ 3 * fld (S 75) 1 + (-1) * fld (S 75) 12) (hAR2 : ARp (S 16) (S 17) (S 18) (S 19)) (hAR39 : ARp (S 53) (S 54) (S 55) (S 56)) (hAR57 : ARp (S 71) (S 72) (S 73) (S 74)) (hAR75 : ARp (S 89) (S 90) (S 91) (S 92)) : Met l yX11_back (wG (.code yX11_back cX11_back 2 (some .int))) (Rm 6) (XPre g ad 122 S [.ref (ad 0), .int a1]) (va_Qi (fun r S' => InvX g ad S' ∧ (∀ j, j ∉ ([2, 3, 4, 5, 6, 7, 8, 9, 10, 11, 12, 13, 14, 15, 16, 17, 18, 19, 95, 96, 97, 98] : List Nat) → S' j = S j) ∧ Bd r (-6) (0) ∧ (0 ≤ 1201 * fld (S' 2) 1 + (-1) * fld (S' 2) 0) ∧ (0 ≤ 8 * fld (S' 2) 1 + (-1) * fld (S' 2) 7) ∧ (0 ≤ 3 * fld (S' 2) 1 + (-1) * fld (S' 2) 12) ∧ (0 ≤ 1201 * fld (S' 39) 1 + (-1) * fld (S' 39) 0) ∧ (0 ≤ 8 * fld (S' 39) 1 + (-1) * fld (S' 39) 7) ∧ (0 ≤ 3 * fld (S' 39) 1 + (-1) * fld (S' 39) 12) ∧ (0 ≤ 1201 * fld (S' 57) 1 + (-1) * fld (S' 57) 0) ∧ (0 ≤ 8 * fld (S' 57) 1 + (-1) * fld (S' 57) 7) ∧ (0 ≤ 3 * fld (S' 57) 1 + (-1) * fld (S' 57) 12) ∧ (0 ≤ 1201 * fld (S' 75) 1 + (-1) * fld (S' 75) 0) ∧ (0 ≤ 8 * fld (S' 75) 1 + (-1) * fld (S' 75) 7) ∧ (0 ≤ 3 * fld (S' 75) 1 + (-1) * fld (S' 75) 12) ∧ (ARp (S' 16) (S' 17) (S' 18) (S' 19)) ∧ (ARp (S' 53) (S' 54) (S' 55) (S' 56)) ∧ (ARp (S' 71) (S' 72) (S' 73) (S' 74)) ∧ (ARp (S' 89) (S' 90) (S' 91) (S' 92)) ∧ (r = ansBk a1 (elm (S 93) a1.toInt.toNat))) (QB g ad 122) (FA ad 122)) 0 0 (FA ad 122) := by
  refine xmet cX11_back "EbbWreck" (by decide) rfl (Nat.le_of_ble_eq_true rfl) (fun p e s m below meth c E hr hlk hml hQ ls hl => ?_)
  have hx := E.1
  have hb := E.2.1
  have hs : Sp ad 122 (FA ad 122) := Sp.fa hD
  have hl : lv_has ls 2 [(0, .ref (ad 0)), (1, .int a1)] := hl
  obtain ⟨v1, v3, v5, v6, v7, v9, c11, b2, b4, b8, b10⟩ := invX_2 hI
  have c11 : S 2 = .inr (1, [.int v1, .int v3, .int v5, .ref (ad 3), .ref (ad 5), .ref (ad 6), .int v6, .int v7, .ref (ad 7), .ref (ad 8), .ref (ad 9), .ref (ad 10), .int v9, .ref (ad 15), .ref (ad 16)]) := c11
  obtain ⟨v12, v14, v16, v17, v18, v20, c22, b13, b15, b19, b21⟩ := invX_39 hI
  have c22 : S 39 = .inr (1, [.int v12, .int v14, .int v16, .ref (ad 40), .ref (ad 42), .ref (ad 43), .int v17, .int v18, .ref (ad 44), .ref (ad 45), .ref (ad 46), .ref (ad 47), .int v20, .ref (ad 52), .ref (ad 53)]) := c22
  obtain ⟨v23, v25, v27, v28, v29, v31, c33, b24, b26, b30, b32⟩ := invX_57 hI
  have c33 : S 57 = .inr (1, [.int v23, .int v25, .int v27, .ref (ad 58), .ref (ad 60), .ref (ad 61), .int v28, .int v29, .ref (ad 62), .ref (ad 63), .ref (ad 64), .ref (ad 65), .int v31, .ref (ad 70), .ref (ad 71)]) := c33
  obtain ⟨v34, v36, v38, v39, v40, v42, c44, b35, b37, b41, b43⟩ := invX_75 hI
  have c44 : S 75 = .inr (1, [.int v34, .int v36, .int v38, .ref (ad 76), .ref (ad 78), .ref (ad 79), .int v39, .int v40, .ref (ad 80), .ref (ad 81), .ref (ad 82), .ref (ad 83), .int v42, .ref (ad 88), .ref (ad 89)]) := c44
  have q45 : fld (S 2) 1 = v3.toInt := fld_of c11 rfl
  have q46 : fld (S 2) 0 = v1.toInt := fld_of c11 rfl
  have q47 : fld (S 2) 7 = v7.toInt := fld_of c11 rfl
  have q48 : fld (S 2) 12 = v9.toInt := fld_of c11 rfl
  have q49 : fld (S 39) 1 = v14.toInt := fld_of c22 rfl
  have q50 : fld (S 39) 0 = v12.toInt := fld_of c22 rfl
  have q51 : fld (S 39) 7 = v18.toInt := fld_of c22 rfl
  have q52 : fld (S 39) 12 = v20.toInt := fld_of c22 rfl
  have q53 : fld (S 57) 1 = v25.toInt := fld_of c33 rfl
  have q54 : fld (S 57) 0 = v23.toInt := fld_of c33 rfl
  have q55 : fld (S 57) 7 = v29.toInt := fld_of c33 rfl
  have q56 : fld (S 57) 12 = v31.toInt := fld_of c33 rfl
  have q57 : fld (S 75) 1 = v36.toInt := fld_of c44 rfl
  have q58 : fld (S 75) 0 = v34.toInt := fld_of c44 rfl
  have q59 : fld (S 75) 7 = v40.toInt := fld_of c44 rfl
  have q60 : fld (S 75) 12 = v42.toInt := fld_of c44 rfl
  obtain ⟨v61, c63, b62⟩ := invX_16 hI
  have c63 : S 16 = .inr (0, [.int v61, .ref (ad 17), .ref (ad 18), .ref (ad 19)]) := c63
  obtain ⟨f64, c65⟩ := invX_17 hI
  obtain ⟨f67, c68, b69⟩ := invX_18 hI
  obtain ⟨f70, c71, b72⟩ := invX_19 hI
  obtain ⟨v73, c75, b74⟩ := invX_53 hI
  have c75 : S 53 = .inr (0, [.int v73, .ref (ad 54), .ref (ad 55), .ref (ad 56)]) := c75
  obtain ⟨f76, c77⟩ := invX_54 hI
  obtain ⟨f79, c80, b81⟩ := invX_55 hI
  obtain ⟨f82, c83, b84⟩ := invX_56 hI
  obtain ⟨v85, c87, b86⟩ := invX_71 hI
  have c87 : S 71 = .inr (0, [.int v85, .ref (ad 72), .ref (ad 73), .ref (ad 74)]) := c87
  obtain ⟨f88, c89⟩ := invX_72 hI
  obtain ⟨f91, c92, b93⟩ := invX_73 hI
  obtain ⟨f94, c95, b96⟩ := invX_74 hI
  obtain ⟨v97, c99, b98⟩ := invX_89 hI
  have c99 : S 89 = .inr (0, [.int v97, .ref (ad 90), .ref (ad 91), .ref (ad 92)]) := c99
  obtain ⟨f100, c101⟩ := invX_90 hI
  obtain ⟨f103, c104, b105⟩ := invX_91 hI
  obtain ⟨f106, c107, b108⟩ := invX_92 hI
  refine lv_iload_n hx hb dX11_back_0 rfl (lv_at hl 1 rfl) ?_
  refine lv_if_lt (tgt := 9) hx hb dX11_back_1 (by decide) (fun k109 => ?_) (fun k109 => ?_)
  · have h110 := ib_lt k109
    have b111 : Bd a1 (-2147483648) (-1) := ⟨((ib_full a1)).1, ((rf_lt (ib_full a1) (by decide : Bd 0 (0) (0)) h110).1).2⟩
    refine lv_bipush (v := (-2)) hx hb dX11_back_9 (by decide) ?_
    exact xri E hr hlk hQ (⟨hI, o_refl, (ib_wk (by decide : Bd (-2) (-2) (-2)) (by decide) (by decide)), (by omega), (by omega), (by omega), (by omega), (by omega), (by omega), (by omega), (by omega), (by omega), (by omega), (by omega), (by omega), hAR2, hAR39, hAR57, hAR75, (by unfold ansBk; rw [if_pos (by omega)])⟩) dX11_back_11
  · have h112 := ib_nlt k109
    have b113 : Bd a1 (0) (2147483647) := ⟨((rf_le (by decide : Bd 0 (0) (0)) (ib_full a1) h112).2).1, ((ib_full a1)).2⟩
    refine lv_iload_n hx hb dX11_back_4 rfl (lv_at hl 1 rfl) ?_
    refine lv_iconst (v := 3) hx hb dX11_back_5 (by decide) ?_
    refine lv_icmp_lt (tgt := 12) hx hb dX11_back_6 (by decide) (fun k114 => ?_) (fun k114 => ?_)
    · have h115 := ib_lt k114
      have b116 : Bd a1 (0) (2) := ⟨(b113).1, ((rf_lt b113 (by decide : Bd 3 (3) (3)) h115).1).2⟩
      refine lv_aload_n hx hb dX11_back_12 rfl (lv_at hl 0 rfl) ?_
      obtain ⟨v117, v119, v120, c121, b118⟩ := invX_0 hI
      have c121 : S 0 = .inr (11, [.ref (ad 1), .int v117, .int v119, .int v120, .ref (ad 2), .ref (ad 20), .ref (ad 38), .ref (ad 93), .ref (ad 94), .ref (ad 95), .ref (ad 102), .ref (ad 104), .ref (ad 107), .ref (ad 111), .ref (ad 119)]) := c121
      refine xget E hQ 0 (by decide) c121 rfl 7 (by decide) q523 rfl dX11_back_13 ?_
      refine lv_iload_n hx hb dX11_back_16 rfl (lv_at hl 1 rfl) ?_
      obtain ⟨f122, c123, b124⟩ := invX_93 hI
      refine xzald E hQ 93 (by decide) c123 (ib_in b116 (by decide) (by decide)) dX11_back_17 ?_
      refine lv_topi (fun z125 e126 => ?_)
      have b127 : Bd z125 (0) (1) := (by rw [e126]; exact b124 _)
      have el128 : elm (S 93) a1.toInt.toNat = z125.toInt := elm_ld c123 e126
      refine lv_if_ne (tgt := 24) hx hb dX11_back_18 (by decide) (fun k129 => ?_) (fun k129 => ?_)
      · have h130 := ib_ne k129
        have b131 : Bd z125 (1) (1) := rf_nlo b127 (by decide : Bd 0 (0) (0)) h130
        refine lv_aload_n hx hb dX11_back_24 rfl (lv_at hl 0 rfl) ?_
        refine xget E hQ 0 (by decide) c121 rfl 4 (by decide) q520 rfl dX11_back_25 ?_
        refine lv_aload_n hx hb dX11_back_28 rfl (lv_at hl 0 rfl) ?_
        refine xget E hQ 0 (by decide) c121 rfl 6 (by decide) q522 rfl dX11_back_29 ?_
        refine lv_iload_n hx hb dX11_back_32 rfl (lv_at hl 1 rfl) ?_
        have c132 : S 38 = _ := invX_38 hI
        rcases bd_c3 b116 with h133 | h133 | h133
        · refine xqald E hQ 38 (by decide) c132 (by rw [h133]; exact vp_in_lit 0 3 (by decide)) (by rw [h133]; rfl) dX11_back_33 ?_
          have b134 : Bd a1 (0) (0) := (by rw [h133]; decide)
          refine xcVv E hs hQ hml hl.1 2 (gX1_copyFrom_2_39 l g ad hD S hI hAR39) mX1_copyFrom q745 (by decide) c11 rfl rfl ⟨(Nat.le_of_ble_eq_true rfl), (Nat.le_of_ble_eq_true rfl)⟩ ⟨(Nat.le_of_ble_eq_true rfl), (Nat.le_of_ble_eq_true rfl)⟩ (Nat.le_of_ble_eq_true rfl) rfl dX11_back_34 (fun S135 H locs hp135 hQ _ => ?_)
          obtain ⟨hI, o135, g135_0, g135_1, g135_2, g135_3, u135_0⟩ := hp135
          obtain ⟨v136, v138, v140, v141, v142, v144, c146, b137, b139, b143, b145⟩ := invX_2 hI
          have c146 : S135 2 = .inr (1, [.int v136, .int v138, .int v140, .ref (ad 3), .ref (ad 5), .ref (ad 6), .int v141, .int v142, .ref (ad 7), .ref (ad 8), .ref (ad 9), .ref (ad 10), .int v144, .ref (ad 15), .ref (ad 16)]) := c146
          have q147 : fld (S135 2) 0 = v136.toInt := fld_of c146 rfl
          have q148 : fld (S135 2) 1 = v138.toInt := fld_of c146 rfl
          have q149 : fld (S135 2) 7 = v142.toInt := fld_of c146 rfl
          have q150 : fld (S135 2) 12 = v144.toInt := fld_of c146 rfl
          refine lv_aload_n hx hb dX11_back_37 rfl (lv_at hl 0 rfl) ?_
          have c151 : S135 0 = .inr (11, [.ref (ad 1), .int v117, .int v119, .int v120, .ref (ad 2), .ref (ad 20), .ref (ad 38), .ref (ad 93), .ref (ad 94), .ref (ad 95), .ref (ad 102), .ref (ad 104), .ref (ad 107), .ref (ad 111), .ref (ad 119)]) := ((o135 0 (by decide)).trans c121)
          refine xget E hQ 0 (by decide) c151 rfl 9 (by decide) q525 rfl dX11_back_38 ?_
          obtain ⟨v153, v154, c156, b155⟩ := invX_95 hI
          have c156 : S135 95 = .inr (2, [.ref (ad 2), .ref (ad 96), .ref (ad 97), .ref (ad 98), .ref (ad 99), .ref (ad 100), .ref (ad 101), .int v153, .int v154]) := c156
          refine xcVv E hs hQ hml hl.1 95 (gX2_settleAll_95 l g ad hD S135 hI (by omega) (by omega) (by omega)) mX2_settleAll q762 (by decide) c156 rfl rfl ⟨(Nat.le_of_ble_eq_true rfl), (Nat.le_of_ble_eq_true rfl)⟩ ⟨(Nat.le_of_ble_eq_true rfl), (Nat.le_of_ble_eq_true rfl)⟩ (Nat.le_of_ble_eq_true rfl) rfl dX11_back_41 (fun S152 H locs hp152 hQ _ => ?_)
          obtain ⟨hI, o152⟩ := hp152
          refine lv_iconst (v := 0) hx hb dX11_back_44 (by decide) ?_
          have c157 : S152 2 = .inr (1, [.int v136, .int v138, .int v140, .ref (ad 3), .ref (ad 5), .ref (ad 6), .int v141, .int v142, .ref (ad 7), .ref (ad 8), .ref (ad 9), .ref (ad 10), .int v144, .ref (ad 15), .ref (ad 16)]) := ((o152 2 (by decide)).trans c146)
          have q158 : fld (S152 2) 1 = v138.toInt := fld_of c157 rfl
          have q159 : fld (S152 2) 0 = v136.toInt := fld_of c157 rfl
          have q160 : fld (S152 2) 7 = v142.toInt := fld_of c157 rfl
          have q161 : fld (S152 2) 12 = v144.toInt := fld_of c157 rfl
          have c162 : S152 39 = .inr (1, [.int v12, .int v14, .int v16, .ref (ad 40), .ref (ad 42), .ref (ad 43), .int v17, .int v18, .ref (ad 44), .ref (ad 45), .ref (ad 46), .ref (ad 47), .int v20, .ref (ad 52), .ref (ad 53)]) := ((o152 39 (by decide)).trans ((o135 39 (by decide)).trans c22))
          have q163 : fld (S152 39) 1 = v14.toInt := fld_of c162 rfl
          have q164 : fld (S152 39) 0 = v12.toInt := fld_of c162 rfl
          have q165 : fld (S152 39) 7 = v18.toInt := fld_of c162 rfl
          have q166 : fld (S152 39) 12 = v20.toInt := fld_of c162 rfl
          have c167 : S152 57 = .inr (1, [.int v23, .int v25, .int v27, .ref (ad 58), .ref (ad 60), .ref (ad 61), .int v28, .int v29, .ref (ad 62), .ref (ad 63), .ref (ad 64), .ref (ad 65), .int v31, .ref (ad 70), .ref (ad 71)]) := ((o152 57 (by decide)).trans ((o135 57 (by decide)).trans c33))
          have q168 : fld (S152 57) 1 = v25.toInt := fld_of c167 rfl
          have q169 : fld (S152 57) 0 = v23.toInt := fld_of c167 rfl
          have q170 : fld (S152 57) 7 = v29.toInt := fld_of c167 rfl
          have q171 : fld (S152 57) 12 = v31.toInt := fld_of c167 rfl
          have c172 : S152 75 = .inr (1, [.int v34, .int v36, .int v38, .ref (ad 76), .ref (ad 78), .ref (ad 79), .int v39, .int v40, .ref (ad 80), .ref (ad 81), .ref (ad 82), .ref (ad 83), .int v42, .ref (ad 88), .ref (ad 89)]) := ((o152 75 (by decide)).trans ((o135 75 (by decide)).trans c44))
          have q173 : fld (S152 75) 1 = v36.toInt := fld_of c172 rfl
          have q174 : fld (S152 75) 0 = v34.toInt := fld_of c172 rfl
          have q175 : fld (S152 75) 7 = v40.toInt := fld_of c172 rfl
          have q176 : fld (S152 75) 12 = v42.toInt := fld_of c172 rfl
          exact xri E hr hlk hQ (⟨hI, (o_trans (o_trans o_refl o135 (by decide)) o152 (by decide)), (ib_wk (by decide : Bd 0 (0) (0)) (by decide) (by decide)), (by omega), (by omega), (by omega), (by omega), (by omega), (by omega), (by omega), (by omega), (by omega), (by omega), (by omega), (by omega), (ar_tr u135_0 (o152 16 (by decide)) (o152 17 (by decide)) (o152 18 (by decide)) (o152 19 (by decide))), (ar_tr hAR39 ((o152 53 (by decide)).trans (o135 53 (by decide))) ((o152 54 (by decide)).trans (o135 54 (by decide))) ((o152 55 (by decide)).trans (o135 55 (by decide))) ((o152 56 (by decide)).trans (o135 56 (by decide)))), (ar_tr hAR57 ((o152 71 (by decide)).trans (o135 71 (by decide))) ((o152 72 (by decide)).trans (o135 72 (by decide))) ((o152 73 (by decide)).trans (o135 73 (by decide))) ((o152 74 (by decide)).trans (o135 74 (by decide)))), (ar_tr hAR75 ((o152 89 (by decide)).trans (o135 89 (by decide))) ((o152 90 (by decide)).trans (o135 90 (by decide))) ((o152 91 (by decide)).trans (o135 91 (by decide))) ((o152 92 (by decide)).trans (o135 92 (by decide)))), (by have e1 := el128; unfold ansBk; rw [if_neg (by omega), if_neg (by omega)])⟩) dX11_back_45
        · refine xqald E hQ 38 (by decide) c132 (by rw [h133]; exact vp_in_lit 1 3 (by decide)) (by rw [h133]; rfl) dX11_back_33 ?_
          have b177 : Bd a1 (1) (1) := (by rw [h133]; decide)
          refine xcVv E hs hQ hml hl.1 2 (gX1_copyFrom_2_57 l g ad hD S hI hAR57) mX1_copyFrom q745 (by decide) c11 rfl rfl ⟨(Nat.le_of_ble_eq_true rfl), (Nat.le_of_ble_eq_true rfl)⟩ ⟨(Nat.le_of_ble_eq_true rfl), (Nat.le_of_ble_eq_true rfl)⟩ (Nat.le_of_ble_eq_true rfl) rfl dX11_back_34 (fun S178 H locs hp178 hQ _ => ?_)
          obtain ⟨hI, o178, g178_0, g178_1, g178_2, g178_3, u178_0⟩ := hp178
          obtain ⟨v179, v181, v183, v184, v185, v187, c189, b180, b182, b186, b188⟩ := invX_2 hI
          have c189 : S178 2 = .inr (1, [.int v179, .int v181, .int v183, .ref (ad 3), .ref (ad 5), .ref (ad 6), .int v184, .int v185, .ref (ad 7), .ref (ad 8), .ref (ad 9), .ref (ad 10), .int v187, .ref (ad 15), .ref (ad 16)]) := c189
          have q190 : fld (S178 2) 0 = v179.toInt := fld_of c189 rfl
          have q191 : fld (S178 2) 1 = v181.toInt := fld_of c189 rfl
          have q192 : fld (S178 2) 7 = v185.toInt := fld_of c189 rfl
          have q193 : fld (S178 2) 12 = v187.toInt := fld_of c189 rfl
          refine lv_aload_n hx hb dX11_back_37 rfl (lv_at hl 0 rfl) ?_
          have c194 : S178 0 = .inr (11, [.ref (ad 1), .int v117, .int v119, .int v120, .ref (ad 2), .ref (ad 20), .ref (ad 38), .ref (ad 93), .ref (ad 94), .ref (ad 95), .ref (ad 102), .ref (ad 104), .ref (ad 107), .ref (ad 111), .ref (ad 119)]) := ((o178 0 (by decide)).trans c121)
          refine xget E hQ 0 (by decide) c194 rfl 9 (by decide) q525 rfl dX11_back_38 ?_
          obtain ⟨v196, v197, c199, b198⟩ := invX_95 hI
          have c199 : S178 95 = .inr (2, [.ref (ad 2), .ref (ad 96), .ref (ad 97), .ref (ad 98), .ref (ad 99), .ref (ad 100), .ref (ad 101), .int v196, .int v197]) := c199
          refine xcVv E hs hQ hml hl.1 95 (gX2_settleAll_95 l g ad hD S178 hI (by omega) (by omega) (by omega)) mX2_settleAll q762 (by decide) c199 rfl rfl ⟨(Nat.le_of_ble_eq_true rfl), (Nat.le_of_ble_eq_true rfl)⟩ ⟨(Nat.le_of_ble_eq_true rfl), (Nat.le_of_ble_eq_true rfl)⟩ (Nat.le_of_ble_eq_true rfl) rfl dX11_back_41 (fun S195 H locs hp195 hQ _ => ?_)
          obtain ⟨hI, o195⟩ := hp195
          refine lv_iconst (v := 0) hx hb dX11_back_44 (by decide) ?_
          have c200 : S195 2 = .inr (1, [.int v179, .int v181, .int v183, .ref (ad 3), .ref (ad 5), .ref (ad 6), .int v184, .int v185, .ref (ad 7), .ref (ad 8), .ref (ad 9), .ref (ad 10), .int v187, .ref (ad 15), .ref (ad 16)]) := ((o195 2 (by decide)).trans c189)
          have q201 : fld (S195 2) 1 = v181.toInt := fld_of c200 rfl
          have q202 : fld (S195 2) 0 = v179.toInt := fld_of c200 rfl
          have q203 : fld (S195 2) 7 = v185.toInt := fld_of c200 rfl
          have q204 : fld (S195 2) 12 = v187.toInt := fld_of c200 rfl
          have c205 : S195 39 = .inr (1, [.int v12, .int v14, .int v16, .ref (ad 40), .ref (ad 42), .ref (ad 43), .int v17, .int v18, .ref (ad 44), .ref (ad 45), .ref (ad 46), .ref (ad 47), .int v20, .ref (ad 52), .ref (ad 53)]) := ((o195 39 (by decide)).trans ((o178 39 (by decide)).trans c22))
          have q206 : fld (S195 39) 1 = v14.toInt := fld_of c205 rfl
          have q207 : fld (S195 39) 0 = v12.toInt := fld_of c205 rfl
          have q208 : fld (S195 39) 7 = v18.toInt := fld_of c205 rfl
          have q209 : fld (S195 39) 12 = v20.toInt := fld_of c205 rfl
          have c210 : S195 57 = .inr (1, [.int v23, .int v25, .int v27, .ref (ad 58), .ref (ad 60), .ref (ad 61), .int v28, .int v29, .ref (ad 62), .ref (ad 63), .ref (ad 64), .ref (ad 65), .int v31, .ref (ad 70), .ref (ad 71)]) := ((o195 57 (by decide)).trans ((o178 57 (by decide)).trans c33))
          have q211 : fld (S195 57) 1 = v25.toInt := fld_of c210 rfl
          have q212 : fld (S195 57) 0 = v23.toInt := fld_of c210 rfl
          have q213 : fld (S195 57) 7 = v29.toInt := fld_of c210 rfl
          have q214 : fld (S195 57) 12 = v31.toInt := fld_of c210 rfl
          have c215 : S195 75 = .inr (1, [.int v34, .int v36, .int v38, .ref (ad 76), .ref (ad 78), .ref (ad 79), .int v39, .int v40, .ref (ad 80), .ref (ad 81), .ref (ad 82), .ref (ad 83), .int v42, .ref (ad 88), .ref (ad 89)]) := ((o195 75 (by decide)).trans ((o178 75 (by decide)).trans c44))
          have q216 : fld (S195 75) 1 = v36.toInt := fld_of c215 rfl
          have q217 : fld (S195 75) 0 = v34.toInt := fld_of c215 rfl
          have q218 : fld (S195 75) 7 = v40.toInt := fld_of c215 rfl
          have q219 : fld (S195 75) 12 = v42.toInt := fld_of c215 rfl
          exact xri E hr hlk hQ (⟨hI, (o_trans (o_trans o_refl o178 (by decide)) o195 (by decide)), (ib_wk (by decide : Bd 0 (0) (0)) (by decide) (by decide)), (by omega), (by omega), (by omega), (by omega), (by omega), (by omega), (by omega), (by omega), (by omega), (by omega), (by omega), (by omega), (ar_tr u178_0 (o195 16 (by decide)) (o195 17 (by decide)) (o195 18 (by decide)) (o195 19 (by decide))), (ar_tr hAR39 ((o195 53 (by decide)).trans (o178 53 (by decide))) ((o195 54 (by decide)).trans (o178 54 (by decide))) ((o195 55 (by decide)).trans (o178 55 (by decide))) ((o195 56 (by decide)).trans (o178 56 (by decide)))), (ar_tr hAR57 ((o195 71 (by decide)).trans (o178 71 (by decide))) ((o195 72 (by decide)).trans (o178 72 (by decide))) ((o195 73 (by decide)).trans (o178 73 (by decide))) ((o195 74 (by decide)).trans (o178 74 (by decide)))), (ar_tr hAR75 ((o195 89 (by decide)).trans (o178 89 (by decide))) ((o195 90 (by decide)).trans (o178 90 (by decide))) ((o195 91 (by decide)).trans (o178 91 (by decide))) ((o195 92 (by decide)).trans (o178 92 (by decide)))), (by have e1 := el128; unfold ansBk; rw [if_neg (by omega), if_neg (by omega)])⟩) dX11_back_45
        · refine xqald E hQ 38 (by decide) c132 (by rw [h133]; exact vp_in_lit 2 3 (by decide)) (by rw [h133]; rfl) dX11_back_33 ?_
          have b220 : Bd a1 (2) (2) := (by rw [h133]; decide)
          refine xcVv E hs hQ hml hl.1 2 (gX1_copyFrom_2_75 l g ad hD S hI hAR75) mX1_copyFrom q745 (by decide) c11 rfl rfl ⟨(Nat.le_of_ble_eq_true rfl), (Nat.le_of_ble_eq_true rfl)⟩ ⟨(Nat.le_of_ble_eq_true rfl), (Nat.le_of_ble_eq_true rfl)⟩ (Nat.le_of_ble_eq_true rfl) rfl dX11_back_34 (fun S221 H locs hp221 hQ _ => ?_)
          obtain ⟨hI, o221, g221_0, g221_1, g221_2, g221_3, u221_0⟩ := hp221
          obtain ⟨v222, v224, v226, v227, v228, v230, c232, b223, b225, b229, b231⟩ := invX_2 hI
          have c232 : S221 2 = .inr (1, [.int v222, .int v224, .int v226, .ref (ad 3), .ref (ad 5), .ref (ad 6), .int v227, .int v228, .ref (ad 7), .ref (ad 8), .ref (ad 9), .ref (ad 10), .int v230, .ref (ad 15), .ref (ad 16)]) := c232
          have q233 : fld (S221 2) 0 = v222.toInt := fld_of c232 rfl
          have q234 : fld (S221 2) 1 = v224.toInt := fld_of c232 rfl
          have q235 : fld (S221 2) 7 = v228.toInt := fld_of c232 rfl
          have q236 : fld (S221 2) 12 = v230.toInt := fld_of c232 rfl
          refine lv_aload_n hx hb dX11_back_37 rfl (lv_at hl 0 rfl) ?_
          have c237 : S221 0 = .inr (11, [.ref (ad 1), .int v117, .int v119, .int v120, .ref (ad 2), .ref (ad 20), .ref (ad 38), .ref (ad 93), .ref (ad 94), .ref (ad 95), .ref (ad 102), .ref (ad 104), .ref (ad 107), .ref (ad 111), .ref (ad 119)]) := ((o221 0 (by decide)).trans c121)
          refine xget E hQ 0 (by decide) c237 rfl 9 (by decide) q525 rfl dX11_back_38 ?_
          obtain ⟨v239, v240, c242, b241⟩ := invX_95 hI
          have c242 : S221 95 = .inr (2, [.ref (ad 2), .ref (ad 96), .ref (ad 97), .ref (ad 98), .ref (ad 99), .ref (ad 100), .ref (ad 101), .int v239, .int v240]) := c242
          refine xcVv E hs hQ hml hl.1 95 (gX2_settleAll_95 l g ad hD S221 hI (by omega) (by omega) (by omega)) mX2_settleAll q762 (by decide) c242 rfl rfl ⟨(Nat.le_of_ble_eq_true rfl), (Nat.le_of_ble_eq_true rfl)⟩ ⟨(Nat.le_of_ble_eq_true rfl), (Nat.le_of_ble_eq_true rfl)⟩ (Nat.le_of_ble_eq_true rfl) rfl dX11_back_41 (fun S238 H locs hp238 hQ _ => ?_)
          obtain ⟨hI, o238⟩ := hp238
          refine lv_iconst (v := 0) hx hb dX11_back_44 (by decide) ?_
          have c243 : S238 2 = .inr (1, [.int v222, .int v224, .int v226, .ref (ad 3), .ref (ad 5), .ref (ad 6), .int v227, .int v228, .ref (ad 7), .ref (ad 8), .ref (ad 9), .ref (ad 10), .int v230, .ref (ad 15), .ref (ad 16)]) := ((o238 2 (by decide)).trans c232)
          have q244 : fld (S238 2) 1 = v224.toInt := fld_of c243 rfl
          have q245 : fld (S238 2) 0 = v222.toInt := fld_of c243 rfl
          have q246 : fld (S238 2) 7 = v228.toInt := fld_of c243 rfl
          have q247 : fld (S238 2) 12 = v230.toInt := fld_of c243 rfl
          have c248 : S238 39 = .inr (1, [.int v12, .int v14, .int v16, .ref (ad 40), .ref (ad 42), .ref (ad 43), .int v17, .int v18, .ref (ad 44), .ref (ad 45), .ref (ad 46), .ref (ad 47), .int v20, .ref (ad 52), .ref (ad 53)]) := ((o238 39 (by decide)).trans ((o221 39 (by decide)).trans c22))
          have q249 : fld (S238 39) 1 = v14.toInt := fld_of c248 rfl
          have q250 : fld (S238 39) 0 = v12.toInt := fld_of c248 rfl
          have q251 : fld (S238 39) 7 = v18.toInt := fld_of c248 rfl
          have q252 : fld (S238 39) 12 = v20.toInt := fld_of c248 rfl
          have c253 : S238 57 = .inr (1, [.int v23, .int v25, .int v27, .ref (ad 58), .ref (ad 60), .ref (ad 61), .int v28, .int v29, .ref (ad 62), .ref (ad 63), .ref (ad 64), .ref (ad 65), .int v31, .ref (ad 70), .ref (ad 71)]) := ((o238 57 (by decide)).trans ((o221 57 (by decide)).trans c33))
          have q254 : fld (S238 57) 1 = v25.toInt := fld_of c253 rfl
          have q255 : fld (S238 57) 0 = v23.toInt := fld_of c253 rfl
          have q256 : fld (S238 57) 7 = v29.toInt := fld_of c253 rfl
          have q257 : fld (S238 57) 12 = v31.toInt := fld_of c253 rfl
          have c258 : S238 75 = .inr (1, [.int v34, .int v36, .int v38, .ref (ad 76), .ref (ad 78), .ref (ad 79), .int v39, .int v40, .ref (ad 80), .ref (ad 81), .ref (ad 82), .ref (ad 83), .int v42, .ref (ad 88), .ref (ad 89)]) := ((o238 75 (by decide)).trans ((o221 75 (by decide)).trans c44))
          have q259 : fld (S238 75) 1 = v36.toInt := fld_of c258 rfl
          have q260 : fld (S238 75) 0 = v34.toInt := fld_of c258 rfl
          have q261 : fld (S238 75) 7 = v40.toInt := fld_of c258 rfl
          have q262 : fld (S238 75) 12 = v42.toInt := fld_of c258 rfl
          exact xri E hr hlk hQ (⟨hI, (o_trans (o_trans o_refl o221 (by decide)) o238 (by decide)), (ib_wk (by decide : Bd 0 (0) (0)) (by decide) (by decide)), (by omega), (by omega), (by omega), (by omega), (by omega), (by omega), (by omega), (by omega), (by omega), (by omega), (by omega), (by omega), (ar_tr u221_0 (o238 16 (by decide)) (o238 17 (by decide)) (o238 18 (by decide)) (o238 19 (by decide))), (ar_tr hAR39 ((o238 53 (by decide)).trans (o221 53 (by decide))) ((o238 54 (by decide)).trans (o221 54 (by decide))) ((o238 55 (by decide)).trans (o221 55 (by decide))) ((o238 56 (by decide)).trans (o221 56 (by decide)))), (ar_tr hAR57 ((o238 71 (by decide)).trans (o221 71 (by decide))) ((o238 72 (by decide)).trans (o221 72 (by decide))) ((o238 73 (by decide)).trans (o221 73 (by decide))) ((o238 74 (by decide)).trans (o221 74 (by decide)))), (ar_tr hAR75 ((o238 89 (by decide)).trans (o221 89 (by decide))) ((o238 90 (by decide)).trans (o221 90 (by decide))) ((o238 91 (by decide)).trans (o221 91 (by decide))) ((o238 92 (by decide)).trans (o221 92 (by decide)))), (by have e1 := el128; unfold ansBk; rw [if_neg (by omega), if_neg (by omega)])⟩) dX11_back_45
      · have h263 := ib_eq k129
        have b264 : Bd z125 (0) (0) := ⟨(b127).1, ((rf_eq b127 (by decide : Bd 0 (0) (0)) h263).1).2⟩
        refine lv_bipush (v := (-6)) hx hb dX11_back_21 (by decide) ?_
        exact xri E hr hlk hQ (⟨hI, o_refl, (ib_wk (by decide : Bd (-6) (-6) (-6)) (by decide) (by decide)), (by omega), (by omega), (by omega), (by omega), (by omega), (by omega), (by omega), (by omega), (by omega), (by omega), (by omega), (by omega), hAR2, hAR39, hAR57, hAR75, (by have e1 := el128; unfold ansBk; rw [if_neg (by omega), if_pos (by omega)])⟩) dX11_back_23
    · have h265 := ib_nlt k114
      have b266 : Bd a1 (3) (2147483647) := ⟨((rf_le (by decide : Bd 3 (3) (3)) b113 h265).2).1, (b113).2⟩
      refine lv_bipush (v := (-2)) hx hb dX11_back_9 (by decide) ?_
      exact xri E hr hlk hQ (⟨hI, o_refl, (ib_wk (by decide : Bd (-2) (-2) (-2)) (by decide) (by decide)), (by omega), (by omega), (by omega), (by omega), (by omega), (by omega), (by omega), (by omega), (by omega), (by omega), (by omega), (by omega), hAR2, hAR39, hAR57, hAR75, (by unfold ansBk; rw [if_pos (by omega)])⟩) dX11_back_11
