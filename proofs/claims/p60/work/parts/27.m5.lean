set_option maxHeartbeats 4000000 in
set_option maxRecDepth 100000 in
theorem gX12_row_0 (l : Launch) (g : GG) (ad : Nat → Nat) (hD : Dj ad 20) (S : SS) (hI : InvM g ad S) (a1 : Int32) (a2 : Int32) (a3 : Int32) (hq1 : 0 ≤ 12 * elm (S 7) 1 + (-1) * elm (S 7) 0) (hq2 : 0 ≤ 12 * elm (S 7) 3 + (-1) * elm (S 7) 0) (hq3 : 0 ≤ 8 * elm (S 7) 0 + (-1) * elm (S 7) 6) (hq4 : 0 ≤ 3 * elm (S 7) 0 + (-1) * elm (S 7) 8) (hq5 : 0 ≤ 40000 * elm (S 7) 0 + (-1) * elm (S 6) 0) : Met l yX12_row (wG (.code yX12_row cX12_row 5 (some .int))) (Rm 2) (XPre g ad 20 S [.ref (ad 0), .int a1, .int a2, .int a3]) (va_Qi (fun r S' => InvM g ad S' ∧ (∀ j, j ∉ ([0, 1, 2, 3] : List Nat) → S' j = S j) ∧ Bd r (-3) (0)) (QB g ad 20) (FA ad 20)) 0 0 (FA ad 20) := by
  refine xmet cX12_row "EbbWreckModel" (by decide) rfl (Nat.le_of_ble_eq_true rfl) (fun p e s m below meth c E hr hlk hml hQ ls hl => ?_)
  have hx := E.1
  have hb := E.2.1
  have hs : Sp ad 20 (FA ad 20) := Sp.fa hD
  have hl : lv_has ls 5 [(0, .ref (ad 0)), (1, .int a1), (2, .int a2), (3, .int a3)] := hl
  obtain ⟨f1, c2, b3⟩ := invM_7 hI
  obtain ⟨v4, ee5⟩ : ∃ z : Int32, f1 1 = z := ⟨_, rfl⟩
  have b6 : Bd v4 (0) (12) := (by rw [← ee5]; exact b3.2.1 1 (by decide))
  obtain ⟨v7, ee8⟩ : ∃ z : Int32, f1 0 = z := ⟨_, rfl⟩
  have b9 : Bd v7 (0) (12) := (by rw [← ee8]; exact b3.1 0 (by decide))
  obtain ⟨v10, ee11⟩ : ∃ z : Int32, f1 3 = z := ⟨_, rfl⟩
  have b12 : Bd v10 (0) (12) := (by rw [← ee11]; exact b3.2.2.2.1 3 (by decide))
  obtain ⟨v13, ee14⟩ : ∃ z : Int32, f1 6 = z := ⟨_, rfl⟩
  have b15 : Bd v13 (0) (8) := (by rw [← ee14]; exact b3.2.2.2.2.1 6 (by decide))
  obtain ⟨v16, ee17⟩ : ∃ z : Int32, f1 8 = z := ⟨_, rfl⟩
  have b18 : Bd v16 (0) (3) := (by rw [← ee17]; exact b3.2.2.2.2.2.2.1 8 (by decide))
  obtain ⟨f19, c20, b21⟩ := invM_6 hI
  obtain ⟨v22, ee23⟩ : ∃ z : Int32, f19 0 = z := ⟨_, rfl⟩
  have b24 : Bd v22 (0) (40000) := (by rw [← ee23]; exact b21 0)
  have q25 : elm (S 7) 1 = v4.toInt := (elm_of c2 1).trans (congrArg Int32.toInt (ee5))
  have q26 : elm (S 7) 0 = v7.toInt := (elm_of c2 0).trans (congrArg Int32.toInt (ee8))
  have q27 : elm (S 7) 3 = v10.toInt := (elm_of c2 3).trans (congrArg Int32.toInt (ee11))
  have q28 : elm (S 7) 6 = v13.toInt := (elm_of c2 6).trans (congrArg Int32.toInt (ee14))
  have q29 : elm (S 7) 8 = v16.toInt := (elm_of c2 8).trans (congrArg Int32.toInt (ee17))
  have q30 : elm (S 6) 0 = v22.toInt := (elm_of c20 0).trans (congrArg Int32.toInt (ee23))
  refine lv_aload_n hx hb dX12_row_0 rfl (lv_at hl 0 rfl) ?_
  refine lv_iconst (v := 0) hx hb dX12_row_1 (by decide) ?_
  obtain ⟨v31, v32, v34, v36, v38, v39, w40, v41, v43, v44, v45, v46, v48, v50, v52, v54, v56, v57, v58, c59, b33, b35, b37, b42, b47, b49, b51, b53, b55⟩ := invM_0 hI
  have c59 : S 0 = .inr (12, [.int v31, .ref (ad 1), .ref (ad 2), .ref (ad 3), .ref (ad 4), .ref (ad 5), .int v32, .int v34, .int v36, .int v38, .int v39, .long w40, .int v41, .int v43, .int v44, .int v45, .ref (ad 6), .ref (ad 7), .ref (ad 8), .ref (ad 9), .ref (ad 10), .ref (ad 11), .ref (ad 12), .ref (ad 13), .ref (ad 14), .ref (ad 15), .int v46, .int v48, .ref (ad 16), .int v50, .int v52, .int v54, .int v56, .int v57, .ref (ad 17), .ref (ad 18), .int v58, .ref (ad 19)]) := c59
  refine xputi E hs hQ 0 (by decide) c59 rfl 0 (by decide) q1468 rfl rfl (Nat.le_of_ble_eq_true rfl) dX12_row_2 (fun H locs S60 eS60 hQ => ?_)
  have hI := invM_up_0 hI eS60 ⟨0, v32, v34, v36, v38, v39, w40, v41, v43, v44, v45, v46, v48, v50, v52, v54, v56, v57, v58, rfl, b33, b35, b37, b42, b47, b49, b51, b53, b55⟩
  have c61 : S60 0 = .inr (12, [.int 0, .ref (ad 1), .ref (ad 2), .ref (ad 3), .ref (ad 4), .ref (ad 5), .int v32, .int v34, .int v36, .int v38, .int v39, .long w40, .int v41, .int v43, .int v44, .int v45, .ref (ad 6), .ref (ad 7), .ref (ad 8), .ref (ad 9), .ref (ad 10), .ref (ad 11), .ref (ad 12), .ref (ad 13), .ref (ad 14), .ref (ad 15), .int v46, .int v48, .ref (ad 16), .int v50, .int v52, .int v54, .int v56, .int v57, .ref (ad 17), .ref (ad 18), .int v58, .ref (ad 19)]) := up_at eS60 rfl
  refine lv_iload_n hx hb dX12_row_5 rfl (lv_at hl 1 rfl) ?_
  refine xcSi E hs hQ hml hl.1 (gX12_isSlot l g ad hD S60 hI a1) mX12_isSlot q1587 rfl ⟨(Nat.le_of_ble_eq_true rfl), (Nat.le_of_ble_eq_true rfl)⟩ ⟨(Nat.le_of_ble_eq_true rfl), (Nat.le_of_ble_eq_true rfl)⟩ (Nat.le_of_ble_eq_true rfl) rfl dX12_row_6 (fun r62 S62 H locs hp62 hQ => ?_)
  obtain ⟨rfl, b62, g62_0⟩ := hp62
  refine lv_if_eq (tgt := 30) hx hb dX12_row_9 (by decide) (fun k63 => ?_) (fun k63 => ?_)
  · have h64 := ib_eq k63
    have b65 : Bd r62 (0) (0) := ⟨(b62).1, ((rf_eq b62 (by decide : Bd 0 (0) (0)) h64).1).2⟩
    clear g62_0
    refine lv_bipush (v := (-2)) hx hb dX12_row_30 (by decide) ?_
    exact xri E hr hlk hQ (⟨hI, (up_o o_refl eS60 (by decide)), (ib_wk (by decide : Bd (-2) (-2) (-2)) (by decide) (by decide))⟩) dX12_row_32
  · have h66 := ib_ne k63
    have b67 : Bd r62 (1) (1) := rf_nlo b62 (by decide : Bd 0 (0) (0)) h66
    have g68 := g62_0.resolve_left (by omega)
    clear g62_0
    have b69 : Bd a1 (0) (3) := ⟨by omega, by omega⟩
    refine lv_iload_n hx hb dX12_row_12 rfl (lv_at hl 2 rfl) ?_
    refine lv_i2l hx hb dX12_row_13 rfl ?_
    refine lv_topl (fun w70 e71 => ?_)
    have t72 : w70.toInt = a2.toInt := by rw [e71]; exact i2l_i _
    have b73 : BdL w70 (-2147483648) (2147483647) := (by have h1 := ((ib_full a2)).1; have h2 := ((ib_full a2)).2; exact ⟨by omega, by omega⟩)
    refine lv_lconst (v := 0) hx hb dX12_row_14 (by decide) ?_
    refine lv_ldc2 (v := 3) hx hb E.2.2.1 (E.2.2.2.1 _ q1590) dX12_row_15 ?_
    refine xcSi E hs hQ hml hl.1 (gX12_in l g ad hD S60 hI w70 0 3) mX12_in q1591 rfl ⟨(Nat.le_of_ble_eq_true rfl), (Nat.le_of_ble_eq_true rfl)⟩ ⟨(Nat.le_of_ble_eq_true rfl), (Nat.le_of_ble_eq_true rfl)⟩ (Nat.le_of_ble_eq_true rfl) rfl dX12_row_18 (fun r74 S74 H locs hp74 hQ => ?_)
    obtain ⟨rfl, b74, g74_0⟩ := hp74
    have q75 : (0 : Int64).toInt = 0 := by decide
    have q76 : (3 : Int64).toInt = 3 := by decide
    refine lv_if_eq (tgt := 30) hx hb dX12_row_21 (by decide) (fun k77 => ?_) (fun k77 => ?_)
    · have h78 := ib_eq k77
      have b79 : Bd r74 (0) (0) := ⟨(b74).1, ((rf_eq b74 (by decide : Bd 0 (0) (0)) h78).1).2⟩
      clear g74_0
      refine lv_bipush (v := (-2)) hx hb dX12_row_30 (by decide) ?_
      exact xri E hr hlk hQ (⟨hI, (up_o o_refl eS60 (by decide)), (ib_wk (by decide : Bd (-2) (-2) (-2)) (by decide) (by decide))⟩) dX12_row_32
    · have h80 := ib_ne k77
      have b81 : Bd r74 (1) (1) := rf_nlo b74 (by decide : Bd 0 (0) (0)) h80
      have g82 := g74_0.resolve_left (by omega)
      clear g74_0
      have b83 : BdL w70 (0) (3) := ⟨by omega, by omega⟩
      have b84 : Bd a2 (0) (3) := ⟨by omega, by omega⟩
      refine lv_iload_n hx hb dX12_row_24 rfl (lv_at hl 3 rfl) ?_
      refine lv_bipush (v := 60) hx hb dX12_row_25 (by decide) ?_
      refine lv_icmp_le (tgt := 33) hx hb dX12_row_27 (by decide) (fun k85 => ?_) (fun k85 => ?_)
      · have h86 := ib_le k85
        have b87 : Bd a3 (-2147483648) (60) := ⟨((ib_full a3)).1, ((rf_le (ib_full a3) (by decide : Bd 60 (60) (60)) h86).1).2⟩
        refine lv_iload_n hx hb dX12_row_33 rfl (lv_at hl 3 rfl) ?_
        refine lv_if_ge (tgt := 40) hx hb dX12_row_34 (by decide) (fun k88 => ?_) (fun k88 => ?_)
        · have h89 := ib_le k88
          have b90 : Bd a3 (0) (60) := ⟨((rf_le (by decide : Bd 0 (0) (0)) b87 h89).2).1, (b87).2⟩
          refine lv_aload_n hx hb dX12_row_40 rfl (lv_at hl 0 rfl) ?_
          refine xget E hQ 0 (by decide) c61 rfl 1 (by decide) q1469 rfl dX12_row_41 ?_
          refine lv_iload_n hx hb dX12_row_44 rfl (lv_at hl 1 rfl) ?_
          refine lv_iload_n hx hb dX12_row_45 rfl (lv_at hl 2 rfl) ?_
          obtain ⟨f91, c92, b93⟩ := invM_1 hI
          refine xiast E hs hQ 1 (by decide) c92 (ib_in b69 (by decide) (by decide)) dX12_row_46 (fun H locs S94 eS94 hQ => ?_)
          have hI := invM_up_1 hI eS94 ⟨_, rfl, upd_b b93 (ib_wk b84 (by decide) (by decide))⟩
          have b96 : ∀ j, Bd ((upd f91 (a1 : Int32).toNatClampNeg a2) j) (-1) (3) := upd_b b93 (ib_wk b84 (by decide) (by decide))
          have c95 : S94 1 = .inl (g.2 0, 4, .inl (upd f91 (a1 : Int32).toNatClampNeg a2)) := up_at eS94 rfl
          refine lv_aload_n hx hb dX12_row_47 rfl (lv_at hl 0 rfl) ?_
          have c97 : S94 0 = .inr (12, [.int 0, .ref (ad 1), .ref (ad 2), .ref (ad 3), .ref (ad 4), .ref (ad 5), .int v32, .int v34, .int v36, .int v38, .int v39, .long w40, .int v41, .int v43, .int v44, .int v45, .ref (ad 6), .ref (ad 7), .ref (ad 8), .ref (ad 9), .ref (ad 10), .ref (ad 11), .ref (ad 12), .ref (ad 13), .ref (ad 14), .ref (ad 15), .int v46, .int v48, .ref (ad 16), .int v50, .int v52, .int v54, .int v56, .int v57, .ref (ad 17), .ref (ad 18), .int v58, .ref (ad 19)]) := (up_ne eS94 (by decide) c61)
          refine xget E hQ 0 (by decide) c97 rfl 2 (by decide) q1470 rfl dX12_row_48 ?_
          refine lv_iload_n hx hb dX12_row_51 rfl (lv_at hl 1 rfl) ?_
          refine lv_iload_n hx hb dX12_row_52 rfl (lv_at hl 3 rfl) ?_
          obtain ⟨f98, c99, b100⟩ := invM_2 hI
          refine xiast E hs hQ 2 (by decide) c99 (ib_in b69 (by decide) (by decide)) dX12_row_53 (fun H locs S101 eS101 hQ => ?_)
          have hI := invM_up_2 hI eS101 ⟨_, rfl, upd_b b100 b90⟩
          have b103 : ∀ j, Bd ((upd f98 (a1 : Int32).toNatClampNeg a3) j) (0) (60) := upd_b b100 b90
          have c102 : S101 2 = .inl (g.2 0, 4, .inl (upd f98 (a1 : Int32).toNatClampNeg a3)) := up_at eS101 rfl
          refine lv_iconst (v := 0) hx hb dX12_row_54 (by decide) ?_
          refine lv_istore (lv' := [(4, .int 0), (0, .ref (ad 0)), (1, .int a1), (2, .int a2), (3, .int a3)]) hx hb dX12_row_55 hl (by decide) rfl (fun ls hl => ?_)
          have loop57 : ∀ (n : Nat) (S_57 : SS) (H : Heap) (locs : List Loc) (ls : Array Slot) (x57_4 : Int32), Bd x57_4 (0) (60) → (-1) * x57_4.toInt + 60 < ((n : Nat) : Int) → InvM g ad S_57 → (∀ j, j ∉ ([3] : List Nat) → S_57 j = S101 j) → Hp g ad 20 S_57 (FA ad 20) s.heap H locs → lv_has ls 5 [(4, .int x57_4), (0, .ref (ad 0)), (1, .int a1), (2, .int a2), (3, .int a3)] → W p l e (Rm 2) s m [.ref (ad 0), .int a1, .int a2, .int a3].toArray below meth c H locs 0 0 (MQ below (va_Qi (fun r S' => InvM g ad S' ∧ (∀ j, j ∉ ([0, 1, 2, 3] : List Nat) → S' j = S j) ∧ Bd r (-3) (0)) (QB g ad 20) (FA ad 20)) [.ref (ad 0), .int a1, .int a2, .int a3].toArray s 0 0 (FA ad 20)) (F0 m 57 ls []) := by
            intro n
            induction n with
            | zero => intro S_57 H locs ls x57_4 Bx57_4 hn57_ hI hf57 hQ hl; exfalso; have := (Bx57_4).2; omega
            | succ n57_ ih57 =>
              intro S_57 H locs ls x57_4 Bx57_4 hn57_ hI hf57 hQ hl
              refine lv_iload hx hb dX12_row_57 (lv_at hl 0 rfl) ?_
              refine lv_iload_n hx hb dX12_row_59 rfl (lv_at hl 4 rfl) ?_
              refine lv_icmp_ge (tgt := 82) hx hb dX12_row_60 (by decide) (fun k104 => ?_) (fun k104 => ?_)
              · have h105 := ib_le k104
                refine lv_iconst (v := 0) hx hb dX12_row_82 (by decide) ?_
                exact xri E hr hlk hQ (⟨hI, (o_trans (up_o (up_o (up_o o_refl eS60 (by decide)) eS94 (by decide)) eS101 (by decide)) hf57 (by decide)), (ib_wk (by decide : Bd 0 (0) (0)) (by decide) (by decide))⟩) dX12_row_83
              · have h106 := ib_nle k104
                have b107 : Bd x57_4 (0) (59) := ⟨(Bx57_4).1, ((rf_lt Bx57_4 b90 h106).1).2⟩
                have b108 : Bd a3 (1) (60) := ⟨((rf_lt Bx57_4 b90 h106).2).1, (b90).2⟩
                refine lv_aload_n hx hb dX12_row_63 rfl (lv_at hl 1 rfl) ?_
                have c109 : S_57 0 = .inr (12, [.int 0, .ref (ad 1), .ref (ad 2), .ref (ad 3), .ref (ad 4), .ref (ad 5), .int v32, .int v34, .int v36, .int v38, .int v39, .long w40, .int v41, .int v43, .int v44, .int v45, .ref (ad 6), .ref (ad 7), .ref (ad 8), .ref (ad 9), .ref (ad 10), .ref (ad 11), .ref (ad 12), .ref (ad 13), .ref (ad 14), .ref (ad 15), .int v46, .int v48, .ref (ad 16), .int v50, .int v52, .int v54, .int v56, .int v57, .ref (ad 17), .ref (ad 18), .int v58, .ref (ad 19)]) := ((hf57 0 (by decide)).trans (up_ne eS101 (by decide) c97))
                refine xget E hQ 0 (by decide) c109 rfl 3 (by decide) q1471 rfl dX12_row_64 ?_
                refine lv_bipush (v := 60) hx hb dX12_row_67 (by decide) ?_
                refine lv_iload_n hx hb dX12_row_69 rfl (lv_at hl 2 rfl) ?_
                refine lv_imul hx hb dX12_row_70 ?_
                refine lv_topi (fun z110 e111 => ?_)
                have t112 := ib_cmul (q := 60) e111 (by decide) (by decide) b69 (by decide) (by decide)
                have b113 : Bd z110 (0) (180) := ib_mulb t112 (by decide) b69
                refine lv_iload hx hb dX12_row_71 (lv_at hl 0 rfl) ?_
                refine lv_iadd hx hb dX12_row_73 ?_
                refine lv_topi (fun z114 e115 => ?_)
                have t116 := ib_add e115 b113 b107 (by decide) (by decide)
                have b117 : Bd z114 (0) (239) := ib_addb t116 b113 b107
                refine lv_lconst (v := 0) hx hb dX12_row_74 (by decide) ?_
                obtain ⟨f118, c119⟩ := invM_3 hI
                refine xlast E hs hQ 3 (by decide) c119 (ib_in b117 (by decide) (by decide)) dX12_row_75 (fun H locs S121 eS121 hQ => ?_)
                have hI := invM_up_3 hI eS121 ⟨_, rfl⟩
                have c122 : S121 3 = .inl (g.2 2, 240, .inr (.inl (vp_updL f118 (z114 : Int32).toNatClampNeg 0))) := up_at eS121 rfl
                obtain ⟨z123, e124⟩ : ∃ z : Int32, z = x57_4 + 1 := ⟨_, rfl⟩
                have t125 := ib_add e124 b107 (by decide : Bd 1 (1) (1)) (by decide) (by decide)
                have b126 : Bd z123 (1) (60) := ib_addb t125 b107 (by decide : Bd 1 (1) (1))
                have t125 : z123.toInt = x57_4.toInt + 1 := fold_add t125 rfl (by decide)
                refine lv_iinc (v := z123) (lv' := [(4, .int z123), (0, .ref (ad 0)), (1, .int a1), (2, .int a2), (3, .int a3)]) hx hb dX12_row_76 hl (k := 0) rfl (by rw [e124]; rfl) (by decide) rfl (fun ls hl => ?_)
                refine lv_goto (tgt := 57) hx hb dX12_row_79 (by decide) ?_
                exact ih57 _ _ _ _ z123 (ib_wk b126 (by decide) (by decide)) (by omega) hI (up_o hf57 eS121 (by decide)) hQ (lv_sub hl [0, 1, 2, 3, 4] rfl)
          obtain ⟨n57, hn57⟩ := fu_n (60)
          exact loop57 n57 _ _ _ _ 0 (ib_wk (by decide : Bd 0 (0) (0)) (by decide) (by decide)) (by have : (0 : Int32).toInt = 0 := (by decide); omega) hI o_refl hQ (lv_sub hl [0, 1, 2, 3, 4] rfl)
        · have h127 := ib_nle k88
          have b128 : Bd a3 (-2147483648) (-1) := ⟨(b87).1, ((rf_lt b87 (by decide : Bd 0 (0) (0)) h127).1).2⟩
          refine lv_bipush (v := (-3)) hx hb dX12_row_37 (by decide) ?_
          exact xri E hr hlk hQ (⟨hI, (up_o o_refl eS60 (by decide)), (ib_wk (by decide : Bd (-3) (-3) (-3)) (by decide) (by decide))⟩) dX12_row_39
      · have h129 := ib_nle k85
        have b130 : Bd a3 (61) (2147483647) := ⟨((rf_lt (by decide : Bd 60 (60) (60)) (ib_full a3) h129).2).1, ((ib_full a3)).2⟩
        refine lv_bipush (v := (-2)) hx hb dX12_row_30 (by decide) ?_
        exact xri E hr hlk hQ (⟨hI, (up_o o_refl eS60 (by decide)), (ib_wk (by decide : Bd (-2) (-2) (-2)) (by decide) (by decide))⟩) dX12_row_32
set_option maxHeartbeats 4000000 in
set_option maxRecDepth 100000 in
theorem gX12_write_0 (l : Launch) (g : GG) (ad : Nat → Nat) (hD : Dj ad 20) (S : SS) (hI : InvM g ad S) (a1 : Int32) (a2 : Int32) (wa3 : Int64) (hq1 : 0 ≤ 12 * elm (S 7) 1 + (-1) * elm (S 7) 0) (hq2 : 0 ≤ 12 * elm (S 7) 3 + (-1) * elm (S 7) 0) (hq3 : 0 ≤ 8 * elm (S 7) 0 + (-1) * elm (S 7) 6) (hq4 : 0 ≤ 3 * elm (S 7) 0 + (-1) * elm (S 7) 8) (hq5 : 0 ≤ 40000 * elm (S 7) 0 + (-1) * elm (S 6) 0) : Met l yX12_write (wG (.code yX12_write cX12_write 5 (some .int))) (Rm 2) (XPre g ad 20 S [.ref (ad 0), .int a1, .int a2, .long wa3]) (va_Qi (fun r S' => InvM g ad S' ∧ (∀ j, j ∉ ([0, 3] : List Nat) → S' j = S j) ∧ Bd r (-7) (0)) (QB g ad 20) (FA ad 20)) 0 0 (FA ad 20) := by
  refine xmet cX12_write "EbbWreckModel" (by decide) rfl (Nat.le_of_ble_eq_true rfl) (fun p e s m below meth c E hr hlk hml hQ ls hl => ?_)
  have hx := E.1
  have hb := E.2.1
  have hs : Sp ad 20 (FA ad 20) := Sp.fa hD
  have hl : lv_has ls 5 [(0, .ref (ad 0)), (1, .int a1), (2, .int a2), (3, .long wa3)] := hl
  obtain ⟨f1, c2, b3⟩ := invM_7 hI
  obtain ⟨v4, ee5⟩ : ∃ z : Int32, f1 1 = z := ⟨_, rfl⟩
  have b6 : Bd v4 (0) (12) := (by rw [← ee5]; exact b3.2.1 1 (by decide))
  obtain ⟨v7, ee8⟩ : ∃ z : Int32, f1 0 = z := ⟨_, rfl⟩
  have b9 : Bd v7 (0) (12) := (by rw [← ee8]; exact b3.1 0 (by decide))
  obtain ⟨v10, ee11⟩ : ∃ z : Int32, f1 3 = z := ⟨_, rfl⟩
  have b12 : Bd v10 (0) (12) := (by rw [← ee11]; exact b3.2.2.2.1 3 (by decide))
  obtain ⟨v13, ee14⟩ : ∃ z : Int32, f1 6 = z := ⟨_, rfl⟩
  have b15 : Bd v13 (0) (8) := (by rw [← ee14]; exact b3.2.2.2.2.1 6 (by decide))
  obtain ⟨v16, ee17⟩ : ∃ z : Int32, f1 8 = z := ⟨_, rfl⟩
  have b18 : Bd v16 (0) (3) := (by rw [← ee17]; exact b3.2.2.2.2.2.2.1 8 (by decide))
  obtain ⟨f19, c20, b21⟩ := invM_6 hI
  obtain ⟨v22, ee23⟩ : ∃ z : Int32, f19 0 = z := ⟨_, rfl⟩
  have b24 : Bd v22 (0) (40000) := (by rw [← ee23]; exact b21 0)
  have q25 : elm (S 7) 1 = v4.toInt := (elm_of c2 1).trans (congrArg Int32.toInt (ee5))
  have q26 : elm (S 7) 0 = v7.toInt := (elm_of c2 0).trans (congrArg Int32.toInt (ee8))
  have q27 : elm (S 7) 3 = v10.toInt := (elm_of c2 3).trans (congrArg Int32.toInt (ee11))
  have q28 : elm (S 7) 6 = v13.toInt := (elm_of c2 6).trans (congrArg Int32.toInt (ee14))
  have q29 : elm (S 7) 8 = v16.toInt := (elm_of c2 8).trans (congrArg Int32.toInt (ee17))
  have q30 : elm (S 6) 0 = v22.toInt := (elm_of c20 0).trans (congrArg Int32.toInt (ee23))
  refine lv_aload_n hx hb dX12_write_0 rfl (lv_at hl 0 rfl) ?_
  refine lv_iconst (v := 0) hx hb dX12_write_1 (by decide) ?_
  obtain ⟨v31, v32, v34, v36, v38, v39, w40, v41, v43, v44, v45, v46, v48, v50, v52, v54, v56, v57, v58, c59, b33, b35, b37, b42, b47, b49, b51, b53, b55⟩ := invM_0 hI
  have c59 : S 0 = .inr (12, [.int v31, .ref (ad 1), .ref (ad 2), .ref (ad 3), .ref (ad 4), .ref (ad 5), .int v32, .int v34, .int v36, .int v38, .int v39, .long w40, .int v41, .int v43, .int v44, .int v45, .ref (ad 6), .ref (ad 7), .ref (ad 8), .ref (ad 9), .ref (ad 10), .ref (ad 11), .ref (ad 12), .ref (ad 13), .ref (ad 14), .ref (ad 15), .int v46, .int v48, .ref (ad 16), .int v50, .int v52, .int v54, .int v56, .int v57, .ref (ad 17), .ref (ad 18), .int v58, .ref (ad 19)]) := c59
  refine xputi E hs hQ 0 (by decide) c59 rfl 0 (by decide) q1468 rfl rfl (Nat.le_of_ble_eq_true rfl) dX12_write_2 (fun H locs S60 eS60 hQ => ?_)
  have hI := invM_up_0 hI eS60 ⟨0, v32, v34, v36, v38, v39, w40, v41, v43, v44, v45, v46, v48, v50, v52, v54, v56, v57, v58, rfl, b33, b35, b37, b42, b47, b49, b51, b53, b55⟩
  have c61 : S60 0 = .inr (12, [.int 0, .ref (ad 1), .ref (ad 2), .ref (ad 3), .ref (ad 4), .ref (ad 5), .int v32, .int v34, .int v36, .int v38, .int v39, .long w40, .int v41, .int v43, .int v44, .int v45, .ref (ad 6), .ref (ad 7), .ref (ad 8), .ref (ad 9), .ref (ad 10), .ref (ad 11), .ref (ad 12), .ref (ad 13), .ref (ad 14), .ref (ad 15), .int v46, .int v48, .ref (ad 16), .int v50, .int v52, .int v54, .int v56, .int v57, .ref (ad 17), .ref (ad 18), .int v58, .ref (ad 19)]) := up_at eS60 rfl
  refine lv_iload_n hx hb dX12_write_5 rfl (lv_at hl 1 rfl) ?_
  refine xcSi E hs hQ hml hl.1 (gX12_isSlot l g ad hD S60 hI a1) mX12_isSlot q1587 rfl ⟨(Nat.le_of_ble_eq_true rfl), (Nat.le_of_ble_eq_true rfl)⟩ ⟨(Nat.le_of_ble_eq_true rfl), (Nat.le_of_ble_eq_true rfl)⟩ (Nat.le_of_ble_eq_true rfl) rfl dX12_write_6 (fun r62 S62 H locs hp62 hQ => ?_)
  obtain ⟨rfl, b62, g62_0⟩ := hp62
  refine lv_if_ne (tgt := 15) hx hb dX12_write_9 (by decide) (fun k63 => ?_) (fun k63 => ?_)
  · have h64 := ib_ne k63
    have b65 : Bd r62 (1) (1) := rf_nlo b62 (by decide : Bd 0 (0) (0)) h64
    have g66 := g62_0.resolve_left (by omega)
    clear g62_0
    have b67 : Bd a1 (0) (3) := ⟨by omega, by omega⟩
    refine lv_aload_n hx hb dX12_write_15 rfl (lv_at hl 0 rfl) ?_
    refine xget E hQ 0 (by decide) c61 rfl 1 (by decide) q1469 rfl dX12_write_16 ?_
    refine lv_iload_n hx hb dX12_write_19 rfl (lv_at hl 1 rfl) ?_
    obtain ⟨f68, c69, b70⟩ := invM_1 hI
    refine xiald E hQ 1 (by decide) c69 (ib_in b67 (by decide) (by decide)) dX12_write_20 ?_
    refine lv_topi (fun z71 e72 => ?_)
    have b73 : Bd z71 (-1) (3) := (by rw [e72]; exact b70 _)
    refine lv_iconst (v := (-1)) hx hb dX12_write_21 (by decide) ?_
    refine lv_icmp_ne (tgt := 28) hx hb dX12_write_22 (by decide) (fun k74 => ?_) (fun k74 => ?_)
    · have h75 := ib_ne k74
      have b76 : Bd z71 (0) (3) := rf_nlo b73 (by decide : Bd (-1) (-1) (-1)) h75
      refine lv_iload_n hx hb dX12_write_28 rfl (lv_at hl 2 rfl) ?_
      refine lv_i2l hx hb dX12_write_29 rfl ?_
      refine lv_topl (fun w77 e78 => ?_)
      have t79 : w77.toInt = a2.toInt := by rw [e78]; exact i2l_i _
      have b80 : BdL w77 (-2147483648) (2147483647) := (by have h1 := ((ib_full a2)).1; have h2 := ((ib_full a2)).2; exact ⟨by omega, by omega⟩)
      refine lv_lconst (v := 0) hx hb dX12_write_30 (by decide) ?_
      refine lv_aload_n hx hb dX12_write_31 rfl (lv_at hl 0 rfl) ?_
      refine xget E hQ 0 (by decide) c61 rfl 2 (by decide) q1470 rfl dX12_write_32 ?_
      refine lv_iload_n hx hb dX12_write_35 rfl (lv_at hl 1 rfl) ?_
      obtain ⟨f81, c82, b83⟩ := invM_2 hI
      refine xiald E hQ 2 (by decide) c82 (ib_in b67 (by decide) (by decide)) dX12_write_36 ?_
      refine lv_topi (fun z84 e85 => ?_)
      have b86 : Bd z84 (0) (60) := (by rw [e85]; exact b83 _)
      refine lv_iconst (v := 1) hx hb dX12_write_37 (by decide) ?_
      refine lv_isub hx hb dX12_write_38 ?_
      refine lv_topi (fun z87 e88 => ?_)
      have t89 := ib_sub e88 b86 (by decide : Bd 1 (1) (1)) (by decide) (by decide)
      have b90 : Bd z87 (-1) (59) := ib_subb t89 b86 (by decide : Bd 1 (1) (1))
      have t89 : z87.toInt = z84.toInt - 1 := fold_sub t89 rfl (by decide)
      refine lv_i2l hx hb dX12_write_39 rfl ?_
      refine lv_topl (fun w91 e92 => ?_)
      have t93 : w91.toInt = z87.toInt := by rw [e92]; exact i2l_i _
      have b94 : BdL w91 (-1) (59) := (by have h1 := (b90).1; have h2 := (b90).2; exact ⟨by omega, by omega⟩)
      refine xcSi E hs hQ hml hl.1 (gX12_in l g ad hD S60 hI w77 0 w91) mX12_in q1591 rfl ⟨(Nat.le_of_ble_eq_true rfl), (Nat.le_of_ble_eq_true rfl)⟩ ⟨(Nat.le_of_ble_eq_true rfl), (Nat.le_of_ble_eq_true rfl)⟩ (Nat.le_of_ble_eq_true rfl) rfl dX12_write_40 (fun r95 S95 H locs hp95 hQ => ?_)
      obtain ⟨rfl, b95, g95_0⟩ := hp95
      have q96 : (0 : Int64).toInt = 0 := by decide
      refine lv_if_ne (tgt := 49) hx hb dX12_write_43 (by decide) (fun k97 => ?_) (fun k97 => ?_)
      · have h98 := ib_ne k97
        have b99 : Bd r95 (1) (1) := rf_nlo b95 (by decide : Bd 0 (0) (0)) h98
        have g100 := g95_0.resolve_left (by omega)
        clear g95_0
        have b101 : BdL w77 (0) (59) := ⟨by omega, by omega⟩
        have b102 : BdL w91 (0) (59) := ⟨by omega, (b94).2⟩
        have b103 : Bd a2 (0) (59) := ⟨by omega, by omega⟩
        have b104 : Bd z87 (0) (59) := ⟨by omega, (b90).2⟩
        refine lv_aload_n hx hb dX12_write_49 rfl (lv_at hl 0 rfl) ?_
        refine xget E hQ 0 (by decide) c61 rfl 3 (by decide) q1471 rfl dX12_write_50 ?_
        refine lv_bipush (v := 60) hx hb dX12_write_53 (by decide) ?_
        refine lv_iload_n hx hb dX12_write_55 rfl (lv_at hl 1 rfl) ?_
        refine lv_imul hx hb dX12_write_56 ?_
        refine lv_topi (fun z105 e106 => ?_)
        have t107 := ib_cmul (q := 60) e106 (by decide) (by decide) b67 (by decide) (by decide)
        have b108 : Bd z105 (0) (180) := ib_mulb t107 (by decide) b67
        refine lv_iload_n hx hb dX12_write_57 rfl (lv_at hl 2 rfl) ?_
        refine lv_iadd hx hb dX12_write_58 ?_
        refine lv_topi (fun z109 e110 => ?_)
        have t111 := ib_add e110 b108 b103 (by decide) (by decide)
        have b112 : Bd z109 (0) (239) := ib_addb t111 b108 b103
        refine lv_lload_n hx hb dX12_write_59 rfl (lv_at hl 3 rfl) ?_
        refine lv_aload_n hx hb dX12_write_60 rfl (lv_at hl 0 rfl) ?_
        refine xget E hQ 0 (by decide) c61 rfl 1 (by decide) q1469 rfl dX12_write_61 ?_
        refine lv_iload_n hx hb dX12_write_64 rfl (lv_at hl 1 rfl) ?_
        refine xiald E hQ 1 (by decide) c69 (ib_in b67 (by decide) (by decide)) dX12_write_65 ?_
        refine lv_topi (fun z113 e114 => ?_)
        have t115 : z113.toInt = z71.toInt := by rw [e114, e72]
        have b116 : Bd z113 (0) (3) := (by rw [Bd, t115]; exact b76)
        refine xcSl E hs hQ hml hl.1 (gX12_cut l g ad hD S60 hI wa3 z113) mX12_cut q1598 rfl ⟨(Nat.le_of_ble_eq_true rfl), (Nat.le_of_ble_eq_true rfl)⟩ ⟨(Nat.le_of_ble_eq_true rfl), (Nat.le_of_ble_eq_true rfl)⟩ (Nat.le_of_ble_eq_true rfl) rfl dX12_write_66 (fun r117 S117 H locs hp117 hQ => ?_)
        subst hp117
        obtain ⟨w117, ew117⟩ : ∃ z : Int64, z = r117 := ⟨_, rfl⟩
        rw [← ew117]
        obtain ⟨f118, c119⟩ := invM_3 hI
        refine xlast E hs hQ 3 (by decide) c119 (ib_in b112 (by decide) (by decide)) dX12_write_69 (fun H locs S121 eS121 hQ => ?_)
        have hI := invM_up_3 hI eS121 ⟨_, rfl⟩
        have c122 : S121 3 = .inl (g.2 2, 240, .inr (.inl (vp_updL f118 (z109 : Int32).toNatClampNeg w117))) := up_at eS121 rfl
        refine lv_iconst (v := 0) hx hb dX12_write_70 (by decide) ?_
        exact xri E hr hlk hQ (⟨hI, (up_o (up_o o_refl eS60 (by decide)) eS121 (by decide)), (ib_wk (by decide : Bd 0 (0) (0)) (by decide) (by decide))⟩) dX12_write_71
      · have h123 := ib_eq k97
        have b124 : Bd r95 (0) (0) := ⟨(b95).1, ((rf_eq b95 (by decide : Bd 0 (0) (0)) h123).1).2⟩
        clear g95_0
        refine lv_bipush (v := (-7)) hx hb dX12_write_46 (by decide) ?_
        exact xri E hr hlk hQ (⟨hI, (up_o o_refl eS60 (by decide)), (ib_wk (by decide : Bd (-7) (-7) (-7)) (by decide) (by decide))⟩) dX12_write_48
    · have h125 := ib_eq k74
      have b126 : Bd z71 (-1) (-1) := ⟨(b73).1, ((rf_eq b73 (by decide : Bd (-1) (-1) (-1)) h125).1).2⟩
      refine lv_bipush (v := (-6)) hx hb dX12_write_25 (by decide) ?_
      exact xri E hr hlk hQ (⟨hI, (up_o o_refl eS60 (by decide)), (ib_wk (by decide : Bd (-6) (-6) (-6)) (by decide) (by decide))⟩) dX12_write_27
  · have h127 := ib_eq k63
    have b128 : Bd r62 (0) (0) := ⟨(b62).1, ((rf_eq b62 (by decide : Bd 0 (0) (0)) h127).1).2⟩
    clear g62_0
    refine lv_bipush (v := (-2)) hx hb dX12_write_12 (by decide) ?_
    exact xri E hr hlk hQ (⟨hI, (up_o o_refl eS60 (by decide)), (ib_wk (by decide : Bd (-2) (-2) (-2)) (by decide) (by decide))⟩) dX12_write_14
set_option maxHeartbeats 4000000 in
set_option maxRecDepth 100000 in
theorem gX12_paste_0 (l : Launch) (g : GG) (ad : Nat → Nat) (hD : Dj ad 20) (S : SS) (hI : InvM g ad S) (a1 : Int32) (a2 : Int32) (a3 : Int32) (a4 : Int32) (a5 : Int32) (hq1 : 0 ≤ 12 * elm (S 7) 1 + (-1) * elm (S 7) 0) (hq2 : 0 ≤ 12 * elm (S 7) 3 + (-1) * elm (S 7) 0) (hq3 : 0 ≤ 8 * elm (S 7) 0 + (-1) * elm (S 7) 6) (hq4 : 0 ≤ 3 * elm (S 7) 0 + (-1) * elm (S 7) 8) (hq5 : 0 ≤ 40000 * elm (S 7) 0 + (-1) * elm (S 6) 0) : Met l yX12_paste (wG (.code yX12_paste cX12_paste 7 (some .int))) (Rm 2) (XPre g ad 20 S [.ref (ad 0), .int a1, .int a2, .int a3, .int a4, .int a5]) (va_Qi (fun r S' => InvM g ad S' ∧ (∀ j, j ∉ ([0, 3, 4] : List Nat) → S' j = S j) ∧ Bd r (-8) (0)) (QB g ad 20) (FA ad 20)) 0 0 (FA ad 20) := by
  refine xmet cX12_paste "EbbWreckModel" (by decide) rfl (Nat.le_of_ble_eq_true rfl) (fun p e s m below meth c E hr hlk hml hQ ls hl => ?_)
  have hx := E.1
  have hb := E.2.1
  have hs : Sp ad 20 (FA ad 20) := Sp.fa hD
  have hl : lv_has ls 7 [(0, .ref (ad 0)), (1, .int a1), (2, .int a2), (3, .int a3), (4, .int a4), (5, .int a5)] := hl
  obtain ⟨f1, c2, b3⟩ := invM_7 hI
  obtain ⟨v4, ee5⟩ : ∃ z : Int32, f1 1 = z := ⟨_, rfl⟩
  have b6 : Bd v4 (0) (12) := (by rw [← ee5]; exact b3.2.1 1 (by decide))
  obtain ⟨v7, ee8⟩ : ∃ z : Int32, f1 0 = z := ⟨_, rfl⟩
  have b9 : Bd v7 (0) (12) := (by rw [← ee8]; exact b3.1 0 (by decide))
  obtain ⟨v10, ee11⟩ : ∃ z : Int32, f1 3 = z := ⟨_, rfl⟩
  have b12 : Bd v10 (0) (12) := (by rw [← ee11]; exact b3.2.2.2.1 3 (by decide))
  obtain ⟨v13, ee14⟩ : ∃ z : Int32, f1 6 = z := ⟨_, rfl⟩
  have b15 : Bd v13 (0) (8) := (by rw [← ee14]; exact b3.2.2.2.2.1 6 (by decide))
  obtain ⟨v16, ee17⟩ : ∃ z : Int32, f1 8 = z := ⟨_, rfl⟩
  have b18 : Bd v16 (0) (3) := (by rw [← ee17]; exact b3.2.2.2.2.2.2.1 8 (by decide))
  obtain ⟨f19, c20, b21⟩ := invM_6 hI
  obtain ⟨v22, ee23⟩ : ∃ z : Int32, f19 0 = z := ⟨_, rfl⟩
  have b24 : Bd v22 (0) (40000) := (by rw [← ee23]; exact b21 0)
  have q25 : elm (S 7) 1 = v4.toInt := (elm_of c2 1).trans (congrArg Int32.toInt (ee5))
  have q26 : elm (S 7) 0 = v7.toInt := (elm_of c2 0).trans (congrArg Int32.toInt (ee8))
  have q27 : elm (S 7) 3 = v10.toInt := (elm_of c2 3).trans (congrArg Int32.toInt (ee11))
  have q28 : elm (S 7) 6 = v13.toInt := (elm_of c2 6).trans (congrArg Int32.toInt (ee14))
  have q29 : elm (S 7) 8 = v16.toInt := (elm_of c2 8).trans (congrArg Int32.toInt (ee17))
  have q30 : elm (S 6) 0 = v22.toInt := (elm_of c20 0).trans (congrArg Int32.toInt (ee23))
  refine lv_aload_n hx hb dX12_paste_0 rfl (lv_at hl 0 rfl) ?_
  refine lv_iconst (v := 0) hx hb dX12_paste_1 (by decide) ?_
  obtain ⟨v31, v32, v34, v36, v38, v39, w40, v41, v43, v44, v45, v46, v48, v50, v52, v54, v56, v57, v58, c59, b33, b35, b37, b42, b47, b49, b51, b53, b55⟩ := invM_0 hI
  have c59 : S 0 = .inr (12, [.int v31, .ref (ad 1), .ref (ad 2), .ref (ad 3), .ref (ad 4), .ref (ad 5), .int v32, .int v34, .int v36, .int v38, .int v39, .long w40, .int v41, .int v43, .int v44, .int v45, .ref (ad 6), .ref (ad 7), .ref (ad 8), .ref (ad 9), .ref (ad 10), .ref (ad 11), .ref (ad 12), .ref (ad 13), .ref (ad 14), .ref (ad 15), .int v46, .int v48, .ref (ad 16), .int v50, .int v52, .int v54, .int v56, .int v57, .ref (ad 17), .ref (ad 18), .int v58, .ref (ad 19)]) := c59
  refine xputi E hs hQ 0 (by decide) c59 rfl 0 (by decide) q1468 rfl rfl (Nat.le_of_ble_eq_true rfl) dX12_paste_2 (fun H locs S60 eS60 hQ => ?_)
  have hI := invM_up_0 hI eS60 ⟨0, v32, v34, v36, v38, v39, w40, v41, v43, v44, v45, v46, v48, v50, v52, v54, v56, v57, v58, rfl, b33, b35, b37, b42, b47, b49, b51, b53, b55⟩
  have c61 : S60 0 = .inr (12, [.int 0, .ref (ad 1), .ref (ad 2), .ref (ad 3), .ref (ad 4), .ref (ad 5), .int v32, .int v34, .int v36, .int v38, .int v39, .long w40, .int v41, .int v43, .int v44, .int v45, .ref (ad 6), .ref (ad 7), .ref (ad 8), .ref (ad 9), .ref (ad 10), .ref (ad 11), .ref (ad 12), .ref (ad 13), .ref (ad 14), .ref (ad 15), .int v46, .int v48, .ref (ad 16), .int v50, .int v52, .int v54, .int v56, .int v57, .ref (ad 17), .ref (ad 18), .int v58, .ref (ad 19)]) := up_at eS60 rfl
  refine lv_iload_n hx hb dX12_paste_5 rfl (lv_at hl 1 rfl) ?_
  refine xcSi E hs hQ hml hl.1 (gX12_isSlot l g ad hD S60 hI a1) mX12_isSlot q1587 rfl ⟨(Nat.le_of_ble_eq_true rfl), (Nat.le_of_ble_eq_true rfl)⟩ ⟨(Nat.le_of_ble_eq_true rfl), (Nat.le_of_ble_eq_true rfl)⟩ (Nat.le_of_ble_eq_true rfl) rfl dX12_paste_6 (fun r62 S62 H locs hp62 hQ => ?_)
  obtain ⟨rfl, b62, g62_0⟩ := hp62
  refine lv_if_eq (tgt := 19) hx hb dX12_paste_9 (by decide) (fun k63 => ?_) (fun k63 => ?_)
  · have h64 := ib_eq k63
    have b65 : Bd r62 (0) (0) := ⟨(b62).1, ((rf_eq b62 (by decide : Bd 0 (0) (0)) h64).1).2⟩
    clear g62_0
    refine lv_bipush (v := (-2)) hx hb dX12_paste_19 (by decide) ?_
    exact xri E hr hlk hQ (⟨hI, (up_o o_refl eS60 (by decide)), (ib_wk (by decide : Bd (-2) (-2) (-2)) (by decide) (by decide))⟩) dX12_paste_21
  · have h66 := ib_ne k63
    have b67 : Bd r62 (1) (1) := rf_nlo b62 (by decide : Bd 0 (0) (0)) h66
    have g68 := g62_0.resolve_left (by omega)
    clear g62_0
    have b69 : Bd a1 (0) (3) := ⟨by omega, by omega⟩
    refine lv_iload_n hx hb dX12_paste_12 rfl (lv_at hl 3 rfl) ?_
    refine xcSi E hs hQ hml hl.1 (gX12_isSlot l g ad hD S60 hI a3) mX12_isSlot q1587 rfl ⟨(Nat.le_of_ble_eq_true rfl), (Nat.le_of_ble_eq_true rfl)⟩ ⟨(Nat.le_of_ble_eq_true rfl), (Nat.le_of_ble_eq_true rfl)⟩ (Nat.le_of_ble_eq_true rfl) rfl dX12_paste_13 (fun r70 S70 H locs hp70 hQ => ?_)
    obtain ⟨rfl, b70, g70_0⟩ := hp70
    refine lv_if_ne (tgt := 22) hx hb dX12_paste_16 (by decide) (fun k71 => ?_) (fun k71 => ?_)
    · have h72 := ib_ne k71
      have b73 : Bd r70 (1) (1) := rf_nlo b70 (by decide : Bd 0 (0) (0)) h72
      have g74 := g70_0.resolve_left (by omega)
      clear g70_0
      have b75 : Bd a3 (0) (3) := ⟨by omega, by omega⟩
      refine lv_aload_n hx hb dX12_paste_22 rfl (lv_at hl 0 rfl) ?_
      refine xget E hQ 0 (by decide) c61 rfl 1 (by decide) q1469 rfl dX12_paste_23 ?_
      refine lv_iload_n hx hb dX12_paste_26 rfl (lv_at hl 1 rfl) ?_
      obtain ⟨f76, c77, b78⟩ := invM_1 hI
      refine xiald E hQ 1 (by decide) c77 (ib_in b69 (by decide) (by decide)) dX12_paste_27 ?_
      refine lv_topi (fun z79 e80 => ?_)
      have b81 : Bd z79 (-1) (3) := (by rw [e80]; exact b78 _)
      refine lv_iconst (v := (-1)) hx hb dX12_paste_28 (by decide) ?_
      refine lv_icmp_eq (tgt := 42) hx hb dX12_paste_29 (by decide) (fun k82 => ?_) (fun k82 => ?_)
      · have h83 := ib_eq k82
        have b84 : Bd z79 (-1) (-1) := ⟨(b81).1, ((rf_eq b81 (by decide : Bd (-1) (-1) (-1)) h83).1).2⟩
        refine lv_bipush (v := (-6)) hx hb dX12_paste_42 (by decide) ?_
        exact xri E hr hlk hQ (⟨hI, (up_o o_refl eS60 (by decide)), (ib_wk (by decide : Bd (-6) (-6) (-6)) (by decide) (by decide))⟩) dX12_paste_44
      · have h85 := ib_ne k82
        have b86 : Bd z79 (0) (3) := rf_nlo b81 (by decide : Bd (-1) (-1) (-1)) h85
        refine lv_aload_n hx hb dX12_paste_32 rfl (lv_at hl 0 rfl) ?_
        refine xget E hQ 0 (by decide) c61 rfl 1 (by decide) q1469 rfl dX12_paste_33 ?_
        refine lv_iload_n hx hb dX12_paste_36 rfl (lv_at hl 3 rfl) ?_
        refine xiald E hQ 1 (by decide) c77 (ib_in b75 (by decide) (by decide)) dX12_paste_37 ?_
        refine lv_topi (fun z87 e88 => ?_)
        have b89 : Bd z87 (-1) (3) := (by rw [e88]; exact b78 _)
        refine lv_iconst (v := (-1)) hx hb dX12_paste_38 (by decide) ?_
        refine lv_icmp_ne (tgt := 45) hx hb dX12_paste_39 (by decide) (fun k90 => ?_) (fun k90 => ?_)
        · have h91 := ib_ne k90
          have b92 : Bd z87 (0) (3) := rf_nlo b89 (by decide : Bd (-1) (-1) (-1)) h91
          refine lv_aload_n hx hb dX12_paste_45 rfl (lv_at hl 0 rfl) ?_
          refine xget E hQ 0 (by decide) c61 rfl 1 (by decide) q1469 rfl dX12_paste_46 ?_
          refine lv_iload_n hx hb dX12_paste_49 rfl (lv_at hl 1 rfl) ?_
          refine xiald E hQ 1 (by decide) c77 (ib_in b69 (by decide) (by decide)) dX12_paste_50 ?_
          refine lv_topi (fun z93 e94 => ?_)
          have t95 : z93.toInt = z79.toInt := by rw [e94, e80]
          have b96 : Bd z93 (0) (3) := (by rw [Bd, t95]; exact b86)
          refine lv_aload_n hx hb dX12_paste_51 rfl (lv_at hl 0 rfl) ?_
          refine xget E hQ 0 (by decide) c61 rfl 1 (by decide) q1469 rfl dX12_paste_52 ?_
          refine lv_iload_n hx hb dX12_paste_55 rfl (lv_at hl 3 rfl) ?_
          refine xiald E hQ 1 (by decide) c77 (ib_in b75 (by decide) (by decide)) dX12_paste_56 ?_
          refine lv_topi (fun z97 e98 => ?_)
          have t99 : z97.toInt = z87.toInt := by rw [e98, e88]
          have b100 : Bd z97 (0) (3) := (by rw [Bd, t99]; exact b92)
          refine lv_icmp_eq (tgt := 63) hx hb dX12_paste_57 (by decide) (fun k101 => ?_) (fun k101 => ?_)
          · have h102 := ib_eq k101
            refine lv_iload_n hx hb dX12_paste_63 rfl (lv_at hl 2 rfl) ?_
            refine lv_if_lt (tgt := 112) hx hb dX12_paste_64 (by decide) (fun k103 => ?_) (fun k103 => ?_)
            · have h104 := ib_lt k103
              have b105 : Bd a2 (-2147483648) (-1) := ⟨((ib_full a2)).1, ((rf_lt (ib_full a2) (by decide : Bd 0 (0) (0)) h104).1).2⟩
              refine lv_bipush (v := (-7)) hx hb dX12_paste_112 (by decide) ?_
              exact xri E hr hlk hQ (⟨hI, (up_o o_refl eS60 (by decide)), (ib_wk (by decide : Bd (-7) (-7) (-7)) (by decide) (by decide))⟩) dX12_paste_114
            · have h106 := ib_nlt k103
              have b107 : Bd a2 (0) (2147483647) := ⟨((rf_le (by decide : Bd 0 (0) (0)) (ib_full a2) h106).2).1, ((ib_full a2)).2⟩
              refine lv_iload hx hb dX12_paste_67 (lv_at hl 4 rfl) ?_
              refine lv_if_lt (tgt := 112) hx hb dX12_paste_69 (by decide) (fun k108 => ?_) (fun k108 => ?_)
              · have h109 := ib_lt k108
                have b110 : Bd a4 (-2147483648) (-1) := ⟨((ib_full a4)).1, ((rf_lt (ib_full a4) (by decide : Bd 0 (0) (0)) h109).1).2⟩
                refine lv_bipush (v := (-7)) hx hb dX12_paste_112 (by decide) ?_
                exact xri E hr hlk hQ (⟨hI, (up_o o_refl eS60 (by decide)), (ib_wk (by decide : Bd (-7) (-7) (-7)) (by decide) (by decide))⟩) dX12_paste_114
              · have h111 := ib_nlt k108
                have b112 : Bd a4 (0) (2147483647) := ⟨((rf_le (by decide : Bd 0 (0) (0)) (ib_full a4) h111).2).1, ((ib_full a4)).2⟩
                refine lv_iload hx hb dX12_paste_72 (lv_at hl 5 rfl) ?_
                refine lv_if_lt (tgt := 112) hx hb dX12_paste_74 (by decide) (fun k113 => ?_) (fun k113 => ?_)
                · have h114 := ib_lt k113
                  have b115 : Bd a5 (-2147483648) (-1) := ⟨((ib_full a5)).1, ((rf_lt (ib_full a5) (by decide : Bd 0 (0) (0)) h114).1).2⟩
                  refine lv_bipush (v := (-7)) hx hb dX12_paste_112 (by decide) ?_
                  exact xri E hr hlk hQ (⟨hI, (up_o o_refl eS60 (by decide)), (ib_wk (by decide : Bd (-7) (-7) (-7)) (by decide) (by decide))⟩) dX12_paste_114
                · have h116 := ib_nlt k113
                  have b117 : Bd a5 (0) (2147483647) := ⟨((rf_le (by decide : Bd 0 (0) (0)) (ib_full a5) h116).2).1, ((ib_full a5)).2⟩
                  refine lv_iload_n hx hb dX12_paste_77 rfl (lv_at hl 2 rfl) ?_
                  refine lv_i2l hx hb dX12_paste_78 rfl ?_
                  refine lv_topl (fun w118 e119 => ?_)
                  have t120 : w118.toInt = a2.toInt := by rw [e119]; exact i2l_i _
                  have b121 : BdL w118 (0) (2147483647) := (by have h1 := (b107).1; have h2 := (b107).2; exact ⟨by omega, by omega⟩)
                  refine lv_iload hx hb dX12_paste_79 (lv_at hl 5 rfl) ?_
                  refine lv_i2l hx hb dX12_paste_81 rfl ?_
                  refine lv_topl (fun w122 e123 => ?_)
                  have t124 : w122.toInt = a5.toInt := by rw [e123]; exact i2l_i _
                  have b125 : BdL w122 (0) (2147483647) := (by have h1 := (b117).1; have h2 := (b117).2; exact ⟨by omega, by omega⟩)
                  refine lv_ladd hx hb dX12_paste_82 ?_
                  refine lv_topl (fun w126 e127 => ?_)
                  have t128 : w126.toInt = w118.toInt + w122.toInt := ib_addL e127 b121 b125 (by decide) (by decide) rfl rfl
                  have b129 : BdL w126 (0) (4294967294) := (by have h1 := b121; have h2 := b125; exact ⟨by omega, by omega⟩)
                  refine lv_aload_n hx hb dX12_paste_83 rfl (lv_at hl 0 rfl) ?_
                  refine xget E hQ 0 (by decide) c61 rfl 2 (by decide) q1470 rfl dX12_paste_84 ?_
                  refine lv_iload_n hx hb dX12_paste_87 rfl (lv_at hl 1 rfl) ?_
                  obtain ⟨f130, c131, b132⟩ := invM_2 hI
                  refine xiald E hQ 2 (by decide) c131 (ib_in b69 (by decide) (by decide)) dX12_paste_88 ?_
                  refine lv_topi (fun z133 e134 => ?_)
                  have b135 : Bd z133 (0) (60) := (by rw [e134]; exact b132 _)
                  refine lv_i2l hx hb dX12_paste_89 rfl ?_
                  refine lv_topl (fun w136 e137 => ?_)
                  have t138 : w136.toInt = z133.toInt := by rw [e137]; exact i2l_i _
                  have b139 : BdL w136 (0) (60) := (by have h1 := (b135).1; have h2 := (b135).2; exact ⟨by omega, by omega⟩)
                  refine W.lcmp hx hb dX12_paste_90 ?_
                  refine lv_if_gt (tgt := 112) hx hb dX12_paste_91 (by decide) (fun k140 => ?_) (fun k140 => ?_)
                  · have h141 := lc_gt k140
                    have b142 : BdL w126 (1) (4294967294) := ⟨((rf_ltL b139 b129 h141).2).1, (b129).2⟩
                    refine lv_bipush (v := (-7)) hx hb dX12_paste_112 (by decide) ?_
                    exact xri E hr hlk hQ (⟨hI, (up_o o_refl eS60 (by decide)), (ib_wk (by decide : Bd (-7) (-7) (-7)) (by decide) (by decide))⟩) dX12_paste_114
                  · have h143 := lc_ngt k140
                    have b144 : BdL w126 (0) (60) := ⟨(b129).1, ((rf_leL b129 b139 h143).1).2⟩
                    refine lv_iload hx hb dX12_paste_94 (lv_at hl 4 rfl) ?_
                    refine lv_i2l hx hb dX12_paste_96 rfl ?_
                    refine lv_topl (fun w145 e146 => ?_)
                    have t147 : w145.toInt = a4.toInt := by rw [e146]; exact i2l_i _
                    have b148 : BdL w145 (0) (2147483647) := (by have h1 := (b112).1; have h2 := (b112).2; exact ⟨by omega, by omega⟩)
                    refine lv_iload hx hb dX12_paste_97 (lv_at hl 5 rfl) ?_
                    refine lv_i2l hx hb dX12_paste_99 rfl ?_
                    refine lv_topl (fun w149 e150 => ?_)
                    have t151 : w149.toInt = a5.toInt := by rw [e150]; exact i2l_i _
                    have b152 : BdL w149 (0) (2147483647) := (by have h1 := (b117).1; have h2 := (b117).2; exact ⟨by omega, by omega⟩)
                    refine lv_ladd hx hb dX12_paste_100 ?_
                    refine lv_topl (fun w153 e154 => ?_)
                    have t155 : w153.toInt = w145.toInt + w149.toInt := ib_addL e154 b148 b152 (by decide) (by decide) rfl rfl
                    have b156 : BdL w153 (0) (4294967294) := (by have h1 := b148; have h2 := b152; exact ⟨by omega, by omega⟩)
                    refine lv_aload_n hx hb dX12_paste_101 rfl (lv_at hl 0 rfl) ?_
                    refine xget E hQ 0 (by decide) c61 rfl 2 (by decide) q1470 rfl dX12_paste_102 ?_
                    refine lv_iload_n hx hb dX12_paste_105 rfl (lv_at hl 3 rfl) ?_
                    refine xiald E hQ 2 (by decide) c131 (ib_in b75 (by decide) (by decide)) dX12_paste_106 ?_
                    refine lv_topi (fun z157 e158 => ?_)
                    have b159 : Bd z157 (0) (60) := (by rw [e158]; exact b132 _)
                    refine lv_i2l hx hb dX12_paste_107 rfl ?_
                    refine lv_topl (fun w160 e161 => ?_)
                    have t162 : w160.toInt = z157.toInt := by rw [e161]; exact i2l_i _
                    have b163 : BdL w160 (0) (60) := (by have h1 := (b159).1; have h2 := (b159).2; exact ⟨by omega, by omega⟩)
                    refine W.lcmp hx hb dX12_paste_108 ?_
                    refine lv_if_le (tgt := 115) hx hb dX12_paste_109 (by decide) (fun k164 => ?_) (fun k164 => ?_)
                    · have h165 := lc_le k164
                      have b166 : BdL w153 (0) (60) := ⟨(b156).1, ((rf_leL b156 b163 h165).1).2⟩
                      refine lv_iconst (v := 0) hx hb dX12_paste_115 (by decide) ?_
                      refine lv_istore (lv' := [(6, .int 0), (0, .ref (ad 0)), (1, .int a1), (2, .int a2), (3, .int a3), (4, .int a4), (5, .int a5)]) hx hb dX12_paste_116 hl (by decide) rfl (fun ls hl => ?_)
                      have loop118 : ∀ (n : Nat) (S_118 : SS) (H : Heap) (locs : List Loc) (ls : Array Slot) (x118_6 : Int32), Bd x118_6 (0) (2147483647) → (-1) * x118_6.toInt + 2147483647 < ((n : Nat) : Int) → InvM g ad S_118 → (∀ j, j ∉ ([4] : List Nat) → S_118 j = S60 j) → Hp g ad 20 S_118 (FA ad 20) s.heap H locs → lv_has ls 7 [(6, .int x118_6), (0, .ref (ad 0)), (1, .int a1), (2, .int a2), (3, .int a3), (4, .int a4), (5, .int a5)] → W p l e (Rm 2) s m [.ref (ad 0), .int a1, .int a2, .int a3, .int a4, .int a5].toArray below meth c H locs 0 0 (MQ below (va_Qi (fun r S' => InvM g ad S' ∧ (∀ j, j ∉ ([0, 3, 4] : List Nat) → S' j = S j) ∧ Bd r (-8) (0)) (QB g ad 20) (FA ad 20)) [.ref (ad 0), .int a1, .int a2, .int a3, .int a4, .int a5].toArray s 0 0 (FA ad 20)) (F0 m 118 ls []) := by
                        intro n
                        induction n with
                        | zero => intro S_118 H locs ls x118_6 Bx118_6 hn118_ hI hf118 hQ hl; exfalso; have := (Bx118_6).2; omega
                        | succ n118_ ih118 =>
                          intro S_118 H locs ls x118_6 Bx118_6 hn118_ hI hf118 hQ hl
                          refine lv_iload hx hb dX12_paste_118 (lv_at hl 0 rfl) ?_
                          refine lv_iload hx hb dX12_paste_120 (lv_at hl 6 rfl) ?_
                          refine lv_icmp_ge (tgt := 152) hx hb dX12_paste_122 (by decide) (fun k167 => ?_) (fun k167 => ?_)
                          · have h168 := ib_le k167
                            refine lv_iconst (v := 0) hx hb dX12_paste_152 (by decide) ?_
                            refine lv_istore (lv' := [(6, .int 0), (0, .ref (ad 0)), (1, .int a1), (2, .int a2), (3, .int a3), (4, .int a4), (5, .int a5)]) hx hb dX12_paste_153 hl (by decide) rfl (fun ls hl => ?_)
                            have loop155 : ∀ (n : Nat) (S_155 : SS) (H : Heap) (locs : List Loc) (ls : Array Slot) (x155_6 : Int32), Bd x155_6 (0) (2147483647) → (-1) * x155_6.toInt + 2147483647 < ((n : Nat) : Int) → InvM g ad S_155 → (∀ j, j ∉ ([3] : List Nat) → S_155 j = S_118 j) → Hp g ad 20 S_155 (FA ad 20) s.heap H locs → lv_has ls 7 [(6, .int x155_6), (0, .ref (ad 0)), (1, .int a1), (2, .int a2), (3, .int a3), (4, .int a4), (5, .int a5)] → W p l e (Rm 2) s m [.ref (ad 0), .int a1, .int a2, .int a3, .int a4, .int a5].toArray below meth c H locs 0 0 (MQ below (va_Qi (fun r S' => InvM g ad S' ∧ (∀ j, j ∉ ([0, 3, 4] : List Nat) → S' j = S j) ∧ Bd r (-8) (0)) (QB g ad 20) (FA ad 20)) [.ref (ad 0), .int a1, .int a2, .int a3, .int a4, .int a5].toArray s 0 0 (FA ad 20)) (F0 m 155 ls []) := by
                              intro n
                              induction n with
                              | zero => intro S_155 H locs ls x155_6 Bx155_6 hn155_ hI hf155 hQ hl; exfalso; have := (Bx155_6).2; omega
                              | succ n155_ ih155 =>
                                intro S_155 H locs ls x155_6 Bx155_6 hn155_ hI hf155 hQ hl
                                refine lv_iload hx hb dX12_paste_155 (lv_at hl 0 rfl) ?_
                                refine lv_iload hx hb dX12_paste_157 (lv_at hl 6 rfl) ?_
                                refine lv_icmp_ge (tgt := 190) hx hb dX12_paste_159 (by decide) (fun k169 => ?_) (fun k169 => ?_)
                                · have h170 := ib_le k169
                                  refine lv_iconst (v := 0) hx hb dX12_paste_190 (by decide) ?_
                                  exact xri E hr hlk hQ (⟨hI, (o_trans (o_trans (up_o o_refl eS60 (by decide)) hf118 (by decide)) hf155 (by decide)), (ib_wk (by decide : Bd 0 (0) (0)) (by decide) (by decide))⟩) dX12_paste_191
                                · have h171 := ib_nle k169
                                  have b172 : Bd x155_6 (0) (2147483646) := ⟨(Bx155_6).1, ((rf_lt Bx155_6 b117 h171).1).2⟩
                                  have b173 : Bd a5 (1) (2147483647) := ⟨((rf_lt Bx155_6 b117 h171).2).1, (b117).2⟩
                                  refine lv_aload_n hx hb dX12_paste_162 rfl (lv_at hl 1 rfl) ?_
                                  have c174 : S_155 0 = .inr (12, [.int 0, .ref (ad 1), .ref (ad 2), .ref (ad 3), .ref (ad 4), .ref (ad 5), .int v32, .int v34, .int v36, .int v38, .int v39, .long w40, .int v41, .int v43, .int v44, .int v45, .ref (ad 6), .ref (ad 7), .ref (ad 8), .ref (ad 9), .ref (ad 10), .ref (ad 11), .ref (ad 12), .ref (ad 13), .ref (ad 14), .ref (ad 15), .int v46, .int v48, .ref (ad 16), .int v50, .int v52, .int v54, .int v56, .int v57, .ref (ad 17), .ref (ad 18), .int v58, .ref (ad 19)]) := ((hf155 0 (by decide)).trans ((hf118 0 (by decide)).trans c61))
                                  refine xget E hQ 0 (by decide) c174 rfl 3 (by decide) q1471 rfl dX12_paste_163 ?_
                                  refine lv_bipush (v := 60) hx hb dX12_paste_166 (by decide) ?_
                                  refine lv_iload_n hx hb dX12_paste_168 rfl (lv_at hl 4 rfl) ?_
                                  refine lv_imul hx hb dX12_paste_169 ?_
                                  refine lv_topi (fun z175 e176 => ?_)
                                  have t177 := ib_cmul (q := 60) e176 (by decide) (by decide) b75 (by decide) (by decide)
                                  have b178 : Bd z175 (0) (180) := ib_mulb t177 (by decide) b75
                                  refine lv_iload hx hb dX12_paste_170 (lv_at hl 5 rfl) ?_
                                  refine lv_iadd hx hb dX12_paste_172 ?_
                                  refine lv_topi (fun z179 e180 => ?_)
                                  have t181 : z179.toInt = z175.toInt + a4.toInt := ib_addx e180 rfl rfl (by omega) (by omega)
                                  have b182 : Bd z179 (0) (239) := ⟨by omega, by omega⟩
                                  have b183 : Bd a4 (0) (59) := ⟨(b112).1, by omega⟩
                                  refine lv_iload hx hb dX12_paste_173 (lv_at hl 0 rfl) ?_
                                  refine lv_iadd hx hb dX12_paste_175 ?_
                                  refine lv_topi (fun z184 e185 => ?_)
                                  have t186 : z184.toInt = z179.toInt + x155_6.toInt := ib_addx e185 rfl rfl (by omega) (by omega)
                                  have b187 : Bd z184 (0) (239) := ⟨by omega, by omega⟩
                                  have b188 : Bd x155_6 (0) (59) := ⟨(b172).1, by omega⟩
                                  refine lv_aload_n hx hb dX12_paste_176 rfl (lv_at hl 1 rfl) ?_
                                  refine xget E hQ 0 (by decide) c174 rfl 4 (by decide) q1472 rfl dX12_paste_177 ?_
                                  refine lv_iload hx hb dX12_paste_180 (lv_at hl 0 rfl) ?_
                                  obtain ⟨f189, c190⟩ := invM_4 hI
                                  refine xlald E hQ 4 (by decide) c190 (ib_in b188 (by decide) (by decide)) dX12_paste_182 ?_
                                  refine lv_topl (fun w192 e193 => ?_)
                                  obtain ⟨f194, c195⟩ := invM_3 hI
                                  refine xlast E hs hQ 3 (by decide) c195 (ib_in b187 (by decide) (by decide)) dX12_paste_183 (fun H locs S197 eS197 hQ => ?_)
                                  have hI := invM_up_3 hI eS197 ⟨_, rfl⟩
                                  have c198 : S197 3 = .inl (g.2 2, 240, .inr (.inl (vp_updL f194 (z184 : Int32).toNatClampNeg w192))) := up_at eS197 rfl
                                  obtain ⟨z199, e200⟩ : ∃ z : Int32, z = x155_6 + 1 := ⟨_, rfl⟩
                                  have t201 := ib_add e200 b188 (by decide : Bd 1 (1) (1)) (by decide) (by decide)
                                  have b202 : Bd z199 (1) (60) := ib_addb t201 b188 (by decide : Bd 1 (1) (1))
                                  have t201 : z199.toInt = x155_6.toInt + 1 := fold_add t201 rfl (by decide)
                                  refine lv_iinc (v := z199) (lv' := [(6, .int z199), (0, .ref (ad 0)), (1, .int a1), (2, .int a2), (3, .int a3), (4, .int a4), (5, .int a5)]) hx hb dX12_paste_184 hl (k := 0) rfl (by rw [e200]; rfl) (by decide) rfl (fun ls hl => ?_)
                                  refine lv_goto (tgt := 155) hx hb dX12_paste_187 (by decide) ?_
                                  exact ih155 _ _ _ _ z199 (ib_wk b202 (by decide) (by decide)) (by omega) hI (up_o hf155 eS197 (by decide)) hQ (lv_sub hl [0, 1, 2, 3, 4, 5, 6] rfl)
                            obtain ⟨n155, hn155⟩ := fu_n (2147483647)
                            exact loop155 n155 _ _ _ _ 0 (ib_wk (by decide : Bd 0 (0) (0)) (by decide) (by decide)) (by have : (0 : Int32).toInt = 0 := (by decide); omega) hI o_refl hQ (lv_sub hl [0, 1, 2, 3, 4, 5, 6] rfl)
                          · have h203 := ib_nle k167
                            have b204 : Bd x118_6 (0) (2147483646) := ⟨(Bx118_6).1, ((rf_lt Bx118_6 b117 h203).1).2⟩
                            have b205 : Bd a5 (1) (2147483647) := ⟨((rf_lt Bx118_6 b117 h203).2).1, (b117).2⟩
                            refine lv_aload_n hx hb dX12_paste_125 rfl (lv_at hl 1 rfl) ?_
                            have c206 : S_118 0 = .inr (12, [.int 0, .ref (ad 1), .ref (ad 2), .ref (ad 3), .ref (ad 4), .ref (ad 5), .int v32, .int v34, .int v36, .int v38, .int v39, .long w40, .int v41, .int v43, .int v44, .int v45, .ref (ad 6), .ref (ad 7), .ref (ad 8), .ref (ad 9), .ref (ad 10), .ref (ad 11), .ref (ad 12), .ref (ad 13), .ref (ad 14), .ref (ad 15), .int v46, .int v48, .ref (ad 16), .int v50, .int v52, .int v54, .int v56, .int v57, .ref (ad 17), .ref (ad 18), .int v58, .ref (ad 19)]) := ((hf118 0 (by decide)).trans c61)
                            refine xget E hQ 0 (by decide) c206 rfl 4 (by decide) q1472 rfl dX12_paste_126 ?_
                            refine lv_iload hx hb dX12_paste_129 (lv_at hl 0 rfl) ?_
                            refine lv_aload_n hx hb dX12_paste_131 rfl (lv_at hl 1 rfl) ?_
                            refine xget E hQ 0 (by decide) c206 rfl 3 (by decide) q1471 rfl dX12_paste_132 ?_
                            refine lv_bipush (v := 60) hx hb dX12_paste_135 (by decide) ?_
                            refine lv_iload_n hx hb dX12_paste_137 rfl (lv_at hl 2 rfl) ?_
                            refine lv_imul hx hb dX12_paste_138 ?_
                            refine lv_topi (fun z207 e208 => ?_)
                            have t209 := ib_cmul (q := 60) e208 (by decide) (by decide) b69 (by decide) (by decide)
                            have b210 : Bd z207 (0) (180) := ib_mulb t209 (by decide) b69
                            refine lv_iload_n hx hb dX12_paste_139 rfl (lv_at hl 3 rfl) ?_
                            refine lv_iadd hx hb dX12_paste_140 ?_
                            refine lv_topi (fun z211 e212 => ?_)
                            have t213 : z211.toInt = z207.toInt + a2.toInt := ib_addx e212 rfl rfl (by omega) (by omega)
                            have b214 : Bd z211 (0) (239) := ⟨by omega, by omega⟩
                            have b215 : Bd a2 (0) (59) := ⟨(b107).1, by omega⟩
                            refine lv_iload hx hb dX12_paste_141 (lv_at hl 0 rfl) ?_
                            refine lv_iadd hx hb dX12_paste_143 ?_
                            refine lv_topi (fun z216 e217 => ?_)
                            have t218 : z216.toInt = z211.toInt + x118_6.toInt := ib_addx e217 rfl rfl (by omega) (by omega)
                            have b219 : Bd z216 (0) (239) := ⟨by omega, by omega⟩
                            have b220 : Bd x118_6 (0) (59) := ⟨(b204).1, by omega⟩
                            obtain ⟨f221, c222⟩ := invM_3 hI
                            refine xlald E hQ 3 (by decide) c222 (ib_in b219 (by decide) (by decide)) dX12_paste_144 ?_
                            refine lv_topl (fun w224 e225 => ?_)
                            obtain ⟨f226, c227⟩ := invM_4 hI
                            refine xlast E hs hQ 4 (by decide) c227 (ib_in b220 (by decide) (by decide)) dX12_paste_145 (fun H locs S229 eS229 hQ => ?_)
                            have hI := invM_up_4 hI eS229 ⟨_, rfl⟩
                            have c230 : S229 4 = .inl (g.2 2, 60, .inr (.inl (vp_updL f226 (x118_6 : Int32).toNatClampNeg w224))) := up_at eS229 rfl
                            obtain ⟨z231, e232⟩ : ∃ z : Int32, z = x118_6 + 1 := ⟨_, rfl⟩
                            have t233 := ib_add e232 b220 (by decide : Bd 1 (1) (1)) (by decide) (by decide)
                            have b234 : Bd z231 (1) (60) := ib_addb t233 b220 (by decide : Bd 1 (1) (1))
                            have t233 : z231.toInt = x118_6.toInt + 1 := fold_add t233 rfl (by decide)
                            refine lv_iinc (v := z231) (lv' := [(6, .int z231), (0, .ref (ad 0)), (1, .int a1), (2, .int a2), (3, .int a3), (4, .int a4), (5, .int a5)]) hx hb dX12_paste_146 hl (k := 0) rfl (by rw [e232]; rfl) (by decide) rfl (fun ls hl => ?_)
                            refine lv_goto (tgt := 118) hx hb dX12_paste_149 (by decide) ?_
                            exact ih118 _ _ _ _ z231 (ib_wk b234 (by decide) (by decide)) (by omega) hI (up_o hf118 eS229 (by decide)) hQ (lv_sub hl [0, 1, 2, 3, 4, 5, 6] rfl)
                      obtain ⟨n118, hn118⟩ := fu_n (2147483647)
                      exact loop118 n118 _ _ _ _ 0 (ib_wk (by decide : Bd 0 (0) (0)) (by decide) (by decide)) (by have : (0 : Int32).toInt = 0 := (by decide); omega) hI o_refl hQ (lv_sub hl [0, 1, 2, 3, 4, 5, 6] rfl)
                    · have h235 := lc_nle k164
                      have b236 : BdL w153 (1) (4294967294) := ⟨((rf_ltL b163 b156 h235).2).1, (b156).2⟩
                      refine lv_bipush (v := (-7)) hx hb dX12_paste_112 (by decide) ?_
                      exact xri E hr hlk hQ (⟨hI, (up_o o_refl eS60 (by decide)), (ib_wk (by decide : Bd (-7) (-7) (-7)) (by decide) (by decide))⟩) dX12_paste_114
          · have h237 := ib_ne k101
            refine lv_bipush (v := (-8)) hx hb dX12_paste_60 (by decide) ?_
            exact xri E hr hlk hQ (⟨hI, (up_o o_refl eS60 (by decide)), (ib_wk (by decide : Bd (-8) (-8) (-8)) (by decide) (by decide))⟩) dX12_paste_62
        · have h238 := ib_eq k90
          have b239 : Bd z87 (-1) (-1) := ⟨(b89).1, ((rf_eq b89 (by decide : Bd (-1) (-1) (-1)) h238).1).2⟩
          refine lv_bipush (v := (-6)) hx hb dX12_paste_42 (by decide) ?_
          exact xri E hr hlk hQ (⟨hI, (up_o o_refl eS60 (by decide)), (ib_wk (by decide : Bd (-6) (-6) (-6)) (by decide) (by decide))⟩) dX12_paste_44
    · have h240 := ib_eq k71
      have b241 : Bd r70 (0) (0) := ⟨(b70).1, ((rf_eq b70 (by decide : Bd 0 (0) (0)) h240).1).2⟩
      clear g70_0
      refine lv_bipush (v := (-2)) hx hb dX12_paste_19 (by decide) ?_
      exact xri E hr hlk hQ (⟨hI, (up_o o_refl eS60 (by decide)), (ib_wk (by decide : Bd (-2) (-2) (-2)) (by decide) (by decide))⟩) dX12_paste_21
