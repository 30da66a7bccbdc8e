set_option maxHeartbeats 4000000 in
set_option maxRecDepth 100000 in
theorem gX12_row_0 (l : Launch) (g : GG) (ad : Nat → Nat) (hD : Dj ad 20) (S : SS) (hI : InvM g ad S) (a1 : Int32) (a2 : Int32) (a3 : Int32) (hq1 : 0 ≤ 12 * elm (S 7) 1 + (-1) * elm (S 7) 0) (hq2 : 0 ≤ 12 * elm (S 7) 3 + (-1) * elm (S 7) 0) (hq3 : 0 ≤ 8 * elm (S 7) 0 + (-1) * elm (S 7) 6) (hq4 : 0 ≤ 3 * elm (S 7) 0 + (-1) * elm (S 7) 8) (hq5 : 0 ≤ 40000 * elm (S 7) 0 + (-1) * elm (S 6) 0) : Met l yX12_row (wG (.code yX12_row cX12_row 5 (some .int))) (Rm 2) (XPre g ad 20 S [.ref (ad 0), .int a1, .int a2, .int a3]) (va_Qi (fun r S' => InvM g ad S' ∧ (∀ j, j ∉ ([0, 1, 2, 3] : List Nat) → S' j = S j) ∧ Bd r (-3) (0) ∧ (r = ansRow a1 a2 a3) ∧ (PUp (S' 1) (S 1) (if r.toInt = 0 then a1.toInt else -1) a2.toInt 4) ∧ (PUp (S' 2) (S 2) (if r.toInt = 0 then a1.toInt else -1) a3.toInt 4)) (QB g ad 20) (FA ad 20)) 0 0 (FA ad 20) := by
  refine xmet cX12_row "EbbWreckModel" (by decide) rfl (Nat.le_of_ble_eq_true rfl) (fun p e s m below meth c E hr hlk hml hQ ls hl => ?_)
  have hx := E.1
  have hb := E.2.1
  have hs : Sp ad 20 (FA ad 20) := Sp.fa hD
  have hl : lv_has ls 5 [(0, .ref (ad 0)), (1, .int a1), (2, .int a2), (3, .int a3)] := hl
  obtain ⟨f1, c2, b3⟩ := invM_7 hI
  obtain ⟨v4, ee5⟩ : ∃ z : Int32, f1 1 = z := ⟨_, rfl⟩
  have b6 : Bd v4 (0) (12) := (by rw [← ee5]; exact b3.2.1 1 (by decide))
  obtain ⟨v7, ee8⟩ : ∃ z : Int32, f1 0 = z := ⟨_, rfl⟩
  have b9 : Bd v7 (0) (12) := (by rw [← ee8]; exact b3.1 0 (by decide))
  obtain ⟨v10, ee11⟩ : ∃ z : Int32, f1 3 = z := ⟨_, rfl⟩
  have b12 : Bd v10 (0) (12) := (by rw [← ee11]; exact b3.2.2.2.1 3 (by decide))
  obtain ⟨v13, ee14⟩ : ∃ z : Int32, f1 6 = z := ⟨_, rfl⟩
  have b15 : Bd v13 (0) (8) := (by rw [← ee14]; exact b3.2.2.2.2.1 6 (by decide))
  obtain ⟨v16, ee17⟩ : ∃ z : Int32, f1 8 = z := ⟨_, rfl⟩
  have b18 : Bd v16 (0) (3) := (by rw [← ee17]; exact b3.2.2.2.2.2.2.1 8 (by decide))
  obtain ⟨f19, c20, b21⟩ := invM_6 hI
  obtain ⟨v22, ee23⟩ : ∃ z : Int32, f19 0 = z := ⟨_, rfl⟩
  have b24 : Bd v22 (0) (40000) := (by rw [← ee23]; exact b21 0)
  have q25 : elm (S 7) 1 = v4.toInt := (elm_of c2 1).trans (congrArg Int32.toInt (ee5))
  have q26 : elm (S 7) 0 = v7.toInt := (elm_of c2 0).trans (congrArg Int32.toInt (ee8))
  have q27 : elm (S 7) 3 = v10.toInt := (elm_of c2 3).trans (congrArg Int32.toInt (ee11))
  have q28 : elm (S 7) 6 = v13.toInt := (elm_of c2 6).trans (congrArg Int32.toInt (ee14))
  have q29 : elm (S 7) 8 = v16.toInt := (elm_of c2 8).trans (congrArg Int32.toInt (ee17))
  have q30 : elm (S 6) 0 = v22.toInt := (elm_of c20 0).trans (congrArg Int32.toInt (ee23))
  obtain ⟨f31, c32, b33⟩ := invM_1 hI
  obtain ⟨f34, c35, b36⟩ := invM_2 hI
  refine lv_aload_n hx hb dX12_row_0 rfl (lv_at hl 0 rfl) ?_
  refine lv_iconst (v := 0) hx hb dX12_row_1 (by decide) ?_
  obtain ⟨v37, v38, v40, v42, v44, v45, w46, v47, v49, v50, v51, v52, v54, v56, v58, v60, v62, v63, v64, c65, b39, b41, b43, b48, b53, b55, b57, b59, b61⟩ := invM_0 hI
  have c65 : S 0 = .inr (12, [.int v37, .ref (ad 1), .ref (ad 2), .ref (ad 3), .ref (ad 4), .ref (ad 5), .int v38, .int v40, .int v42, .int v44, .int v45, .long w46, .int v47, .int v49, .int v50, .int v51, .ref (ad 6), .ref (ad 7), .ref (ad 8), .ref (ad 9), .ref (ad 10), .ref (ad 11), .ref (ad 12), .ref (ad 13), .ref (ad 14), .ref (ad 15), .int v52, .int v54, .ref (ad 16), .int v56, .int v58, .int v60, .int v62, .int v63, .ref (ad 17), .ref (ad 18), .int v64, .ref (ad 19)]) := c65
  refine xputi E hs hQ 0 (by decide) c65 rfl 0 (by decide) q1468 rfl rfl (Nat.le_of_ble_eq_true rfl) dX12_row_2 (fun H locs S66 eS66 hQ => ?_)
  have hI := invM_up_0 hI eS66 ⟨0, v38, v40, v42, v44, v45, w46, v47, v49, v50, v51, v52, v54, v56, v58, v60, v62, v63, v64, rfl, b39, b41, b43, b48, b53, b55, b57, b59, b61⟩
  have c67 : S66 0 = .inr (12, [.int 0, .ref (ad 1), .ref (ad 2), .ref (ad 3), .ref (ad 4), .ref (ad 5), .int v38, .int v40, .int v42, .int v44, .int v45, .long w46, .int v47, .int v49, .int v50, .int v51, .ref (ad 6), .ref (ad 7), .ref (ad 8), .ref (ad 9), .ref (ad 10), .ref (ad 11), .ref (ad 12), .ref (ad 13), .ref (ad 14), .ref (ad 15), .int v52, .int v54, .ref (ad 16), .int v56, .int v58, .int v60, .int v62, .int v63, .ref (ad 17), .ref (ad 18), .int v64, .ref (ad 19)]) := up_at eS66 rfl
  refine lv_iload_n hx hb dX12_row_5 rfl (lv_at hl 1 rfl) ?_
  refine xcSi E hs hQ hml hl.1 (gX12_isSlot l g ad hD S66 hI a1) mX12_isSlot q1587 rfl ⟨(Nat.le_of_ble_eq_true rfl), (Nat.le_of_ble_eq_true rfl)⟩ ⟨(Nat.le_of_ble_eq_true rfl), (Nat.le_of_ble_eq_true rfl)⟩ (Nat.le_of_ble_eq_true rfl) rfl dX12_row_6 (fun r68 S68 H locs hp68 hQ => ?_)
  obtain ⟨rfl, b68, g68_0, u68_0⟩ := hp68
  refine lv_if_eq (tgt := 30) hx hb dX12_row_9 (by decide) (fun k69 => ?_) (fun k69 => ?_)
  · have h70 := ib_eq k69
    have b71 : Bd r68 (0) (0) := ⟨(b68).1, ((rf_eq b68 (by decide : Bd 0 (0) (0)) h70).1).2⟩
    clear g68_0
    refine lv_bipush (v := (-2)) hx hb dX12_row_30 (by decide) ?_
    exact xri E hr hlk hQ (⟨hI, (up_o o_refl eS66 (by decide)), (ib_wk (by decide : Bd (-2) (-2) (-2)) (by decide) (by decide)), (by have h1 := u68_0; unfold InP at h1; unfold ansRow; rw [if_pos (by omega)]), (by rw [if_neg (by decide)]; exact pu_no (up_eq (j := 1) eS66 (by decide)) (by decide)), (by rw [if_neg (by decide)]; exact pu_no (up_eq (j := 2) eS66 (by decide)) (by decide))⟩) dX12_row_32
  · have h72 := ib_ne k69
    have b73 : Bd r68 (1) (1) := rf_nlo b68 (by decide : Bd 0 (0) (0)) h72
    have g74 := g68_0.resolve_left (by omega)
    clear g68_0
    have b75 : Bd a1 (0) (3) := ⟨by omega, by omega⟩
    refine lv_iload_n hx hb dX12_row_12 rfl (lv_at hl 2 rfl) ?_
    refine lv_i2l hx hb dX12_row_13 rfl ?_
    refine lv_topl (fun w76 e77 => ?_)
    have t78 : w76.toInt = a2.toInt := by rw [e77]; exact i2l_i _
    have b79 : BdL w76 (-2147483648) (2147483647) := (by have h1 := ((ib_full a2)).1; have h2 := ((ib_full a2)).2; exact ⟨by omega, by omega⟩)
    refine lv_lconst (v := 0) hx hb dX12_row_14 (by decide) ?_
    refine lv_ldc2 (v := 3) hx hb E.2.2.1 (E.2.2.2.1 _ q1590) dX12_row_15 ?_
    have q80 : (0 : Int64).toInt = 0 := by decide
    have q81 : (3 : Int64).toInt = 3 := by decide
    refine xcSi E hs hQ hml hl.1 (gX12_in l g ad hD S66 hI w76 0 3) mX12_in q1591 rfl ⟨(Nat.le_of_ble_eq_true rfl), (Nat.le_of_ble_eq_true rfl)⟩ ⟨(Nat.le_of_ble_eq_true rfl), (Nat.le_of_ble_eq_true rfl)⟩ (Nat.le_of_ble_eq_true rfl) rfl dX12_row_18 (fun r82 S82 H locs hp82 hQ => ?_)
    obtain ⟨rfl, b82, g82_0, u82_0⟩ := hp82
    refine lv_if_eq (tgt := 30) hx hb dX12_row_21 (by decide) (fun k83 => ?_) (fun k83 => ?_)
    · have h84 := ib_eq k83
      have b85 : Bd r82 (0) (0) := ⟨(b82).1, ((rf_eq b82 (by decide : Bd 0 (0) (0)) h84).1).2⟩
      clear g82_0
      refine lv_bipush (v := (-2)) hx hb dX12_row_30 (by decide) ?_
      exact xri E hr hlk hQ (⟨hI, (up_o o_refl eS66 (by decide)), (ib_wk (by decide : Bd (-2) (-2) (-2)) (by decide) (by decide)), (by have h1 := u68_0; unfold InP at h1; have h2 := u82_0; unfold InP at h2; unfold ansRow; rw [if_pos (by omega)]), (by rw [if_neg (by decide)]; exact pu_no (up_eq (j := 1) eS66 (by decide)) (by decide)), (by rw [if_neg (by decide)]; exact pu_no (up_eq (j := 2) eS66 (by decide)) (by decide))⟩) dX12_row_32
    · have h86 := ib_ne k83
      have b87 : Bd r82 (1) (1) := rf_nlo b82 (by decide : Bd 0 (0) (0)) h86
      have g88 := g82_0.resolve_left (by omega)
      clear g82_0
      have b89 : BdL w76 (0) (3) := ⟨by omega, by omega⟩
      have b90 : Bd a2 (0) (3) := ⟨by omega, by omega⟩
      refine lv_iload_n hx hb dX12_row_24 rfl (lv_at hl 3 rfl) ?_
      refine lv_bipush (v := 60) hx hb dX12_row_25 (by decide) ?_
      refine lv_icmp_le (tgt := 33) hx hb dX12_row_27 (by decide) (fun k91 => ?_) (fun k91 => ?_)
      · have h92 := ib_le k91
        have b93 : Bd a3 (-2147483648) (60) := ⟨((ib_full a3)).1, ((rf_le (ib_full a3) (by decide : Bd 60 (60) (60)) h92).1).2⟩
        refine lv_iload_n hx hb dX12_row_33 rfl (lv_at hl 3 rfl) ?_
        refine lv_if_ge (tgt := 40) hx hb dX12_row_34 (by decide) (fun k94 => ?_) (fun k94 => ?_)
        · have h95 := ib_le k94
          have b96 : Bd a3 (0) (60) := ⟨((rf_le (by decide : Bd 0 (0) (0)) b93 h95).2).1, (b93).2⟩
          refine lv_aload_n hx hb dX12_row_40 rfl (lv_at hl 0 rfl) ?_
          refine xget E hQ 0 (by decide) c67 rfl 1 (by decide) q1469 rfl dX12_row_41 ?_
          refine lv_iload_n hx hb dX12_row_44 rfl (lv_at hl 1 rfl) ?_
          refine lv_iload_n hx hb dX12_row_45 rfl (lv_at hl 2 rfl) ?_
          have c97 : S66 1 = .inl (g.2 0, 4, .inl f31) := (up_ne eS66 (by decide) c32)
          refine xiast E hs hQ 1 (by decide) c97 (ib_in b75 (by decide) (by decide)) dX12_row_46 (fun H locs S98 eS98 hQ => ?_)
          have hI := invM_up_1 hI eS98 ⟨_, rfl, upd_b b33 (ib_wk b90 (by decide) (by decide))⟩
          have b100 : ∀ j, Bd ((upd f31 (a1 : Int32).toNatClampNeg a2) j) (-1) (3) := upd_b b33 (ib_wk b90 (by decide) (by decide))
          have c99 : S98 1 = .inl (g.2 0, 4, .inl (upd f31 (a1 : Int32).toNatClampNeg a2)) := up_at eS98 rfl
          refine lv_aload_n hx hb dX12_row_47 rfl (lv_at hl 0 rfl) ?_
          have c101 : S98 0 = .inr (12, [.int 0, .ref (ad 1), .ref (ad 2), .ref (ad 3), .ref (ad 4), .ref (ad 5), .int v38, .int v40, .int v42, .int v44, .int v45, .long w46, .int v47, .int v49, .int v50, .int v51, .ref (ad 6), .ref (ad 7), .ref (ad 8), .ref (ad 9), .ref (ad 10), .ref (ad 11), .ref (ad 12), .ref (ad 13), .ref (ad 14), .ref (ad 15), .int v52, .int v54, .ref (ad 16), .int v56, .int v58, .int v60, .int v62, .int v63, .ref (ad 17), .ref (ad 18), .int v64, .ref (ad 19)]) := (up_ne eS98 (by decide) c67)
          refine xget E hQ 0 (by decide) c101 rfl 2 (by decide) q1470 rfl dX12_row_48 ?_
          refine lv_iload_n hx hb dX12_row_51 rfl (lv_at hl 1 rfl) ?_
          refine lv_iload_n hx hb dX12_row_52 rfl (lv_at hl 3 rfl) ?_
          have c102 : S98 2 = .inl (g.2 0, 4, .inl f34) := (up_ne eS98 (by decide) (up_ne eS66 (by decide) c35))
          refine xiast E hs hQ 2 (by decide) c102 (ib_in b75 (by decide) (by decide)) dX12_row_53 (fun H locs S103 eS103 hQ => ?_)
          have hI := invM_up_2 hI eS103 ⟨_, rfl, upd_b b36 b96⟩
          have b105 : ∀ j, Bd ((upd f34 (a1 : Int32).toNatClampNeg a3) j) (0) (60) := upd_b b36 b96
          have c104 : S103 2 = .inl (g.2 0, 4, .inl (upd f34 (a1 : Int32).toNatClampNeg a3)) := up_at eS103 rfl
          refine lv_iconst (v := 0) hx hb dX12_row_54 (by decide) ?_
          refine lv_istore (lv' := [(4, .int 0), (0, .ref (ad 0)), (1, .int a1), (2, .int a2), (3, .int a3)]) hx hb dX12_row_55 hl (by decide) rfl (fun ls hl => ?_)
          have loop57 : ∀ (n : Nat) (S_57 : SS) (H : Heap) (locs : List Loc) (ls : Array Slot) (x57_4 : Int32), Bd x57_4 (0) (60) → (-1) * x57_4.toInt + 60 < ((n : Nat) : Int) → InvM g ad S_57 → (∀ j, j ∉ ([3] : List Nat) → S_57 j = S103 j) → Hp g ad 20 S_57 (FA ad 20) s.heap H locs → lv_has ls 5 [(4, .int x57_4), (0, .ref (ad 0)), (1, .int a1), (2, .int a2), (3, .int a3)] → W p l e (Rm 2) s m [.ref (ad 0), .int a1, .int a2, .int a3].toArray below meth c H locs 0 0 (MQ below (va_Qi (fun r S' => InvM g ad S' ∧ (∀ j, j ∉ ([0, 1, 2, 3] : List Nat) → S' j = S j) ∧ Bd r (-3) (0) ∧ (r = ansRow a1 a2 a3) ∧ (PUp (S' 1) (S 1) (if r.toInt = 0 then a1.toInt else -1) a2.toInt 4) ∧ (PUp (S' 2) (S 2) (if r.toInt = 0 then a1.toInt else -1) a3.toInt 4)) (QB g ad 20) (FA ad 20)) [.ref (ad 0), .int a1, .int a2, .int a3].toArray s 0 0 (FA ad 20)) (F0 m 57 ls []) := by
            intro n
            induction n with
            | zero => intro S_57 H locs ls x57_4 Bx57_4 hn57_ hI hf57 hQ hl; exfalso; have := (Bx57_4).2; omega
            | succ n57_ ih57 =>
              intro S_57 H locs ls x57_4 Bx57_4 hn57_ hI hf57 hQ hl
              refine lv_iload hx hb dX12_row_57 (lv_at hl 0 rfl) ?_
              refine lv_iload_n hx hb dX12_row_59 rfl (lv_at hl 4 rfl) ?_
              refine lv_icmp_ge (tgt := 82) hx hb dX12_row_60 (by decide) (fun k106 => ?_) (fun k106 => ?_)
              · have h107 := ib_le k106
                refine lv_iconst (v := 0) hx hb dX12_row_82 (by decide) ?_
                exact xri E hr hlk hQ (⟨hI, (o_trans (up_o (up_o (up_o o_refl eS66 (by decide)) eS98 (by decide)) eS103 (by decide)) hf57 (by decide)), (ib_wk (by decide : Bd 0 (0) (0)) (by decide) (by decide)), (by have h1 := u68_0; unfold InP at h1; have h2 := u82_0; unfold InP at h2; unfold ansRow; rw [if_neg (by omega), if_neg (by omega)]), (by rw [if_pos (by decide)]; exact pu_tr (pu_st c32 c99 (by omega) rfl) ((hf57 1 (by decide)).trans (up_eq (j := 1) eS103 (by decide))) rfl), (by rw [if_pos (by decide)]; exact pu_tr (pu_st c35 c104 (by omega) rfl) (hf57 2 (by decide)) rfl)⟩) dX12_row_83
              · have h108 := ib_nle k106
                have b109 : Bd x57_4 (0) (59) := ⟨(Bx57_4).1, ((rf_lt Bx57_4 b96 h108).1).2⟩
                have b110 : Bd a3 (1) (60) := ⟨((rf_lt Bx57_4 b96 h108).2).1, (b96).2⟩
                refine lv_aload_n hx hb dX12_row_63 rfl (lv_at hl 1 rfl) ?_
                have c111 : S_57 0 = .inr (12, [.int 0, .ref (ad 1), .ref (ad 2), .ref (ad 3), .ref (ad 4), .ref (ad 5), .int v38, .int v40, .int v42, .int v44, .int v45, .long w46, .int v47, .int v49, .int v50, .int v51, .ref (ad 6), .ref (ad 7), .ref (ad 8), .ref (ad 9), .ref (ad 10), .ref (ad 11), .ref (ad 12), .ref (ad 13), .ref (ad 14), .ref (ad 15), .int v52, .int v54, .ref (ad 16), .int v56, .int v58, .int v60, .int v62, .int v63, .ref (ad 17), .ref (ad 18), .int v64, .ref (ad 19)]) := ((hf57 0 (by decide)).trans (up_ne eS103 (by decide) c101))
                refine xget E hQ 0 (by decide) c111 rfl 3 (by decide) q1471 rfl dX12_row_64 ?_
                refine lv_bipush (v := 60) hx hb dX12_row_67 (by decide) ?_
                refine lv_iload_n hx hb dX12_row_69 rfl (lv_at hl 2 rfl) ?_
                refine lv_imul hx hb dX12_row_70 ?_
                refine lv_topi (fun z112 e113 => ?_)
                have t114 := ib_cmul (q := 60) e113 (by decide) (by decide) b75 (by decide) (by decide)
                have b115 : Bd z112 (0) (180) := ib_mulb t114 (by decide) b75
                refine lv_iload hx hb dX12_row_71 (lv_at hl 0 rfl) ?_
                refine lv_iadd hx hb dX12_row_73 ?_
                refine lv_topi (fun z116 e117 => ?_)
                have t118 := ib_add e117 b115 b109 (by decide) (by decide)
                have b119 : Bd z116 (0) (239) := ib_addb t118 b115 b109
                refine lv_lconst (v := 0) hx hb dX12_row_74 (by decide) ?_
                obtain ⟨f120, c121⟩ := invM_3 hI
                refine xlast E hs hQ 3 (by decide) c121 (ib_in b119 (by decide) (by decide)) dX12_row_75 (fun H locs S123 eS123 hQ => ?_)
                have hI := invM_up_3 hI eS123 ⟨_, rfl⟩
                have c124 : S123 3 = .inl (g.2 2, 240, .inr (.inl (vp_updL f120 (z116 : Int32).toNatClampNeg 0))) := up_at eS123 rfl
                obtain ⟨z125, e126⟩ : ∃ z : Int32, z = x57_4 + 1 := ⟨_, rfl⟩
                have t127 := ib_add e126 b109 (by decide : Bd 1 (1) (1)) (by decide) (by decide)
                have b128 : Bd z125 (1) (60) := ib_addb t127 b109 (by decide : Bd 1 (1) (1))
                have t127 : z125.toInt = x57_4.toInt + 1 := fold_add t127 rfl (by decide)
                refine lv_iinc (v := z125) (lv' := [(4, .int z125), (0, .ref (ad 0)), (1, .int a1), (2, .int a2), (3, .int a3)]) hx hb dX12_row_76 hl (k := 0) rfl (by rw [e126]; rfl) (by decide) rfl (fun ls hl => ?_)
                refine lv_goto (tgt := 57) hx hb dX12_row_79 (by decide) ?_
                exact ih57 _ _ _ _ z125 (ib_wk b128 (by decide) (by decide)) (by omega) hI (up_o hf57 eS123 (by decide)) hQ (lv_sub hl [0, 1, 2, 3, 4] rfl)
          obtain ⟨n57, hn57⟩ := fu_n (60)
          exact loop57 n57 _ _ _ _ 0 (ib_wk (by decide : Bd 0 (0) (0)) (by decide) (by decide)) (by have : (0 : Int32).toInt = 0 := (by decide); omega) hI o_refl hQ (lv_sub hl [0, 1, 2, 3, 4] rfl)
        · have h129 := ib_nle k94
          have b130 : Bd a3 (-2147483648) (-1) := ⟨(b93).1, ((rf_lt b93 (by decide : Bd 0 (0) (0)) h129).1).2⟩
          refine lv_bipush (v := (-3)) hx hb dX12_row_37 (by decide) ?_
          exact xri E hr hlk hQ (⟨hI, (up_o o_refl eS66 (by decide)), (ib_wk (by decide : Bd (-3) (-3) (-3)) (by decide) (by decide)), (by have h1 := u68_0; unfold InP at h1; have h2 := u82_0; unfold InP at h2; unfold ansRow; rw [if_neg (by omega), if_pos (by omega)]), (by rw [if_neg (by decide)]; exact pu_no (up_eq (j := 1) eS66 (by decide)) (by decide)), (by rw [if_neg (by decide)]; exact pu_no (up_eq (j := 2) eS66 (by decide)) (by decide))⟩) dX12_row_39
      · have h131 := ib_nle k91
        have b132 : Bd a3 (61) (2147483647) := ⟨((rf_lt (by decide : Bd 60 (60) (60)) (ib_full a3) h131).2).1, ((ib_full a3)).2⟩
        refine lv_bipush (v := (-2)) hx hb dX12_row_30 (by decide) ?_
        exact xri E hr hlk hQ (⟨hI, (up_o o_refl eS66 (by decide)), (ib_wk (by decide : Bd (-2) (-2) (-2)) (by decide) (by decide)), (by have h1 := u68_0; unfold InP at h1; have h2 := u82_0; unfold InP at h2; unfold ansRow; rw [if_pos (by omega)]), (by rw [if_neg (by decide)]; exact pu_no (up_eq (j := 1) eS66 (by decide)) (by decide)), (by rw [if_neg (by decide)]; exact pu_no (up_eq (j := 2) eS66 (by decide)) (by decide))⟩) dX12_row_32
set_option maxHeartbeats 4000000 in
set_option maxRecDepth 100000 in
theorem gX12_write_0 (l : Launch) (g : GG) (ad : Nat → Nat) (hD : Dj ad 20) (S : SS) (hI : InvM g ad S) (a1 : Int32) (a2 : Int32) (wa3 : Int64) (hq1 : 0 ≤ 12 * elm (S 7) 1 + (-1) * elm (S 7) 0) (hq2 : 0 ≤ 12 * elm (S 7) 3 + (-1) * elm (S 7) 0) (hq3 : 0 ≤ 8 * elm (S 7) 0 + (-1) * elm (S 7) 6) (hq4 : 0 ≤ 3 * elm (S 7) 0 + (-1) * elm (S 7) 8) (hq5 : 0 ≤ 40000 * elm (S 7) 0 + (-1) * elm (S 6) 0) : Met l yX12_write (wG (.code yX12_write cX12_write 5 (some .int))) (Rm 2) (XPre g ad 20 S [.ref (ad 0), .int a1, .int a2, .long wa3]) (va_Qi (fun r S' => InvM g ad S' ∧ (∀ j, j ∉ ([0, 3] : List Nat) → S' j = S j) ∧ Bd r (-7) (0) ∧ (r = ansWrM a1 a2 (elm (S 1) a1.toInt.toNat) (elm (S 2) a1.toInt.toNat))) (QB g ad 20) (FA ad 20)) 0 0 (FA ad 20) := by
  refine xmet cX12_write "EbbWreckModel" (by decide) rfl (Nat.le_of_ble_eq_true rfl) (fun p e s m below meth c E hr hlk hml hQ ls hl => ?_)
  have hx := E.1
  have hb := E.2.1
  have hs : Sp ad 20 (FA ad 20) := Sp.fa hD
  have hl : lv_has ls 5 [(0, .ref (ad 0)), (1, .int a1), (2, .int a2), (3, .long wa3)] := hl
  obtain ⟨f1, c2, b3⟩ := invM_7 hI
  obtain ⟨v4, ee5⟩ : ∃ z : Int32, f1 1 = z := ⟨_, rfl⟩
  have b6 : Bd v4 (0) (12) := (by rw [← ee5]; exact b3.2.1 1 (by decide))
  obtain ⟨v7, ee8⟩ : ∃ z : Int32, f1 0 = z := ⟨_, rfl⟩
  have b9 : Bd v7 (0) (12) := (by rw [← ee8]; exact b3.1 0 (by decide))
  obtain ⟨v10, ee11⟩ : ∃ z : Int32, f1 3 = z := ⟨_, rfl⟩
  have b12 : Bd v10 (0) (12) := (by rw [← ee11]; exact b3.2.2.2.1 3 (by decide))
  obtain ⟨v13, ee14⟩ : ∃ z : Int32, f1 6 = z := ⟨_, rfl⟩
  have b15 : Bd v13 (0) (8) := (by rw [← ee14]; exact b3.2.2.2.2.1 6 (by decide))
  obtain ⟨v16, ee17⟩ : ∃ z : Int32, f1 8 = z := ⟨_, rfl⟩
  have b18 : Bd v16 (0) (3) := (by rw [← ee17]; exact b3.2.2.2.2.2.2.1 8 (by decide))
  obtain ⟨f19, c20, b21⟩ := invM_6 hI
  obtain ⟨v22, ee23⟩ : ∃ z : Int32, f19 0 = z := ⟨_, rfl⟩
  have b24 : Bd v22 (0) (40000) := (by rw [← ee23]; exact b21 0)
  have q25 : elm (S 7) 1 = v4.toInt := (elm_of c2 1).trans (congrArg Int32.toInt (ee5))
  have q26 : elm (S 7) 0 = v7.toInt := (elm_of c2 0).trans (congrArg Int32.toInt (ee8))
  have q27 : elm (S 7) 3 = v10.toInt := (elm_of c2 3).trans (congrArg Int32.toInt (ee11))
  have q28 : elm (S 7) 6 = v13.toInt := (elm_of c2 6).trans (congrArg Int32.toInt (ee14))
  have q29 : elm (S 7) 8 = v16.toInt := (elm_of c2 8).trans (congrArg Int32.toInt (ee17))
  have q30 : elm (S 6) 0 = v22.toInt := (elm_of c20 0).trans (congrArg Int32.toInt (ee23))
  refine lv_aload_n hx hb dX12_write_0 rfl (lv_at hl 0 rfl) ?_
  refine lv_iconst (v := 0) hx hb dX12_write_1 (by decide) ?_
  obtain ⟨v31, v32, v34, v36, v38, v39, w40, v41, v43, v44, v45, v46, v48, v50, v52, v54, v56, v57, v58, c59, b33, b35, b37, b42, b47, b49, b51, b53, b55⟩ := invM_0 hI
  have c59 : S 0 = .inr (12, [.int v31, .ref (ad 1), .ref (ad 2), .ref (ad 3), .ref (ad 4), .ref (ad 5), .int v32, .int v34, .int v36, .int v38, .int v39, .long w40, .int v41, .int v43, .int v44, .int v45, .ref (ad 6), .ref (ad 7), .ref (ad 8), .ref (ad 9), .ref (ad 10), .ref (ad 11), .ref (ad 12), .ref (ad 13), .ref (ad 14), .ref (ad 15), .int v46, .int v48, .ref (ad 16), .int v50, .int v52, .int v54, .int v56, .int v57, .ref (ad 17), .ref (ad 18), .int v58, .ref (ad 19)]) := c59
  refine xputi E hs hQ 0 (by decide) c59 rfl 0 (by decide) q1468 rfl rfl (Nat.le_of_ble_eq_true rfl) dX12_write_2 (fun H locs S60 eS60 hQ => ?_)
  have hI := invM_up_0 hI eS60 ⟨0, v32, v34, v36, v38, v39, w40, v41, v43, v44, v45, v46, v48, v50, v52, v54, v56, v57, v58, rfl, b33, b35, b37, b42, b47, b49, b51, b53, b55⟩
  have c61 : S60 0 = .inr (12, [.int 0, .ref (ad 1), .ref (ad 2), .ref (ad 3), .ref (ad 4), .ref (ad 5), .int v32, .int v34, .int v36, .int v38, .int v39, .long w40, .int v41, .int v43, .int v44, .int v45, .ref (ad 6), .ref (ad 7), .ref (ad 8), .ref (ad 9), .ref (ad 10), .ref (ad 11), .ref (ad 12), .ref (ad 13), .ref (ad 14), .ref (ad 15), .int v46, .int v48, .ref (ad 16), .int v50, .int v52, .int v54, .int v56, .int v57, .ref (ad 17), .ref (ad 18), .int v58, .ref (ad 19)]) := up_at eS60 rfl
  refine lv_iload_n hx hb dX12_write_5 rfl (lv_at hl 1 rfl) ?_
  refine xcSi E hs hQ hml hl.1 (gX12_isSlot l g ad hD S60 hI a1) mX12_isSlot q1587 rfl ⟨(Nat.le_of_ble_eq_true rfl), (Nat.le_of_ble_eq_true rfl)⟩ ⟨(Nat.le_of_ble_eq_true rfl), (Nat.le_of_ble_eq_true rfl)⟩ (Nat.le_of_ble_eq_true rfl) rfl dX12_write_6 (fun r62 S62 H locs hp62 hQ => ?_)
  obtain ⟨rfl, b62, g62_0, u62_0⟩ := hp62
  refine lv_if_ne (tgt := 15) hx hb dX12_write_9 (by decide) (fun k63 => ?_) (fun k63 => ?_)
  · have h64 := ib_ne k63
    have b65 : Bd r62 (1) (1) := rf_nlo b62 (by decide : Bd 0 (0) (0)) h64
    have g66 := g62_0.resolve_left (by omega)
    clear g62_0
    have b67 : Bd a1 (0) (3) := ⟨by omega, by omega⟩
    refine lv_aload_n hx hb dX12_write_15 rfl (lv_at hl 0 rfl) ?_
    refine xget E hQ 0 (by decide) c61 rfl 1 (by decide) q1469 rfl dX12_write_16 ?_
    refine lv_iload_n hx hb dX12_write_19 rfl (lv_at hl 1 rfl) ?_
    obtain ⟨f68, c69, b70⟩ := invM_1 hI
    refine xiald E hQ 1 (by decide) c69 (ib_in b67 (by decide) (by decide)) dX12_write_20 ?_
    refine lv_topi (fun z71 e72 => ?_)
    have b73 : Bd z71 (-1) (3) := (by rw [e72]; exact b70 _)
    have el74 : elm (S60 1) a1.toInt.toNat = z71.toInt := elm_ld c69 e72
    refine lv_iconst (v := (-1)) hx hb dX12_write_21 (by decide) ?_
    refine lv_icmp_ne (tgt := 28) hx hb dX12_write_22 (by decide) (fun k75 => ?_) (fun k75 => ?_)
    · have h76 := ib_ne k75
      have b77 : Bd z71 (0) (3) := rf_nlo b73 (by decide : Bd (-1) (-1) (-1)) h76
      refine lv_iload_n hx hb dX12_write_28 rfl (lv_at hl 2 rfl) ?_
      refine lv_i2l hx hb dX12_write_29 rfl ?_
      refine lv_topl (fun w78 e79 => ?_)
      have t80 : w78.toInt = a2.toInt := by rw [e79]; exact i2l_i _
      have b81 : BdL w78 (-2147483648) (2147483647) := (by have h1 := ((ib_full a2)).1; have h2 := ((ib_full a2)).2; exact ⟨by omega, by omega⟩)
      refine lv_lconst (v := 0) hx hb dX12_write_30 (by decide) ?_
      refine lv_aload_n hx hb dX12_write_31 rfl (lv_at hl 0 rfl) ?_
      refine xget E hQ 0 (by decide) c61 rfl 2 (by decide) q1470 rfl dX12_write_32 ?_
      refine lv_iload_n hx hb dX12_write_35 rfl (lv_at hl 1 rfl) ?_
      obtain ⟨f82, c83, b84⟩ := invM_2 hI
      refine xiald E hQ 2 (by decide) c83 (ib_in b67 (by decide) (by decide)) dX12_write_36 ?_
      refine lv_topi (fun z85 e86 => ?_)
      have b87 : Bd z85 (0) (60) := (by rw [e86]; exact b84 _)
      have el88 : elm (S60 2) a1.toInt.toNat = z85.toInt := elm_ld c83 e86
      refine lv_iconst (v := 1) hx hb dX12_write_37 (by decide) ?_
      refine lv_isub hx hb dX12_write_38 ?_
      refine lv_topi (fun z89 e90 => ?_)
      have t91 := ib_sub e90 b87 (by decide : Bd 1 (1) (1)) (by decide) (by decide)
      have b92 : Bd z89 (-1) (59) := ib_subb t91 b87 (by decide : Bd 1 (1) (1))
      have t91 : z89.toInt = z85.toInt - 1 := fold_sub t91 rfl (by decide)
      refine lv_i2l hx hb dX12_write_39 rfl ?_
      refine lv_topl (fun w93 e94 => ?_)
      have t95 : w93.toInt = z89.toInt := by rw [e94]; exact i2l_i _
      have b96 : BdL w93 (-1) (59) := (by have h1 := (b92).1; have h2 := (b92).2; exact ⟨by omega, by omega⟩)
      have q97 : (0 : Int64).toInt = 0 := by decide
      refine xcSi E hs hQ hml hl.1 (gX12_in l g ad hD S60 hI w78 0 w93) mX12_in q1591 rfl ⟨(Nat.le_of_ble_eq_true rfl), (Nat.le_of_ble_eq_true rfl)⟩ ⟨(Nat.le_of_ble_eq_true rfl), (Nat.le_of_ble_eq_true rfl)⟩ (Nat.le_of_ble_eq_true rfl) rfl dX12_write_40 (fun r98 S98 H locs hp98 hQ => ?_)
      obtain ⟨rfl, b98, g98_0, u98_0⟩ := hp98
      refine lv_if_ne (tgt := 49) hx hb dX12_write_43 (by decide) (fun k99 => ?_) (fun k99 => ?_)
      · have h100 := ib_ne k99
        have b101 : Bd r98 (1) (1) := rf_nlo b98 (by decide : Bd 0 (0) (0)) h100
        have g102 := g98_0.resolve_left (by omega)
        clear g98_0
        have b103 : BdL w78 (0) (59) := ⟨by omega, by omega⟩
        have b104 : BdL w93 (0) (59) := ⟨by omega, (b96).2⟩
        have b105 : Bd a2 (0) (59) := ⟨by omega, by omega⟩
        have b106 : Bd z89 (0) (59) := ⟨by omega, (b92).2⟩
        refine lv_aload_n hx hb dX12_write_49 rfl (lv_at hl 0 rfl) ?_
        refine xget E hQ 0 (by decide) c61 rfl 3 (by decide) q1471 rfl dX12_write_50 ?_
        refine lv_bipush (v := 60) hx hb dX12_write_53 (by decide) ?_
        refine lv_iload_n hx hb dX12_write_55 rfl (lv_at hl 1 rfl) ?_
        refine lv_imul hx hb dX12_write_56 ?_
        refine lv_topi (fun z107 e108 => ?_)
        have t109 := ib_cmul (q := 60) e108 (by decide) (by decide) b67 (by decide) (by decide)
        have b110 : Bd z107 (0) (180) := ib_mulb t109 (by decide) b67
        refine lv_iload_n hx hb dX12_write_57 rfl (lv_at hl 2 rfl) ?_
        refine lv_iadd hx hb dX12_write_58 ?_
        refine lv_topi (fun z111 e112 => ?_)
        have t113 := ib_add e112 b110 b105 (by decide) (by decide)
        have b114 : Bd z111 (0) (239) := ib_addb t113 b110 b105
        refine lv_lload_n hx hb dX12_write_59 rfl (lv_at hl 3 rfl) ?_
        refine lv_aload_n hx hb dX12_write_60 rfl (lv_at hl 0 rfl) ?_
        refine xget E hQ 0 (by decide) c61 rfl 1 (by decide) q1469 rfl dX12_write_61 ?_
        refine lv_iload_n hx hb dX12_write_64 rfl (lv_at hl 1 rfl) ?_
        refine xiald E hQ 1 (by decide) c69 (ib_in b67 (by decide) (by decide)) dX12_write_65 ?_
        refine lv_topi (fun z115 e116 => ?_)
        have b117 : Bd z115 (-1) (3) := (by rw [e116]; exact b70 _)
        have el118 : elm (S60 1) a1.toInt.toNat = z115.toInt := elm_ld c69 e116
        refine xcSl E hs hQ hml hl.1 (gX12_cut l g ad hD S60 hI wa3 z115) mX12_cut q1598 rfl ⟨(Nat.le_of_ble_eq_true rfl), (Nat.le_of_ble_eq_true rfl)⟩ ⟨(Nat.le_of_ble_eq_true rfl), (Nat.le_of_ble_eq_true rfl)⟩ (Nat.le_of_ble_eq_true rfl) rfl dX12_write_66 (fun r119 S119 H locs hp119 hQ => ?_)
        subst hp119
        obtain ⟨w119, ew119⟩ : ∃ z : Int64, z = r119 := ⟨_, rfl⟩
        rw [← ew119]
        obtain ⟨f120, c121⟩ := invM_3 hI
        refine xlast E hs hQ 3 (by decide) c121 (ib_in b114 (by decide) (by decide)) dX12_write_69 (fun H locs S123 eS123 hQ => ?_)
        have hI := invM_up_3 hI eS123 ⟨_, rfl⟩
        have c124 : S123 3 = .inl (g.2 2, 240, .inr (.inl (vp_updL f120 (z111 : Int32).toNatClampNeg w119))) := up_at eS123 rfl
        refine lv_iconst (v := 0) hx hb dX12_write_70 (by decide) ?_
        exact xri E hr hlk hQ (⟨hI, (up_o (up_o o_refl eS60 (by decide)) eS123 (by decide)), (ib_wk (by decide : Bd 0 (0) (0)) (by decide) (by decide)), (by have h1 := u62_0; unfold InP at h1; have h2 := u98_0; unfold InP at h2; have e1 := ((congrArg (fun e => elm e a1.toInt.toNat) (up_eq (j := 1) eS60 (by decide))).symm.trans el118); have e2 := ((congrArg (fun e => elm e a1.toInt.toNat) (up_eq (j := 2) eS60 (by decide))).symm.trans el88); unfold ansWrM; rw [if_neg (by omega), if_neg (by omega), if_neg (by omega)])⟩) dX12_write_71
      · have h125 := ib_eq k99
        have b126 : Bd r98 (0) (0) := ⟨(b98).1, ((rf_eq b98 (by decide : Bd 0 (0) (0)) h125).1).2⟩
        clear g98_0
        refine lv_bipush (v := (-7)) hx hb dX12_write_46 (by decide) ?_
        exact xri E hr hlk hQ (⟨hI, (up_o o_refl eS60 (by decide)), (ib_wk (by decide : Bd (-7) (-7) (-7)) (by decide) (by decide)), (by have h1 := u62_0; unfold InP at h1; have h2 := u98_0; unfold InP at h2; have e1 := ((congrArg (fun e => elm e a1.toInt.toNat) (up_eq (j := 1) eS60 (by decide))).symm.trans el74); have e2 := ((congrArg (fun e => elm e a1.toInt.toNat) (up_eq (j := 2) eS60 (by decide))).symm.trans el88); unfold ansWrM; rw [if_neg (by omega), if_neg (by omega), if_pos (by omega)])⟩) dX12_write_48
    · have h127 := ib_eq k75
      have b128 : Bd z71 (-1) (-1) := ⟨(b73).1, ((rf_eq b73 (by decide : Bd (-1) (-1) (-1)) h127).1).2⟩
      refine lv_bipush (v := (-6)) hx hb dX12_write_25 (by decide) ?_
      exact xri E hr hlk hQ (⟨hI, (up_o o_refl eS60 (by decide)), (ib_wk (by decide : Bd (-6) (-6) (-6)) (by decide) (by decide)), (by have h1 := u62_0; unfold InP at h1; have e1 := ((congrArg (fun e => elm e a1.toInt.toNat) (up_eq (j := 1) eS60 (by decide))).symm.trans el74); unfold ansWrM; rw [if_neg (by omega), if_pos (by omega)])⟩) dX12_write_27
  · have h129 := ib_eq k63
    have b130 : Bd r62 (0) (0) := ⟨(b62).1, ((rf_eq b62 (by decide : Bd 0 (0) (0)) h129).1).2⟩
    clear g62_0
    refine lv_bipush (v := (-2)) hx hb dX12_write_12 (by decide) ?_
    exact xri E hr hlk hQ (⟨hI, (up_o o_refl eS60 (by decide)), (ib_wk (by decide : Bd (-2) (-2) (-2)) (by decide) (by decide)), (by have h1 := u62_0; unfold InP at h1; unfold ansWrM; rw [if_pos (by omega)])⟩) dX12_write_14
set_option maxHeartbeats 4000000 in
set_option maxRecDepth 100000 in
theorem gX12_paste_0 (l : Launch) (g : GG) (ad : Nat → Nat) (hD : Dj ad 20) (S : SS) (hI : InvM g ad S) (a1 : Int32) (a2 : Int32) (a3 : Int32) (a4 : Int32) (a5 : Int32) (hq1 : 0 ≤ 12 * elm (S 7) 1 + (-1) * elm (S 7) 0) (hq2 : 0 ≤ 12 * elm (S 7) 3 + (-1) * elm (S 7) 0) (hq3 : 0 ≤ 8 * elm (S 7) 0 + (-1) * elm (S 7) 6) (hq4 : 0 ≤ 3 * elm (S 7) 0 + (-1) * elm (S 7) 8) (hq5 : 0 ≤ 40000 * elm (S 7) 0 + (-1) * elm (S 6) 0) : Met l yX12_paste (wG (.code yX12_paste cX12_paste 7 (some .int))) (Rm 2) (XPre g ad 20 S [.ref (ad 0), .int a1, .int a2, .int a3, .int a4, .int a5]) (va_Qi (fun r S' => InvM g ad S' ∧ (∀ j, j ∉ ([0, 3, 4] : List Nat) → S' j = S j) ∧ Bd r (-8) (0) ∧ (r = ansPaM a1 a2 a3 a4 a5 (elm (S 2) a1.toInt.toNat) (elm (S 2) a3.toInt.toNat) (elm (S 1) a1.toInt.toNat) (elm (S 1) a3.toInt.toNat))) (QB g ad 20) (FA ad 20)) 0 0 (FA ad 20) := by
  refine xmet cX12_paste "EbbWreckModel" (by decide) rfl (Nat.le_of_ble_eq_true rfl) (fun p e s m below meth c E hr hlk hml hQ ls hl => ?_)
  have hx := E.1
  have hb := E.2.1
  have hs : Sp ad 20 (FA ad 20) := Sp.fa hD
  have hl : lv_has ls 7 [(0, .ref (ad 0)), (1, .int a1), (2, .int a2), (3, .int a3), (4, .int a4), (5, .int a5)] := hl
  obtain ⟨f1, c2, b3⟩ := invM_7 hI
  obtain ⟨v4, ee5⟩ : ∃ z : Int32, f1 1 = z := ⟨_, rfl⟩
  have b6 : Bd v4 (0) (12) := (by rw [← ee5]; exact b3.2.1 1 (by decide))
  obtain ⟨v7, ee8⟩ : ∃ z : Int32, f1 0 = z := ⟨_, rfl⟩
  have b9 : Bd v7 (0) (12) := (by rw [← ee8]; exact b3.1 0 (by decide))
  obtain ⟨v10, ee11⟩ : ∃ z : Int32, f1 3 = z := ⟨_, rfl⟩
  have b12 : Bd v10 (0) (12) := (by rw [← ee11]; exact b3.2.2.2.1 3 (by decide))
  obtain ⟨v13, ee14⟩ : ∃ z : Int32, f1 6 = z := ⟨_, rfl⟩
  have b15 : Bd v13 (0) (8) := (by rw [← ee14]; exact b3.2.2.2.2.1 6 (by decide))
  obtain ⟨v16, ee17⟩ : ∃ z : Int32, f1 8 = z := ⟨_, rfl⟩
  have b18 : Bd v16 (0) (3) := (by rw [← ee17]; exact b3.2.2.2.2.2.2.1 8 (by decide))
  obtain ⟨f19, c20, b21⟩ := invM_6 hI
  obtain ⟨v22, ee23⟩ : ∃ z : Int32, f19 0 = z := ⟨_, rfl⟩
  have b24 : Bd v22 (0) (40000) := (by rw [← ee23]; exact b21 0)
  have q25 : elm (S 7) 1 = v4.toInt := (elm_of c2 1).trans (congrArg Int32.toInt (ee5))
  have q26 : elm (S 7) 0 = v7.toInt := (elm_of c2 0).trans (congrArg Int32.toInt (ee8))
  have q27 : elm (S 7) 3 = v10.toInt := (elm_of c2 3).trans (congrArg Int32.toInt (ee11))
  have q28 : elm (S 7) 6 = v13.toInt := (elm_of c2 6).trans (congrArg Int32.toInt (ee14))
  have q29 : elm (S 7) 8 = v16.toInt := (elm_of c2 8).trans (congrArg Int32.toInt (ee17))
  have q30 : elm (S 6) 0 = v22.toInt := (elm_of c20 0).trans (congrArg Int32.toInt (ee23))
  refine lv_aload_n hx hb dX12_paste_0 rfl (lv_at hl 0 rfl) ?_
  refine lv_iconst (v := 0) hx hb dX12_paste_1 (by decide) ?_
  obtain ⟨v31, v32, v34, v36, v38, v39, w40, v41, v43, v44, v45, v46, v48, v50, v52, v54, v56, v57, v58, c59, b33, b35, b37, b42, b47, b49, b51, b53, b55⟩ := invM_0 hI
  have c59 : S 0 = .inr (12, [.int v31, .ref (ad 1), .ref (ad 2), .ref (ad 3), .ref (ad 4), .ref (ad 5), .int v32, .int v34, .int v36, .int v38, .int v39, .long w40, .int v41, .int v43, .int v44, .int v45, .ref (ad 6), .ref (ad 7), .ref (ad 8), .ref (ad 9), .ref (ad 10), .ref (ad 11), .ref (ad 12), .ref (ad 13), .ref (ad 14), .ref (ad 15), .int v46, .int v48, .ref (ad 16), .int v50, .int v52, .int v54, .int v56, .int v57, .ref (ad 17), .ref (ad 18), .int v58, .ref (ad 19)]) := c59
  refine xputi E hs hQ 0 (by decide) c59 rfl 0 (by decide) q1468 rfl rfl (Nat.le_of_ble_eq_true rfl) dX12_paste_2 (fun H locs S60 eS60 hQ => ?_)
  have hI := invM_up_0 hI eS60 ⟨0, v32, v34, v36, v38, v39, w40, v41, v43, v44, v45, v46, v48, v50, v52, v54, v56, v57, v58, rfl, b33, b35, b37, b42, b47, b49, b51, b53, b55⟩
  have c61 : S60 0 = .inr (12, [.int 0, .ref (ad 1), .ref (ad 2), .ref (ad 3), .ref (ad 4), .ref (ad 5), .int v32, .int v34, .int v36, .int v38, .int v39, .long w40, .int v41, .int v43, .int v44, .int v45, .ref (ad 6), .ref (ad 7), .ref (ad 8), .ref (ad 9), .ref (ad 10), .ref (ad 11), .ref (ad 12), .ref (ad 13), .ref (ad 14), .ref (ad 15), .int v46, .int v48, .ref (ad 16), .int v50, .int v52, .int v54, .int v56, .int v57, .ref (ad 17), .ref (ad 18), .int v58, .ref (ad 19)]) := up_at eS60 rfl
  refine lv_iload_n hx hb dX12_paste_5 rfl (lv_at hl 1 rfl) ?_
  refine xcSi E hs hQ hml hl.1 (gX12_isSlot l g ad hD S60 hI a1) mX12_isSlot q1587 rfl ⟨(Nat.le_of_ble_eq_true rfl), (Nat.le_of_ble_eq_true rfl)⟩ ⟨(Nat.le_of_ble_eq_true rfl), (Nat.le_of_ble_eq_true rfl)⟩ (Nat.le_of_ble_eq_true rfl) rfl dX12_paste_6 (fun r62 S62 H locs hp62 hQ => ?_)
  obtain ⟨rfl, b62, g62_0, u62_0⟩ := hp62
  refine lv_if_eq (tgt := 19) hx hb dX12_paste_9 (by decide) (fun k63 => ?_) (fun k63 => ?_)
  · have h64 := ib_eq k63
    have b65 : Bd r62 (0) (0) := ⟨(b62).1, ((rf_eq b62 (by decide : Bd 0 (0) (0)) h64).1).2⟩
    clear g62_0
    refine lv_bipush (v := (-2)) hx hb dX12_paste_19 (by decide) ?_
    exact xri E hr hlk hQ (⟨hI, (up_o o_refl eS60 (by decide)), (ib_wk (by decide : Bd (-2) (-2) (-2)) (by decide) (by decide)), (by have h1 := u62_0; unfold InP at h1; unfold ansPaM; rw [if_pos (by omega)])⟩) dX12_paste_21
  · have h66 := ib_ne k63
    have b67 : Bd r62 (1) (1) := rf_nlo b62 (by decide : Bd 0 (0) (0)) h66
    have g68 := g62_0.resolve_left (by omega)
    clear g62_0
    have b69 : Bd a1 (0) (3) := ⟨by omega, by omega⟩
    refine lv_iload_n hx hb dX12_paste_12 rfl (lv_at hl 3 rfl) ?_
    refine xcSi E hs hQ hml hl.1 (gX12_isSlot l g ad hD S60 hI a3) mX12_isSlot q1587 rfl ⟨(Nat.le_of_ble_eq_true rfl), (Nat.le_of_ble_eq_true rfl)⟩ ⟨(Nat.le_of_ble_eq_true rfl), (Nat.le_of_ble_eq_true rfl)⟩ (Nat.le_of_ble_eq_true rfl) rfl dX12_paste_13 (fun r70 S70 H locs hp70 hQ => ?_)
    obtain ⟨rfl, b70, g70_0, u70_0⟩ := hp70
    refine lv_if_ne (tgt := 22) hx hb dX12_paste_16 (by decide) (fun k71 => ?_) (fun k71 => ?_)
    · have h72 := ib_ne k71
      have b73 : Bd r70 (1) (1) := rf_nlo b70 (by decide : Bd 0 (0) (0)) h72
      have g74 := g70_0.resolve_left (by omega)
      clear g70_0
      have b75 : Bd a3 (0) (3) := ⟨by omega, by omega⟩
      refine lv_aload_n hx hb dX12_paste_22 rfl (lv_at hl 0 rfl) ?_
      refine xget E hQ 0 (by decide) c61 rfl 1 (by decide) q1469 rfl dX12_paste_23 ?_
      refine lv_iload_n hx hb dX12_paste_26 rfl (lv_at hl 1 rfl) ?_
      obtain ⟨f76, c77, b78⟩ := invM_1 hI
      refine xiald E hQ 1 (by decide) c77 (ib_in b69 (by decide) (by decide)) dX12_paste_27 ?_
      refine lv_topi (fun z79 e80 => ?_)
      have b81 : Bd z79 (-1) (3) := (by rw [e80]; exact b78 _)
      have el82 : elm (S60 1) a1.toInt.toNat = z79.toInt := elm_ld c77 e80
      refine lv_iconst (v := (-1)) hx hb dX12_paste_28 (by decide) ?_
      refine lv_icmp_eq (tgt := 42) hx hb dX12_paste_29 (by decide) (fun k83 => ?_) (fun k83 => ?_)
      · have h84 := ib_eq k83
        have b85 : Bd z79 (-1) (-1) := ⟨(b81).1, ((rf_eq b81 (by decide : Bd (-1) (-1) (-1)) h84).1).2⟩
        refine lv_bipush (v := (-6)) hx hb dX12_paste_42 (by decide) ?_
        exact xri E hr hlk hQ (⟨hI, (up_o o_refl eS60 (by decide)), (ib_wk (by decide : Bd (-6) (-6) (-6)) (by decide) (by decide)), (by have h1 := u62_0; unfold InP at h1; have h2 := u70_0; unfold InP at h2; have e1 := ((congrArg (fun e => elm e a1.toInt.toNat) (up_eq (j := 1) eS60 (by decide))).symm.trans el82); unfold ansPaM; rw [if_neg (by omega), if_pos (by omega)])⟩) dX12_paste_44
      · have h86 := ib_ne k83
        have b87 : Bd z79 (0) (3) := rf_nlo b81 (by decide : Bd (-1) (-1) (-1)) h86
        refine lv_aload_n hx hb dX12_paste_32 rfl (lv_at hl 0 rfl) ?_
        refine xget E hQ 0 (by decide) c61 rfl 1 (by decide) q1469 rfl dX12_paste_33 ?_
        refine lv_iload_n hx hb dX12_paste_36 rfl (lv_at hl 3 rfl) ?_
        refine xiald E hQ 1 (by decide) c77 (ib_in b75 (by decide) (by decide)) dX12_paste_37 ?_
        refine lv_topi (fun z88 e89 => ?_)
        have b90 : Bd z88 (-1) (3) := (by rw [e89]; exact b78 _)
        have el91 : elm (S60 1) a3.toInt.toNat = z88.toInt := elm_ld c77 e89
        refine lv_iconst (v := (-1)) hx hb dX12_paste_38 (by decide) ?_
        refine lv_icmp_ne (tgt := 45) hx hb dX12_paste_39 (by decide) (fun k92 => ?_) (fun k92 => ?_)
        · have h93 := ib_ne k92
          have b94 : Bd z88 (0) (3) := rf_nlo b90 (by decide : Bd (-1) (-1) (-1)) h93
          refine lv_aload_n hx hb dX12_paste_45 rfl (lv_at hl 0 rfl) ?_
          refine xget E hQ 0 (by decide) c61 rfl 1 (by decide) q1469 rfl dX12_paste_46 ?_
          refine lv_iload_n hx hb dX12_paste_49 rfl (lv_at hl 1 rfl) ?_
          refine xiald E hQ 1 (by decide) c77 (ib_in b69 (by decide) (by decide)) dX12_paste_50 ?_
          refine lv_topi (fun z95 e96 => ?_)
          have b97 : Bd z95 (-1) (3) := (by rw [e96]; exact b78 _)
          have el98 : elm (S60 1) a1.toInt.toNat = z95.toInt := elm_ld c77 e96
          refine lv_aload_n hx hb dX12_paste_51 rfl (lv_at hl 0 rfl) ?_
          refine xget E hQ 0 (by decide) c61 rfl 1 (by decide) q1469 rfl dX12_paste_52 ?_
          refine lv_iload_n hx hb dX12_paste_55 rfl (lv_at hl 3 rfl) ?_
          refine xiald E hQ 1 (by decide) c77 (ib_in b75 (by decide) (by decide)) dX12_paste_56 ?_
          refine lv_topi (fun z99 e100 => ?_)
          have b101 : Bd z99 (-1) (3) := (by rw [e100]; exact b78 _)
          have el102 : elm (S60 1) a3.toInt.toNat = z99.toInt := elm_ld c77 e100
          refine lv_icmp_eq (tgt := 63) hx hb dX12_paste_57 (by decide) (fun k103 => ?_) (fun k103 => ?_)
          · have h104 := ib_eq k103
            refine lv_iload_n hx hb dX12_paste_63 rfl (lv_at hl 2 rfl) ?_
            refine lv_if_lt (tgt := 112) hx hb dX12_paste_64 (by decide) (fun k105 => ?_) (fun k105 => ?_)
            · have h106 := ib_lt k105
              have b107 : Bd a2 (-2147483648) (-1) := ⟨((ib_full a2)).1, ((rf_lt (ib_full a2) (by decide : Bd 0 (0) (0)) h106).1).2⟩
              refine lv_bipush (v := (-7)) hx hb dX12_paste_112 (by decide) ?_
              exact xri E hr hlk hQ (⟨hI, (up_o o_refl eS60 (by decide)), (ib_wk (by decide : Bd (-7) (-7) (-7)) (by decide) (by decide)), (by have h1 := u62_0; unfold InP at h1; have h2 := u70_0; unfold InP at h2; have e1 := ((congrArg (fun e => elm e a1.toInt.toNat) (up_eq (j := 1) eS60 (by decide))).symm.trans el98); have e2 := ((congrArg (fun e => elm e a3.toInt.toNat) (up_eq (j := 1) eS60 (by decide))).symm.trans el102); unfold ansPaM; rw [if_neg (by omega), if_neg (by omega), if_neg (by omega), if_pos (by omega)])⟩) dX12_paste_114
            · have h108 := ib_nlt k105
              have b109 : Bd a2 (0) (2147483647) := ⟨((rf_le (by decide : Bd 0 (0) (0)) (ib_full a2) h108).2).1, ((ib_full a2)).2⟩
              refine lv_iload hx hb dX12_paste_67 (lv_at hl 4 rfl) ?_
              refine lv_if_lt (tgt := 112) hx hb dX12_paste_69 (by decide) (fun k110 => ?_) (fun k110 => ?_)
              · have h111 := ib_lt k110
                have b112 : Bd a4 (-2147483648) (-1) := ⟨((ib_full a4)).1, ((rf_lt (ib_full a4) (by decide : Bd 0 (0) (0)) h111).1).2⟩
                refine lv_bipush (v := (-7)) hx hb dX12_paste_112 (by decide) ?_
                exact xri E hr hlk hQ (⟨hI, (up_o o_refl eS60 (by decide)), (ib_wk (by decide : Bd (-7) (-7) (-7)) (by decide) (by decide)), (by have h1 := u62_0; unfold InP at h1; have h2 := u70_0; unfold InP at h2; have e1 := ((congrArg (fun e => elm e a1.toInt.toNat) (up_eq (j := 1) eS60 (by decide))).symm.trans el98); have e2 := ((congrArg (fun e => elm e a3.toInt.toNat) (up_eq (j := 1) eS60 (by decide))).symm.trans el102); unfold ansPaM; rw [if_neg (by omega), if_neg (by omega), if_neg (by omega), if_pos (by omega)])⟩) dX12_paste_114
              · have h113 := ib_nlt k110
                have b114 : Bd a4 (0) (2147483647) := ⟨((rf_le (by decide : Bd 0 (0) (0)) (ib_full a4) h113).2).1, ((ib_full a4)).2⟩
                refine lv_iload hx hb dX12_paste_72 (lv_at hl 5 rfl) ?_
                refine lv_if_lt (tgt := 112) hx hb dX12_paste_74 (by decide) (fun k115 => ?_) (fun k115 => ?_)
                · have h116 := ib_lt k115
                  have b117 : Bd a5 (-2147483648) (-1) := ⟨((ib_full a5)).1, ((rf_lt (ib_full a5) (by decide : Bd 0 (0) (0)) h116).1).2⟩
                  refine lv_bipush (v := (-7)) hx hb dX12_paste_112 (by decide) ?_
                  exact xri E hr hlk hQ (⟨hI, (up_o o_refl eS60 (by decide)), (ib_wk (by decide : Bd (-7) (-7) (-7)) (by decide) (by decide)), (by have h1 := u62_0; unfold InP at h1; have h2 := u70_0; unfold InP at h2; have e1 := ((congrArg (fun e => elm e a1.toInt.toNat) (up_eq (j := 1) eS60 (by decide))).symm.trans el98); have e2 := ((congrArg (fun e => elm e a3.toInt.toNat) (up_eq (j := 1) eS60 (by decide))).symm.trans el102); unfold ansPaM; rw [if_neg (by omega), if_neg (by omega), if_neg (by omega), if_pos (by omega)])⟩) dX12_paste_114
                · have h118 := ib_nlt k115
                  have b119 : Bd a5 (0) (2147483647) := ⟨((rf_le (by decide : Bd 0 (0) (0)) (ib_full a5) h118).2).1, ((ib_full a5)).2⟩
                  refine lv_iload_n hx hb dX12_paste_77 rfl (lv_at hl 2 rfl) ?_
                  refine lv_i2l hx hb dX12_paste_78 rfl ?_
                  refine lv_topl (fun w120 e121 => ?_)
                  have t122 : w120.toInt = a2.toInt := by rw [e121]; exact i2l_i _
                  have b123 : BdL w120 (0) (2147483647) := (by have h1 := (b109).1; have h2 := (b109).2; exact ⟨by omega, by omega⟩)
                  refine lv_iload hx hb dX12_paste_79 (lv_at hl 5 rfl) ?_
                  refine lv_i2l hx hb dX12_paste_81 rfl ?_
                  refine lv_topl (fun w124 e125 => ?_)
                  have t126 : w124.toInt = a5.toInt := by rw [e125]; exact i2l_i _
                  have b127 : BdL w124 (0) (2147483647) := (by have h1 := (b119).1; have h2 := (b119).2; exact ⟨by omega, by omega⟩)
                  refine lv_ladd hx hb dX12_paste_82 ?_
                  refine lv_topl (fun w128 e129 => ?_)
                  have t130 : w128.toInt = w120.toInt + w124.toInt := ib_addL e129 b123 b127 (by decide) (by decide) rfl rfl
                  have b131 : BdL w128 (0) (4294967294) := (by have h1 := b123; have h2 := b127; exact ⟨by omega, by omega⟩)
                  refine lv_aload_n hx hb dX12_paste_83 rfl (lv_at hl 0 rfl) ?_
                  refine xget E hQ 0 (by decide) c61 rfl 2 (by decide) q1470 rfl dX12_paste_84 ?_
                  refine lv_iload_n hx hb dX12_paste_87 rfl (lv_at hl 1 rfl) ?_
                  obtain ⟨f132, c133, b134⟩ := invM_2 hI
                  refine xiald E hQ 2 (by decide) c133 (ib_in b69 (by decide) (by decide)) dX12_paste_88 ?_
                  refine lv_topi (fun z135 e136 => ?_)
                  have b137 : Bd z135 (0) (60) := (by rw [e136]; exact b134 _)
                  have el138 : elm (S60 2) a1.toInt.toNat = z135.toInt := elm_ld c133 e136
                  refine lv_i2l hx hb dX12_paste_89 rfl ?_
                  refine lv_topl (fun w139 e140 => ?_)
                  have t141 : w139.toInt = z135.toInt := by rw [e140]; exact i2l_i _
                  have b142 : BdL w139 (0) (60) := (by have h1 := (b137).1; have h2 := (b137).2; exact ⟨by omega, by omega⟩)
                  refine W.lcmp hx hb dX12_paste_90 ?_
                  refine lv_if_gt (tgt := 112) hx hb dX12_paste_91 (by decide) (fun k143 => ?_) (fun k143 => ?_)
                  · have h144 := lc_gt k143
                    have b145 : BdL w128 (1) (4294967294) := ⟨((rf_ltL b142 b131 h144).2).1, (b131).2⟩
                    refine lv_bipush (v := (-7)) hx hb dX12_paste_112 (by decide) ?_
                    exact xri E hr hlk hQ (⟨hI, (up_o o_refl eS60 (by decide)), (ib_wk (by decide : Bd (-7) (-7) (-7)) (by decide) (by decide)), (by have h1 := u62_0; unfold InP at h1; have h2 := u70_0; unfold InP at h2; have e1 := ((congrArg (fun e => elm e a1.toInt.toNat) (up_eq (j := 1) eS60 (by decide))).symm.trans el98); have e2 := ((congrArg (fun e => elm e a3.toInt.toNat) (up_eq (j := 1) eS60 (by decide))).symm.trans el102); have e3 := ((congrArg (fun e => elm e a1.toInt.toNat) (up_eq (j := 2) eS60 (by decide))).symm.trans el138); unfold ansPaM; rw [if_neg (by omega), if_neg (by omega), if_neg (by omega), if_pos (by omega)])⟩) dX12_paste_114
                  · have h146 := lc_ngt k143
                    have b147 : BdL w128 (0) (60) := ⟨(b131).1, ((rf_leL b131 b142 h146).1).2⟩
                    refine lv_iload hx hb dX12_paste_94 (lv_at hl 4 rfl) ?_
                    refine lv_i2l hx hb dX12_paste_96 rfl ?_
                    refine lv_topl (fun w148 e149 => ?_)
                    have t150 : w148.toInt = a4.toInt := by rw [e149]; exact i2l_i _
                    have b151 : BdL w148 (0) (2147483647) := (by have h1 := (b114).1; have h2 := (b114).2; exact ⟨by omega, by omega⟩)
                    refine lv_iload hx hb dX12_paste_97 (lv_at hl 5 rfl) ?_
                    refine lv_i2l hx hb dX12_paste_99 rfl ?_
                    refine lv_topl (fun w152 e153 => ?_)
                    have t154 : w152.toInt = a5.toInt := by rw [e153]; exact i2l_i _
                    have b155 : BdL w152 (0) (2147483647) := (by have h1 := (b119).1; have h2 := (b119).2; exact ⟨by omega, by omega⟩)
                    refine lv_ladd hx hb dX12_paste_100 ?_
                    refine lv_topl (fun w156 e157 => ?_)
                    have t158 : w156.toInt = w148.toInt + w152.toInt := ib_addL e157 b151 b155 (by decide) (by decide) rfl rfl
                    have b159 : BdL w156 (0) (4294967294) := (by have h1 := b151; have h2 := b155; exact ⟨by omega, by omega⟩)
                    refine lv_aload_n hx hb dX12_paste_101 rfl (lv_at hl 0 rfl) ?_
                    refine xget E hQ 0 (by decide) c61 rfl 2 (by decide) q1470 rfl dX12_paste_102 ?_
                    refine lv_iload_n hx hb dX12_paste_105 rfl (lv_at hl 3 rfl) ?_
                    refine xiald E hQ 2 (by decide) c133 (ib_in b75 (by decide) (by decide)) dX12_paste_106 ?_
                    refine lv_topi (fun z160 e161 => ?_)
                    have b162 : Bd z160 (0) (60) := (by rw [e161]; exact b134 _)
                    have el163 : elm (S60 2) a3.toInt.toNat = z160.toInt := elm_ld c133 e161
                    refine lv_i2l hx hb dX12_paste_107 rfl ?_
                    refine lv_topl (fun w164 e165 => ?_)
                    have t166 : w164.toInt = z160.toInt := by rw [e165]; exact i2l_i _
                    have b167 : BdL w164 (0) (60) := (by have h1 := (b162).1; have h2 := (b162).2; exact ⟨by omega, by omega⟩)
                    refine W.lcmp hx hb dX12_paste_108 ?_
                    refine lv_if_le (tgt := 115) hx hb dX12_paste_109 (by decide) (fun k168 => ?_) (fun k168 => ?_)
                    · have h169 := lc_le k168
                      have b170 : BdL w156 (0) (60) := ⟨(b159).1, ((rf_leL b159 b167 h169).1).2⟩
                      refine lv_iconst (v := 0) hx hb dX12_paste_115 (by decide) ?_
                      refine lv_istore (lv' := [(6, .int 0), (0, .ref (ad 0)), (1, .int a1), (2, .int a2), (3, .int a3), (4, .int a4), (5, .int a5)]) hx hb dX12_paste_116 hl (by decide) rfl (fun ls hl => ?_)
                      have loop118 : ∀ (n : Nat) (S_118 : SS) (H : Heap) (locs : List Loc) (ls : Array Slot) (x118_6 : Int32), Bd x118_6 (0) (2147483647) → (-1) * x118_6.toInt + 2147483647 < ((n : Nat) : Int) → InvM g ad S_118 → (∀ j, j ∉ ([4] : List Nat) → S_118 j = S60 j) → Hp g ad 20 S_118 (FA ad 20) s.heap H locs → lv_has ls 7 [(6, .int x118_6), (0, .ref (ad 0)), (1, .int a1), (2, .int a2), (3, .int a3), (4, .int a4), (5, .int a5)] → W p l e (Rm 2) s m [.ref (ad 0), .int a1, .int a2, .int a3, .int a4, .int a5].toArray below meth c H locs 0 0 (MQ below (va_Qi (fun r S' => InvM g ad S' ∧ (∀ j, j ∉ ([0, 3, 4] : List Nat) → S' j = S j) ∧ Bd r (-8) (0) ∧ (r = ansPaM a1 a2 a3 a4 a5 (elm (S 2) a1.toInt.toNat) (elm (S 2) a3.toInt.toNat) (elm (S 1) a1.toInt.toNat) (elm (S 1) a3.toInt.toNat))) (QB g ad 20) (FA ad 20)) [.ref (ad 0), .int a1, .int a2, .int a3, .int a4, .int a5].toArray s 0 0 (FA ad 20)) (F0 m 118 ls []) := by
                        intro n
                        induction n with
                        | zero => intro S_118 H locs ls x118_6 Bx118_6 hn118_ hI hf118 hQ hl; exfalso; have := (Bx118_6).2; omega
                        | succ n118_ ih118 =>
                          intro S_118 H locs ls x118_6 Bx118_6 hn118_ hI hf118 hQ hl
                          refine lv_iload hx hb dX12_paste_118 (lv_at hl 0 rfl) ?_
                          refine lv_iload hx hb dX12_paste_120 (lv_at hl 6 rfl) ?_
                          refine lv_icmp_ge (tgt := 152) hx hb dX12_paste_122 (by decide) (fun k171 => ?_) (fun k171 => ?_)
                          · have h172 := ib_le k171
                            refine lv_iconst (v := 0) hx hb dX12_paste_152 (by decide) ?_
                            refine lv_istore (lv' := [(6, .int 0), (0, .ref (ad 0)), (1, .int a1), (2, .int a2), (3, .int a3), (4, .int a4), (5, .int a5)]) hx hb dX12_paste_153 hl (by decide) rfl (fun ls hl => ?_)
                            have loop155 : ∀ (n : Nat) (S_155 : SS) (H : Heap) (locs : List Loc) (ls : Array Slot) (x155_6 : Int32), Bd x155_6 (0) (2147483647) → (-1) * x155_6.toInt + 2147483647 < ((n : Nat) : Int) → InvM g ad S_155 → (∀ j, j ∉ ([3] : List Nat) → S_155 j = S_118 j) → Hp g ad 20 S_155 (FA ad 20) s.heap H locs → lv_has ls 7 [(6, .int x155_6), (0, .ref (ad 0)), (1, .int a1), (2, .int a2), (3, .int a3), (4, .int a4), (5, .int a5)] → W p l e (Rm 2) s m [.ref (ad 0), .int a1, .int a2, .int a3, .int a4, .int a5].toArray below meth c H locs 0 0 (MQ below (va_Qi (fun r S' => InvM g ad S' ∧ (∀ j, j ∉ ([0, 3, 4] : List Nat) → S' j = S j) ∧ Bd r (-8) (0) ∧ (r = ansPaM a1 a2 a3 a4 a5 (elm (S 2) a1.toInt.toNat) (elm (S 2) a3.toInt.toNat) (elm (S 1) a1.toInt.toNat) (elm (S 1) a3.toInt.toNat))) (QB g ad 20) (FA ad 20)) [.ref (ad 0), .int a1, .int a2, .int a3, .int a4, .int a5].toArray s 0 0 (FA ad 20)) (F0 m 155 ls []) := by
                              intro n
                              induction n with
                              | zero => intro S_155 H locs ls x155_6 Bx155_6 hn155_ hI hf155 hQ hl; exfalso; have := (Bx155_6).2; omega
                              | succ n155_ ih155 =>
                                intro S_155 H locs ls x155_6 Bx155_6 hn155_ hI hf155 hQ hl
                                refine lv_iload hx hb dX12_paste_155 (lv_at hl 0 rfl) ?_
                                refine lv_iload hx hb dX12_paste_157 (lv_at hl 6 rfl) ?_
                                refine lv_icmp_ge (tgt := 190) hx hb dX12_paste_159 (by decide) (fun k173 => ?_) (fun k173 => ?_)
                                · have h174 := ib_le k173
                                  refine lv_iconst (v := 0) hx hb dX12_paste_190 (by decide) ?_
                                  exact xri E hr hlk hQ (⟨hI, (o_trans (o_trans (up_o o_refl eS60 (by decide)) hf118 (by decide)) hf155 (by decide)), (ib_wk (by decide : Bd 0 (0) (0)) (by decide) (by decide)), (by have h1 := u62_0; unfold InP at h1; have h2 := u70_0; unfold InP at h2; have e1 := ((congrArg (fun e => elm e a1.toInt.toNat) (up_eq (j := 1) eS60 (by decide))).symm.trans el98); have e2 := ((congrArg (fun e => elm e a3.toInt.toNat) (up_eq (j := 1) eS60 (by decide))).symm.trans el102); have e3 := ((congrArg (fun e => elm e a1.toInt.toNat) (up_eq (j := 2) eS60 (by decide))).symm.trans el138); have e4 := ((congrArg (fun e => elm e a3.toInt.toNat) (up_eq (j := 2) eS60 (by decide))).symm.trans el163); unfold ansPaM; rw [if_neg (by omega), if_neg (by omega), if_neg (by omega), if_neg (by omega)])⟩) dX12_paste_191
                                · have h175 := ib_nle k173
                                  have b176 : Bd x155_6 (0) (2147483646) := ⟨(Bx155_6).1, ((rf_lt Bx155_6 b119 h175).1).2⟩
                                  have b177 : Bd a5 (1) (2147483647) := ⟨((rf_lt Bx155_6 b119 h175).2).1, (b119).2⟩
                                  refine lv_aload_n hx hb dX12_paste_162 rfl (lv_at hl 1 rfl) ?_
                                  have c178 : S_155 0 = .inr (12, [.int 0, .ref (ad 1), .ref (ad 2), .ref (ad 3), .ref (ad 4), .ref (ad 5), .int v32, .int v34, .int v36, .int v38, .int v39, .long w40, .int v41, .int v43, .int v44, .int v45, .ref (ad 6), .ref (ad 7), .ref (ad 8), .ref (ad 9), .ref (ad 10), .ref (ad 11), .ref (ad 12), .ref (ad 13), .ref (ad 14), .ref (ad 15), .int v46, .int v48, .ref (ad 16), .int v50, .int v52, .int v54, .int v56, .int v57, .ref (ad 17), .ref (ad 18), .int v58, .ref (ad 19)]) := ((hf155 0 (by decide)).trans ((hf118 0 (by decide)).trans c61))
                                  refine xget E hQ 0 (by decide) c178 rfl 3 (by decide) q1471 rfl dX12_paste_163 ?_
                                  refine lv_bipush (v := 60) hx hb dX12_paste_166 (by decide) ?_
                                  refine lv_iload_n hx hb dX12_paste_168 rfl (lv_at hl 4 rfl) ?_
                                  refine lv_imul hx hb dX12_paste_169 ?_
                                  refine lv_topi (fun z179 e180 => ?_)
                                  have t181 := ib_cmul (q := 60) e180 (by decide) (by decide) b75 (by decide) (by decide)
                                  have b182 : Bd z179 (0) (180) := ib_mulb t181 (by decide) b75
                                  refine lv_iload hx hb dX12_paste_170 (lv_at hl 5 rfl) ?_
                                  refine lv_iadd hx hb dX12_paste_172 ?_
                                  refine lv_topi (fun z183 e184 => ?_)
                                  have t185 : z183.toInt = z179.toInt + a4.toInt := ib_addx e184 rfl rfl (by omega) (by omega)
                                  have b186 : Bd z183 (0) (239) := ⟨by omega, by omega⟩
                                  have b187 : Bd a4 (0) (59) := ⟨(b114).1, by omega⟩
                                  refine lv_iload hx hb dX12_paste_173 (lv_at hl 0 rfl) ?_
                                  refine lv_iadd hx hb dX12_paste_175 ?_
                                  refine lv_topi (fun z188 e189 => ?_)
                                  have t190 : z188.toInt = z183.toInt + x155_6.toInt := ib_addx e189 rfl rfl (by omega) (by omega)
                                  have b191 : Bd z188 (0) (239) := ⟨by omega, by omega⟩
                                  have b192 : Bd x155_6 (0) (59) := ⟨(b176).1, by omega⟩
                                  refine lv_aload_n hx hb dX12_paste_176 rfl (lv_at hl 1 rfl) ?_
                                  refine xget E hQ 0 (by decide) c178 rfl 4 (by decide) q1472 rfl dX12_paste_177 ?_
                                  refine lv_iload hx hb dX12_paste_180 (lv_at hl 0 rfl) ?_
                                  obtain ⟨f193, c194⟩ := invM_4 hI
                                  refine xlald E hQ 4 (by decide) c194 (ib_in b192 (by decide) (by decide)) dX12_paste_182 ?_
                                  refine lv_topl (fun w196 e197 => ?_)
                                  obtain ⟨f198, c199⟩ := invM_3 hI
                                  refine xlast E hs hQ 3 (by decide) c199 (ib_in b191 (by decide) (by decide)) dX12_paste_183 (fun H locs S201 eS201 hQ => ?_)
                                  have hI := invM_up_3 hI eS201 ⟨_, rfl⟩
                                  have c202 : S201 3 = .inl (g.2 2, 240, .inr (.inl (vp_updL f198 (z188 : Int32).toNatClampNeg w196))) := up_at eS201 rfl
                                  obtain ⟨z203, e204⟩ : ∃ z : Int32, z = x155_6 + 1 := ⟨_, rfl⟩
                                  have t205 := ib_add e204 b192 (by decide : Bd 1 (1) (1)) (by decide) (by decide)
                                  have b206 : Bd z203 (1) (60) := ib_addb t205 b192 (by decide : Bd 1 (1) (1))
                                  have t205 : z203.toInt = x155_6.toInt + 1 := fold_add t205 rfl (by decide)
                                  refine lv_iinc (v := z203) (lv' := [(6, .int z203), (0, .ref (ad 0)), (1, .int a1), (2, .int a2), (3, .int a3), (4, .int a4), (5, .int a5)]) hx hb dX12_paste_184 hl (k := 0) rfl (by rw [e204]; rfl) (by decide) rfl (fun ls hl => ?_)
                                  refine lv_goto (tgt := 155) hx hb dX12_paste_187 (by decide) ?_
                                  exact ih155 _ _ _ _ z203 (ib_wk b206 (by decide) (by decide)) (by omega) hI (up_o hf155 eS201 (by decide)) hQ (lv_sub hl [0, 1, 2, 3, 4, 5, 6] rfl)
                            obtain ⟨n155, hn155⟩ := fu_n (2147483647)
                            exact loop155 n155 _ _ _ _ 0 (ib_wk (by decide : Bd 0 (0) (0)) (by decide) (by decide)) (by have : (0 : Int32).toInt = 0 := (by decide); omega) hI o_refl hQ (lv_sub hl [0, 1, 2, 3, 4, 5, 6] rfl)
                          · have h207 := ib_nle k171
                            have b208 : Bd x118_6 (0) (2147483646) := ⟨(Bx118_6).1, ((rf_lt Bx118_6 b119 h207).1).2⟩
                            have b209 : Bd a5 (1) (2147483647) := ⟨((rf_lt Bx118_6 b119 h207).2).1, (b119).2⟩
                            refine lv_aload_n hx hb dX12_paste_125 rfl (lv_at hl 1 rfl) ?_
                            have c210 : S_118 0 = .inr (12, [.int 0, .ref (ad 1), .ref (ad 2), .ref (ad 3), .ref (ad 4), .ref (ad 5), .int v32, .int v34, .int v36, .int v38, .int v39, .long w40, .int v41, .int v43, .int v44, .int v45, .ref (ad 6), .ref (ad 7), .ref (ad 8), .ref (ad 9), .ref (ad 10), .ref (ad 11), .ref (ad 12), .ref (ad 13), .ref (ad 14), .ref (ad 15), .int v46, .int v48, .ref (ad 16), .int v50, .int v52, .int v54, .int v56, .int v57, .ref (ad 17), .ref (ad 18), .int v58, .ref (ad 19)]) := ((hf118 0 (by decide)).trans c61)
                            refine xget E hQ 0 (by decide) c210 rfl 4 (by decide) q1472 rfl dX12_paste_126 ?_
                            refine lv_iload hx hb dX12_paste_129 (lv_at hl 0 rfl) ?_
                            refine lv_aload_n hx hb dX12_paste_131 rfl (lv_at hl 1 rfl) ?_
                            refine xget E hQ 0 (by decide) c210 rfl 3 (by decide) q1471 rfl dX12_paste_132 ?_
                            refine lv_bipush (v := 60) hx hb dX12_paste_135 (by decide) ?_
                            refine lv_iload_n hx hb dX12_paste_137 rfl (lv_at hl 2 rfl) ?_
                            refine lv_imul hx hb dX12_paste_138 ?_
                            refine lv_topi (fun z211 e212 => ?_)
                            have t213 := ib_cmul (q := 60) e212 (by decide) (by decide) b69 (by decide) (by decide)
                            have b214 : Bd z211 (0) (180) := ib_mulb t213 (by decide) b69
                            refine lv_iload_n hx hb dX12_paste_139 rfl (lv_at hl 3 rfl) ?_
                            refine lv_iadd hx hb dX12_paste_140 ?_
                            refine lv_topi (fun z215 e216 => ?_)
                            have t217 : z215.toInt = z211.toInt + a2.toInt := ib_addx e216 rfl rfl (by omega) (by omega)
                            have b218 : Bd z215 (0) (239) := ⟨by omega, by omega⟩
                            have b219 : Bd a2 (0) (59) := ⟨(b109).1, by omega⟩
                            refine lv_iload hx hb dX12_paste_141 (lv_at hl 0 rfl) ?_
                            refine lv_iadd hx hb dX12_paste_143 ?_
                            refine lv_topi (fun z220 e221 => ?_)
                            have t222 : z220.toInt = z215.toInt + x118_6.toInt := ib_addx e221 rfl rfl (by omega) (by omega)
                            have b223 : Bd z220 (0) (239) := ⟨by omega, by omega⟩
                            have b224 : Bd x118_6 (0) (59) := ⟨(b208).1, by omega⟩
                            obtain ⟨f225, c226⟩ := invM_3 hI
                            refine xlald E hQ 3 (by decide) c226 (ib_in b223 (by decide) (by decide)) dX12_paste_144 ?_
                            refine lv_topl (fun w228 e229 => ?_)
                            obtain ⟨f230, c231⟩ := invM_4 hI
                            refine xlast E hs hQ 4 (by decide) c231 (ib_in b224 (by decide) (by decide)) dX12_paste_145 (fun H locs S233 eS233 hQ => ?_)
                            have hI := invM_up_4 hI eS233 ⟨_, rfl⟩
                            have c234 : S233 4 = .inl (g.2 2, 60, .inr (.inl (vp_updL f230 (x118_6 : Int32).toNatClampNeg w228))) := up_at eS233 rfl
                            obtain ⟨z235, e236⟩ : ∃ z : Int32, z = x118_6 + 1 := ⟨_, rfl⟩
                            have t237 := ib_add e236 b224 (by decide : Bd 1 (1) (1)) (by decide) (by decide)
                            have b238 : Bd z235 (1) (60) := ib_addb t237 b224 (by decide : Bd 1 (1) (1))
                            have t237 : z235.toInt = x118_6.toInt + 1 := fold_add t237 rfl (by decide)
                            refine lv_iinc (v := z235) (lv' := [(6, .int z235), (0, .ref (ad 0)), (1, .int a1), (2, .int a2), (3, .int a3), (4, .int a4), (5, .int a5)]) hx hb dX12_paste_146 hl (k := 0) rfl (by rw [e236]; rfl) (by decide) rfl (fun ls hl => ?_)
                            refine lv_goto (tgt := 118) hx hb dX12_paste_149 (by decide) ?_
                            exact ih118 _ _ _ _ z235 (ib_wk b238 (by decide) (by decide)) (by omega) hI (up_o hf118 eS233 (by decide)) hQ (lv_sub hl [0, 1, 2, 3, 4, 5, 6] rfl)
                      obtain ⟨n118, hn118⟩ := fu_n (2147483647)
                      exact loop118 n118 _ _ _ _ 0 (ib_wk (by decide : Bd 0 (0) (0)) (by decide) (by decide)) (by have : (0 : Int32).toInt = 0 := (by decide); omega) hI o_refl hQ (lv_sub hl [0, 1, 2, 3, 4, 5, 6] rfl)
                    · have h239 := lc_nle k168
                      have b240 : BdL w156 (1) (4294967294) := ⟨((rf_ltL b167 b159 h239).2).1, (b159).2⟩
                      refine lv_bipush (v := (-7)) hx hb dX12_paste_112 (by decide) ?_
                      exact xri E hr hlk hQ (⟨hI, (up_o o_refl eS60 (by decide)), (ib_wk (by decide : Bd (-7) (-7) (-7)) (by decide) (by decide)), (by have h1 := u62_0; unfold InP at h1; have h2 := u70_0; unfold InP at h2; have e1 := ((congrArg (fun e => elm e a1.toInt.toNat) (up_eq (j := 1) eS60 (by decide))).symm.trans el98); have e2 := ((congrArg (fun e => elm e a3.toInt.toNat) (up_eq (j := 1) eS60 (by decide))).symm.trans el102); have e3 := ((congrArg (fun e => elm e a1.toInt.toNat) (up_eq (j := 2) eS60 (by decide))).symm.trans el138); have e4 := ((congrArg (fun e => elm e a3.toInt.toNat) (up_eq (j := 2) eS60 (by decide))).symm.trans el163); unfold ansPaM; rw [if_neg (by omega), if_neg (by omega), if_neg (by omega), if_pos (by omega)])⟩) dX12_paste_114
          · have h241 := ib_ne k103
            refine lv_bipush (v := (-8)) hx hb dX12_paste_60 (by decide) ?_
            exact xri E hr hlk hQ (⟨hI, (up_o o_refl eS60 (by decide)), (ib_wk (by decide : Bd (-8) (-8) (-8)) (by decide) (by decide)), (by have h1 := u62_0; unfold InP at h1; have h2 := u70_0; unfold InP at h2; have e1 := ((congrArg (fun e => elm e a1.toInt.toNat) (up_eq (j := 1) eS60 (by decide))).symm.trans el98); have e2 := ((congrArg (fun e => elm e a3.toInt.toNat) (up_eq (j := 1) eS60 (by decide))).symm.trans el102); unfold ansPaM; rw [if_neg (by omega), if_neg (by omega), if_pos (by omega)])⟩) dX12_paste_62
        · have h242 := ib_eq k92
          have b243 : Bd z88 (-1) (-1) := ⟨(b90).1, ((rf_eq b90 (by decide : Bd (-1) (-1) (-1)) h242).1).2⟩
          refine lv_bipush (v := (-6)) hx hb dX12_paste_42 (by decide) ?_
          exact xri E hr hlk hQ (⟨hI, (up_o o_refl eS60 (by decide)), (ib_wk (by decide : Bd (-6) (-6) (-6)) (by decide) (by decide)), (by have h1 := u62_0; unfold InP at h1; have h2 := u70_0; unfold InP at h2; have e1 := ((congrArg (fun e => elm e a1.toInt.toNat) (up_eq (j := 1) eS60 (by decide))).symm.trans el82); have e2 := ((congrArg (fun e => elm e a3.toInt.toNat) (up_eq (j := 1) eS60 (by decide))).symm.trans el91); unfold ansPaM; rw [if_neg (by omega), if_pos (by omega)])⟩) dX12_paste_44
    · have h244 := ib_eq k71
      have b245 : Bd r70 (0) (0) := ⟨(b70).1, ((rf_eq b70 (by decide : Bd 0 (0) (0)) h244).1).2⟩
      clear g70_0
      refine lv_bipush (v := (-2)) hx hb dX12_paste_19 (by decide) ?_
      exact xri E hr hlk hQ (⟨hI, (up_o o_refl eS60 (by decide)), (ib_wk (by decide : Bd (-2) (-2) (-2)) (by decide) (by decide)), (by have h1 := u62_0; unfold InP at h1; have h2 := u70_0; unfold InP at h2; unfold ansPaM; rw [if_pos (by omega)])⟩) dX12_paste_21
