set_option maxHeartbeats 4000000 in
set_option maxRecDepth 100000 in
theorem gX12_back_0 (l : Launch) (g : GG) (ad : Nat → Nat) (hD : Dj ad 20) (S : SS) (hI : InvM g ad S) (a1 : Int32) (hq1 : 0 ≤ 12 * elm (S 7) 1 + (-1) * elm (S 7) 0) (hq2 : 0 ≤ 12 * elm (S 7) 3 + (-1) * elm (S 7) 0) (hq3 : 0 ≤ 8 * elm (S 7) 0 + (-1) * elm (S 7) 6) (hq4 : 0 ≤ 3 * elm (S 7) 0 + (-1) * elm (S 7) 8) (hq5 : 0 ≤ 40000 * elm (S 7) 0 + (-1) * elm (S 6) 0) (hq6 : 0 ≤ 12 * elm (S 7) 11 + (-1) * elm (S 7) 10) (hq7 : 0 ≤ 12 * elm (S 7) 13 + (-1) * elm (S 7) 10) (hq8 : 0 ≤ 8 * elm (S 7) 10 + (-1) * elm (S 7) 16) (hq9 : 0 ≤ 3 * elm (S 7) 10 + (-1) * elm (S 7) 18) (hq10 : 0 ≤ 40000 * elm (S 7) 10 + (-1) * elm (S 6) 1) (hq11 : 0 ≤ 12 * elm (S 7) 21 + (-1) * elm (S 7) 20) (hq12 : 0 ≤ 12 * elm (S 7) 23 + (-1) * elm (S 7) 20) (hq13 : 0 ≤ 8 * elm (S 7) 20 + (-1) * elm (S 7) 26) (hq14 : 0 ≤ 3 * elm (S 7) 20 + (-1) * elm (S 7) 28) (hq15 : 0 ≤ 40000 * elm (S 7) 20 + (-1) * elm (S 6) 2) (hq16 : 0 ≤ 12 * elm (S 7) 31 + (-1) * elm (S 7) 30) (hq17 : 0 ≤ 12 * elm (S 7) 33 + (-1) * elm (S 7) 30) (hq18 : 0 ≤ 8 * elm (S 7) 30 + (-1) * elm (S 7) 36) (hq19 : 0 ≤ 3 * elm (S 7) 30 + (-1) * elm (S 7) 38) (hq20 : 0 ≤ 40000 * elm (S 7) 30 + (-1) * elm (S 6) 3) (hAT0 : ATp (S 7) (S 12) 0) (hAT1 : ATp (S 7) (S 12) 1) (hAT2 : ATp (S 7) (S 12) 2) (hAT3 : ATp (S 7) (S 12) 3) (hHT0 : HTp (S 7) (S 9) 0) (hHT1 : HTp (S 7) (S 9) 1) (hHT2 : HTp (S 7) (S 9) 2) (hHT3 : HTp (S 7) (S 9) 3) : Met l yX12_back (wG (.code yX12_back cX12_back 2 (some .int))) (Rm 2) (XPre g ad 20 S [.ref (ad 0), .int a1]) (va_Qi (fun r S' => InvM g ad S' ∧ (∀ j, j ∉ ([0, 6, 7, 8, 9, 10, 11, 12] : List Nat) → S' j = S j) ∧ Bd r (-6) (0) ∧ (0 ≤ 12 * elm (S' 7) 1 + (-1) * elm (S' 7) 0) ∧ (0 ≤ 12 * elm (S' 7) 3 + (-1) * elm (S' 7) 0) ∧ (0 ≤ 8 * elm (S' 7) 0 + (-1) * elm (S' 7) 6) ∧ (0 ≤ 3 * elm (S' 7) 0 + (-1) * elm (S' 7) 8) ∧ (0 ≤ 40000 * elm (S' 7) 0 + (-1) * elm (S' 6) 0) ∧ (0 ≤ 12 * elm (S' 7) 11 + (-1) * elm (S' 7) 10) ∧ (0 ≤ 12 * elm (S' 7) 13 + (-1) * elm (S' 7) 10) ∧ (0 ≤ 8 * elm (S' 7) 10 + (-1) * elm (S' 7) 16) ∧ (0 ≤ 3 * elm (S' 7) 10 + (-1) * elm (S' 7) 18) ∧ (0 ≤ 40000 * elm (S' 7) 10 + (-1) * elm (S' 6) 1) ∧ (0 ≤ 12 * elm (S' 7) 21 + (-1) * elm (S' 7) 20) ∧ (0 ≤ 12 * elm (S' 7) 23 + (-1) * elm (S' 7) 20) ∧ (0 ≤ 8 * elm (S' 7) 20 + (-1) * elm (S' 7) 26) ∧ (0 ≤ 3 * elm (S' 7) 20 + (-1) * elm (S' 7) 28) ∧ (0 ≤ 40000 * elm (S' 7) 20 + (-1) * elm (S' 6) 2) ∧ (0 ≤ 12 * elm (S' 7) 31 + (-1) * elm (S' 7) 30) ∧ (0 ≤ 12 * elm (S' 7) 33 + (-1) * elm (S' 7) 30) ∧ (0 ≤ 8 * elm (S' 7) 30 + (-1) * elm (S' 7) 36) ∧ (0 ≤ 3 * elm (S' 7) 30 + (-1) * elm (S' 7) 38) ∧ (0 ≤ 40000 * elm (S' 7) 30 + (-1) * elm (S' 6) 3) ∧ (ATp (S' 7) (S' 12) 0) ∧ (ATp (S' 7) (S' 12) 1) ∧ (ATp (S' 7) (S' 12) 2) ∧ (ATp (S' 7) (S' 12) 3) ∧ (HTp (S' 7) (S' 9) 0) ∧ (HTp (S' 7) (S' 9) 1) ∧ (HTp (S' 7) (S' 9) 2) ∧ (HTp (S' 7) (S' 9) 3) ∧ (r = ansBk a1 (elm (S 13) a1.toInt.toNat))) (QB g ad 20) (FA ad 20)) 0 0 (FA ad 20) := by
  refine xmet cX12_back "EbbWreckModel" (by decide) rfl (Nat.le_of_ble_eq_true rfl) (fun p e s m below meth c E hr hlk hml hQ ls hl => ?_)
  have hx := E.1
  have hb := E.2.1
  have hs : Sp ad 20 (FA ad 20) := Sp.fa hD
  have hl : lv_has ls 2 [(0, .ref (ad 0)), (1, .int a1)] := hl
  obtain ⟨f1, c2, b3⟩ := invM_7 hI
  obtain ⟨v4, ee5⟩ : ∃ z : Int32, f1 1 = z := ⟨_, rfl⟩
  have b6 : Bd v4 (0) (12) := (by rw [← ee5]; exact b3.2.1 1 (by decide))
  obtain ⟨v7, ee8⟩ : ∃ z : Int32, f1 0 = z := ⟨_, rfl⟩
  have b9 : Bd v7 (0) (12) := (by rw [← ee8]; exact b3.1 0 (by decide))
  obtain ⟨v10, ee11⟩ : ∃ z : Int32, f1 3 = z := ⟨_, rfl⟩
  have b12 : Bd v10 (0) (12) := (by rw [← ee11]; exact b3.2.2.2.1 3 (by decide))
  obtain ⟨v13, ee14⟩ : ∃ z : Int32, f1 6 = z := ⟨_, rfl⟩
  have b15 : Bd v13 (0) (8) := (by rw [← ee14]; exact b3.2.2.2.2.1 6 (by decide))
  obtain ⟨v16, ee17⟩ : ∃ z : Int32, f1 8 = z := ⟨_, rfl⟩
  have b18 : Bd v16 (0) (3) := (by rw [← ee17]; exact b3.2.2.2.2.2.2.1 8 (by decide))
  obtain ⟨f19, c20, b21⟩ := invM_6 hI
  obtain ⟨v22, ee23⟩ : ∃ z : Int32, f19 0 = z := ⟨_, rfl⟩
  have b24 : Bd v22 (0) (40000) := (by rw [← ee23]; exact b21 0)
  obtain ⟨v25, ee26⟩ : ∃ z : Int32, f1 11 = z := ⟨_, rfl⟩
  have b27 : Bd v25 (0) (12) := (by rw [← ee26]; exact b3.2.1 11 (by decide))
  obtain ⟨v28, ee29⟩ : ∃ z : Int32, f1 10 = z := ⟨_, rfl⟩
  have b30 : Bd v28 (0) (12) := (by rw [← ee29]; exact b3.1 10 (by decide))
  obtain ⟨v31, ee32⟩ : ∃ z : Int32, f1 13 = z := ⟨_, rfl⟩
  have b33 : Bd v31 (0) (12) := (by rw [← ee32]; exact b3.2.2.2.1 13 (by decide))
  obtain ⟨v34, ee35⟩ : ∃ z : Int32, f1 16 = z := ⟨_, rfl⟩
  have b36 : Bd v34 (0) (8) := (by rw [← ee35]; exact b3.2.2.2.2.1 16 (by decide))
  obtain ⟨v37, ee38⟩ : ∃ z : Int32, f1 18 = z := ⟨_, rfl⟩
  have b39 : Bd v37 (0) (3) := (by rw [← ee38]; exact b3.2.2.2.2.2.2.1 18 (by decide))
  obtain ⟨v40, ee41⟩ : ∃ z : Int32, f19 1 = z := ⟨_, rfl⟩
  have b42 : Bd v40 (0) (40000) := (by rw [← ee41]; exact b21 1)
  obtain ⟨v43, ee44⟩ : ∃ z : Int32, f1 21 = z := ⟨_, rfl⟩
  have b45 : Bd v43 (0) (12) := (by rw [← ee44]; exact b3.2.1 21 (by decide))
  obtain ⟨v46, ee47⟩ : ∃ z : Int32, f1 20 = z := ⟨_, rfl⟩
  have b48 : Bd v46 (0) (12) := (by rw [← ee47]; exact b3.1 20 (by decide))
  obtain ⟨v49, ee50⟩ : ∃ z : Int32, f1 23 = z := ⟨_, rfl⟩
  have b51 : Bd v49 (0) (12) := (by rw [← ee50]; exact b3.2.2.2.1 23 (by decide))
  obtain ⟨v52, ee53⟩ : ∃ z : Int32, f1 26 = z := ⟨_, rfl⟩
  have b54 : Bd v52 (0) (8) := (by rw [← ee53]; exact b3.2.2.2.2.1 26 (by decide))
  obtain ⟨v55, ee56⟩ : ∃ z : Int32, f1 28 = z := ⟨_, rfl⟩
  have b57 : Bd v55 (0) (3) := (by rw [← ee56]; exact b3.2.2.2.2.2.2.1 28 (by decide))
  obtain ⟨v58, ee59⟩ : ∃ z : Int32, f19 2 = z := ⟨_, rfl⟩
  have b60 : Bd v58 (0) (40000) := (by rw [← ee59]; exact b21 2)
  obtain ⟨v61, ee62⟩ : ∃ z : Int32, f1 31 = z := ⟨_, rfl⟩
  have b63 : Bd v61 (0) (12) := (by rw [← ee62]; exact b3.2.1 31 (by decide))
  obtain ⟨v64, ee65⟩ : ∃ z : Int32, f1 30 = z := ⟨_, rfl⟩
  have b66 : Bd v64 (0) (12) := (by rw [← ee65]; exact b3.1 30 (by decide))
  obtain ⟨v67, ee68⟩ : ∃ z : Int32, f1 33 = z := ⟨_, rfl⟩
  have b69 : Bd v67 (0) (12) := (by rw [← ee68]; exact b3.2.2.2.1 33 (by decide))
  obtain ⟨v70, ee71⟩ : ∃ z : Int32, f1 36 = z := ⟨_, rfl⟩
  have b72 : Bd v70 (0) (8) := (by rw [← ee71]; exact b3.2.2.2.2.1 36 (by decide))
  obtain ⟨v73, ee74⟩ : ∃ z : Int32, f1 38 = z := ⟨_, rfl⟩
  have b75 : Bd v73 (0) (3) := (by rw [← ee74]; exact b3.2.2.2.2.2.2.1 38 (by decide))
  obtain ⟨v76, ee77⟩ : ∃ z : Int32, f19 3 = z := ⟨_, rfl⟩
  have b78 : Bd v76 (0) (40000) := (by rw [← ee77]; exact b21 3)
  have q79 : elm (S 7) 1 = v4.toInt := (elm_of c2 1).trans (congrArg Int32.toInt (ee5))
  have q80 : elm (S 7) 0 = v7.toInt := (elm_of c2 0).trans (congrArg Int32.toInt (ee8))
  have q81 : elm (S 7) 3 = v10.toInt := (elm_of c2 3).trans (congrArg Int32.toInt (ee11))
  have q82 : elm (S 7) 6 = v13.toInt := (elm_of c2 6).trans (congrArg Int32.toInt (ee14))
  have q83 : elm (S 7) 8 = v16.toInt := (elm_of c2 8).trans (congrArg Int32.toInt (ee17))
  have q84 : elm (S 6) 0 = v22.toInt := (elm_of c20 0).trans (congrArg Int32.toInt (ee23))
  have q85 : elm (S 7) 11 = v25.toInt := (elm_of c2 11).trans (congrArg Int32.toInt (ee26))
  have q86 : elm (S 7) 10 = v28.toInt := (elm_of c2 10).trans (congrArg Int32.toInt (ee29))
  have q87 : elm (S 7) 13 = v31.toInt := (elm_of c2 13).trans (congrArg Int32.toInt (ee32))
  have q88 : elm (S 7) 16 = v34.toInt := (elm_of c2 16).trans (congrArg Int32.toInt (ee35))
  have q89 : elm (S 7) 18 = v37.toInt := (elm_of c2 18).trans (congrArg Int32.toInt (ee38))
  have q90 : elm (S 6) 1 = v40.toInt := (elm_of c20 1).trans (congrArg Int32.toInt (ee41))
  have q91 : elm (S 7) 21 = v43.toInt := (elm_of c2 21).trans (congrArg Int32.toInt (ee44))
  have q92 : elm (S 7) 20 = v46.toInt := (elm_of c2 20).trans (congrArg Int32.toInt (ee47))
  have q93 : elm (S 7) 23 = v49.toInt := (elm_of c2 23).trans (congrArg Int32.toInt (ee50))
  have q94 : elm (S 7) 26 = v52.toInt := (elm_of c2 26).trans (congrArg Int32.toInt (ee53))
  have q95 : elm (S 7) 28 = v55.toInt := (elm_of c2 28).trans (congrArg Int32.toInt (ee56))
  have q96 : elm (S 6) 2 = v58.toInt := (elm_of c20 2).trans (congrArg Int32.toInt (ee59))
  have q97 : elm (S 7) 31 = v61.toInt := (elm_of c2 31).trans (congrArg Int32.toInt (ee62))
  have q98 : elm (S 7) 30 = v64.toInt := (elm_of c2 30).trans (congrArg Int32.toInt (ee65))
  have q99 : elm (S 7) 33 = v67.toInt := (elm_of c2 33).trans (congrArg Int32.toInt (ee68))
  have q100 : elm (S 7) 36 = v70.toInt := (elm_of c2 36).trans (congrArg Int32.toInt (ee71))
  have q101 : elm (S 7) 38 = v73.toInt := (elm_of c2 38).trans (congrArg Int32.toInt (ee74))
  have q102 : elm (S 6) 3 = v76.toInt := (elm_of c20 3).trans (congrArg Int32.toInt (ee77))
  obtain ⟨f103, c104, b105⟩ := invM_12 hI
  obtain ⟨f106, c107, b108⟩ := invM_9 hI
  obtain ⟨v109, ee110⟩ : ∃ z : Int32, f1 9 = z := ⟨_, rfl⟩
  have b111 : Bd v109 (0) (40) := (by rw [← ee110]; exact b3.2.2.2.2.2.2.2 9 (by decide))
  obtain ⟨v112, ee113⟩ : ∃ z : Int32, f1 19 = z := ⟨_, rfl⟩
  have b114 : Bd v112 (0) (40) := (by rw [← ee113]; exact b3.2.2.2.2.2.2.2 19 (by decide))
  obtain ⟨v115, ee116⟩ : ∃ z : Int32, f1 29 = z := ⟨_, rfl⟩
  have b117 : Bd v115 (0) (40) := (by rw [← ee116]; exact b3.2.2.2.2.2.2.2 29 (by decide))
  obtain ⟨v118, ee119⟩ : ∃ z : Int32, f1 39 = z := ⟨_, rfl⟩
  have b120 : Bd v118 (0) (40) := (by rw [← ee119]; exact b3.2.2.2.2.2.2.2 39 (by decide))
  refine lv_aload_n hx hb dX12_back_0 rfl (lv_at hl 0 rfl) ?_
  refine lv_iconst (v := 0) hx hb dX12_back_1 (by decide) ?_
  obtain ⟨v121, v122, v124, v126, v128, v129, w130, v131, v133, v134, v135, v136, v138, v140, v142, v144, v146, v147, v148, c149, b123, b125, b127, b132, b137, b139, b141, b143, b145⟩ := invM_0 hI
  have c149 : S 0 = .inr (12, [.int v121, .ref (ad 1), .ref (ad 2), .ref (ad 3), .ref (ad 4), .ref (ad 5), .int v122, .int v124, .int v126, .int v128, .int v129, .long w130, .int v131, .int v133, .int v134, .int v135, .ref (ad 6), .ref (ad 7), .ref (ad 8), .ref (ad 9), .ref (ad 10), .ref (ad 11), .ref (ad 12), .ref (ad 13), .ref (ad 14), .ref (ad 15), .int v136, .int v138, .ref (ad 16), .int v140, .int v142, .int v144, .int v146, .int v147, .ref (ad 17), .ref (ad 18), .int v148, .ref (ad 19)]) := c149
  refine xputi E hs hQ 0 (by decide) c149 rfl 0 (by decide) q1468 rfl rfl (Nat.le_of_ble_eq_true rfl) dX12_back_2 (fun H locs S150 eS150 hQ => ?_)
  have hI := invM_up_0 hI eS150 ⟨0, v122, v124, v126, v128, v129, w130, v131, v133, v134, v135, v136, v138, v140, v142, v144, v146, v147, v148, rfl, b123, b125, b127, b132, b137, b139, b141, b143, b145⟩
  have c151 : S150 0 = .inr (12, [.int 0, .ref (ad 1), .ref (ad 2), .ref (ad 3), .ref (ad 4), .ref (ad 5), .int v122, .int v124, .int v126, .int v128, .int v129, .long w130, .int v131, .int v133, .int v134, .int v135, .ref (ad 6), .ref (ad 7), .ref (ad 8), .ref (ad 9), .ref (ad 10), .ref (ad 11), .ref (ad 12), .ref (ad 13), .ref (ad 14), .ref (ad 15), .int v136, .int v138, .ref (ad 16), .int v140, .int v142, .int v144, .int v146, .int v147, .ref (ad 17), .ref (ad 18), .int v148, .ref (ad 19)]) := up_at eS150 rfl
  refine lv_iload_n hx hb dX12_back_5 rfl (lv_at hl 1 rfl) ?_
  refine lv_i2l hx hb dX12_back_6 rfl ?_
  refine lv_topl (fun w152 e153 => ?_)
  have t154 : w152.toInt = a1.toInt := by rw [e153]; exact i2l_i _
  have b155 : BdL w152 (-2147483648) (2147483647) := (by have h1 := ((ib_full a1)).1; have h2 := ((ib_full a1)).2; exact ⟨by omega, by omega⟩)
  refine lv_lconst (v := 0) hx hb dX12_back_7 (by decide) ?_
  refine lv_ldc2 (v := 2) hx hb E.2.2.1 (E.2.2.2.1 _ q1754) dX12_back_8 ?_
  have q156 : (0 : Int64).toInt = 0 := by decide
  have q157 : (2 : Int64).toInt = 2 := by decide
  refine xcSi E hs hQ hml hl.1 (gX12_in l g ad hD S150 hI w152 0 2) mX12_in q1591 rfl ⟨(Nat.le_of_ble_eq_true rfl), (Nat.le_of_ble_eq_true rfl)⟩ ⟨(Nat.le_of_ble_eq_true rfl), (Nat.le_of_ble_eq_true rfl)⟩ (Nat.le_of_ble_eq_true rfl) rfl dX12_back_11 (fun r158 S158 H locs hp158 hQ => ?_)
  obtain ⟨rfl, b158, g158_0, u158_0⟩ := hp158
  refine lv_if_ne (tgt := 20) hx hb dX12_back_14 (by decide) (fun k159 => ?_) (fun k159 => ?_)
  · have h160 := ib_ne k159
    have b161 : Bd r158 (1) (1) := rf_nlo b158 (by decide : Bd 0 (0) (0)) h160
    have g162 := g158_0.resolve_left (by omega)
    clear g158_0
    have b163 : BdL w152 (0) (2) := ⟨by omega, by omega⟩
    have b164 : Bd a1 (0) (2) := ⟨by omega, by omega⟩
    refine lv_aload_n hx hb dX12_back_20 rfl (lv_at hl 0 rfl) ?_
    refine xget E hQ 0 (by decide) c151 rfl 23 (by decide) q1491 rfl dX12_back_21 ?_
    refine lv_iload_n hx hb dX12_back_24 rfl (lv_at hl 1 rfl) ?_
    obtain ⟨f165, c166, b167⟩ := invM_13 hI
    refine xzald E hQ 13 (by decide) c166 (ib_in b164 (by decide) (by decide)) dX12_back_25 ?_
    refine lv_topi (fun z168 e169 => ?_)
    have b170 : Bd z168 (0) (1) := (by rw [e169]; exact b167 _)
    have el171 : elm (S150 13) a1.toInt.toNat = z168.toInt := elm_ld c166 e169
    refine lv_if_ne (tgt := 32) hx hb dX12_back_26 (by decide) (fun k172 => ?_) (fun k172 => ?_)
    · have h173 := ib_ne k172
      have b174 : Bd z168 (1) (1) := rf_nlo b170 (by decide : Bd 0 (0) (0)) h173
      refine lv_aload_n hx hb dX12_back_32 rfl (lv_at hl 0 rfl) ?_
      refine lv_iconst (v := 1) hx hb dX12_back_33 (by decide) ?_
      refine lv_iload_n hx hb dX12_back_34 rfl (lv_at hl 1 rfl) ?_
      refine lv_iadd hx hb dX12_back_35 ?_
      refine lv_topi (fun z175 e176 => ?_)
      have t177 := ib_add e176 (by decide : Bd 1 (1) (1)) b164 (by decide) (by decide)
      have b178 : Bd z175 (1) (3) := ib_addb t177 (by decide : Bd 1 (1) (1)) b164
      have t177 : z175.toInt = 1 + a1.toInt := fold_add t177 (by decide) rfl
      refine lv_iconst (v := 0) hx hb dX12_back_36 (by decide) ?_
      rcases bd_r13 b178 with h179 | h179 | h179
      · subst h179
        have q180 : (1 : Int32).toInt = 1 := by decide
        have q181 : (0 : Int32).toInt = 0 := by decide
        have c182 : S150 7 = .inl (g.2 0, 50, .inl f1) := (up_ne eS150 (by decide) c2)
        have c183 : S150 6 = .inl (g.2 0, 5, .inl f19) := (up_ne eS150 (by decide) c20)
        refine xcVv E hs hQ hml hl.1 0 (gX12_copyShore_1_0 l g ad hD S150 hI (at_tr hAT0 (up_eq (j := 7) eS150 (by decide)) (up_eq (j := 12) eS150 (by decide))) (at_tr hAT1 (up_eq (j := 7) eS150 (by decide)) (up_eq (j := 12) eS150 (by decide))) (at_tr hAT2 (up_eq (j := 7) eS150 (by decide)) (up_eq (j := 12) eS150 (by decide))) (at_tr hAT3 (up_eq (j := 7) eS150 (by decide)) (up_eq (j := 12) eS150 (by decide))) (ht_tr hHT0 (up_eq (j := 7) eS150 (by decide)) (up_eq (j := 9) eS150 (by decide))) (ht_tr hHT1 (up_eq (j := 7) eS150 (by decide)) (up_eq (j := 9) eS150 (by decide))) (ht_tr hHT2 (up_eq (j := 7) eS150 (by decide)) (up_eq (j := 9) eS150 (by decide))) (ht_tr hHT3 (up_eq (j := 7) eS150 (by decide)) (up_eq (j := 9) eS150 (by decide)))) mX12_copyShore q1739 (by decide) c151 rfl rfl ⟨(Nat.le_of_ble_eq_true rfl), (Nat.le_of_ble_eq_true rfl)⟩ ⟨(Nat.le_of_ble_eq_true rfl), (Nat.le_of_ble_eq_true rfl)⟩ (Nat.le_of_ble_eq_true rfl) rfl dX12_back_37 (fun S184 H locs hp184 hQ _ => ?_)
        obtain ⟨hI, o184, g184_0, g184_1, g184_2, g184_3, g184_4, g184_5, g184_6, g184_7, g184_8, g184_9, g184_10, g184_11, g184_12, g184_13, g184_14, g184_15, g184_16, g184_17, g184_18, g184_19, g184_20, g184_21, g184_22, g184_23, g184_24, g184_25, g184_26, g184_27, u184_0, u184_1, u184_2, u184_3, u184_4, u184_5, u184_6, u184_7⟩ := hp184
        have q185 : elm (S150 7) 10 = v28.toInt := (elm_of c182 10).trans (congrArg Int32.toInt (ee29))
        obtain ⟨f186, c187, b188⟩ := invM_7 hI
        obtain ⟨v189, ee190⟩ : ∃ z : Int32, f186 0 = z := ⟨_, rfl⟩
        have b191 : Bd v189 (0) (12) := (by rw [← ee190]; exact b188.1 0 (by decide))
        have q192 : elm (S184 7) 0 = v189.toInt := (elm_of c187 0).trans (congrArg Int32.toInt (ee190))
        have q193 : elm (S150 7) 11 = v25.toInt := (elm_of c182 11).trans (congrArg Int32.toInt (ee26))
        obtain ⟨v194, ee195⟩ : ∃ z : Int32, f186 1 = z := ⟨_, rfl⟩
        have b196 : Bd v194 (0) (12) := (by rw [← ee195]; exact b188.2.1 1 (by decide))
        have q197 : elm (S184 7) 1 = v194.toInt := (elm_of c187 1).trans (congrArg Int32.toInt (ee195))
        have q198 : elm (S150 7) 13 = v31.toInt := (elm_of c182 13).trans (congrArg Int32.toInt (ee32))
        obtain ⟨v199, ee200⟩ : ∃ z : Int32, f186 3 = z := ⟨_, rfl⟩
        have b201 : Bd v199 (0) (12) := (by rw [← ee200]; exact b188.2.2.2.1 3 (by decide))
        have q202 : elm (S184 7) 3 = v199.toInt := (elm_of c187 3).trans (congrArg Int32.toInt (ee200))
        have q203 : elm (S150 7) 16 = v34.toInt := (elm_of c182 16).trans (congrArg Int32.toInt (ee35))
        obtain ⟨v204, ee205⟩ : ∃ z : Int32, f186 6 = z := ⟨_, rfl⟩
        have b206 : Bd v204 (0) (8) := (by rw [← ee205]; exact b188.2.2.2.2.1 6 (by decide))
        have q207 : elm (S184 7) 6 = v204.toInt := (elm_of c187 6).trans (congrArg Int32.toInt (ee205))
        have q208 : elm (S150 7) 18 = v37.toInt := (elm_of c182 18).trans (congrArg Int32.toInt (ee38))
        obtain ⟨v209, ee210⟩ : ∃ z : Int32, f186 8 = z := ⟨_, rfl⟩
        have b211 : Bd v209 (0) (3) := (by rw [← ee210]; exact b188.2.2.2.2.2.2.1 8 (by decide))
        have q212 : elm (S184 7) 8 = v209.toInt := (elm_of c187 8).trans (congrArg Int32.toInt (ee210))
        have q213 : elm (S150 7) 19 = v112.toInt := (elm_of c182 19).trans (congrArg Int32.toInt (ee113))
        obtain ⟨v214, ee215⟩ : ∃ z : Int32, f186 9 = z := ⟨_, rfl⟩
        have b216 : Bd v214 (0) (40) := (by rw [← ee215]; exact b188.2.2.2.2.2.2.2 9 (by decide))
        have q217 : elm (S184 7) 9 = v214.toInt := (elm_of c187 9).trans (congrArg Int32.toInt (ee215))
        obtain ⟨v218, ee219⟩ : ∃ z : Int32, f186 10 = z := ⟨_, rfl⟩
        have b220 : Bd v218 (0) (12) := (by rw [← ee219]; exact b188.1 10 (by decide))
        have q221 : elm (S184 7) 10 = v218.toInt := (elm_of c187 10).trans (congrArg Int32.toInt (ee219))
        obtain ⟨v222, ee223⟩ : ∃ z : Int32, f186 11 = z := ⟨_, rfl⟩
        have b224 : Bd v222 (0) (12) := (by rw [← ee223]; exact b188.2.1 11 (by decide))
        have q225 : elm (S184 7) 11 = v222.toInt := (elm_of c187 11).trans (congrArg Int32.toInt (ee223))
        obtain ⟨v226, ee227⟩ : ∃ z : Int32, f186 13 = z := ⟨_, rfl⟩
        have b228 : Bd v226 (0) (12) := (by rw [← ee227]; exact b188.2.2.2.1 13 (by decide))
        have q229 : elm (S184 7) 13 = v226.toInt := (elm_of c187 13).trans (congrArg Int32.toInt (ee227))
        obtain ⟨v230, ee231⟩ : ∃ z : Int32, f186 16 = z := ⟨_, rfl⟩
        have b232 : Bd v230 (0) (8) := (by rw [← ee231]; exact b188.2.2.2.2.1 16 (by decide))
        have q233 : elm (S184 7) 16 = v230.toInt := (elm_of c187 16).trans (congrArg Int32.toInt (ee231))
        obtain ⟨v234, ee235⟩ : ∃ z : Int32, f186 18 = z := ⟨_, rfl⟩
        have b236 : Bd v234 (0) (3) := (by rw [← ee235]; exact b188.2.2.2.2.2.2.1 18 (by decide))
        have q237 : elm (S184 7) 18 = v234.toInt := (elm_of c187 18).trans (congrArg Int32.toInt (ee235))
        obtain ⟨v238, ee239⟩ : ∃ z : Int32, f186 19 = z := ⟨_, rfl⟩
        have b240 : Bd v238 (0) (40) := (by rw [← ee239]; exact b188.2.2.2.2.2.2.2 19 (by decide))
        have q241 : elm (S184 7) 19 = v238.toInt := (elm_of c187 19).trans (congrArg Int32.toInt (ee239))
        have q242 : elm (S150 7) 20 = v46.toInt := (elm_of c182 20).trans (congrArg Int32.toInt (ee47))
        obtain ⟨v243, ee244⟩ : ∃ z : Int32, f186 20 = z := ⟨_, rfl⟩
        have b245 : Bd v243 (0) (12) := (by rw [← ee244]; exact b188.1 20 (by decide))
        have q246 : elm (S184 7) 20 = v243.toInt := (elm_of c187 20).trans (congrArg Int32.toInt (ee244))
        have q247 : elm (S150 7) 21 = v43.toInt := (elm_of c182 21).trans (congrArg Int32.toInt (ee44))
        obtain ⟨v248, ee249⟩ : ∃ z : Int32, f186 21 = z := ⟨_, rfl⟩
        have b250 : Bd v248 (0) (12) := (by rw [← ee249]; exact b188.2.1 21 (by decide))
        have q251 : elm (S184 7) 21 = v248.toInt := (elm_of c187 21).trans (congrArg Int32.toInt (ee249))
        have q252 : elm (S150 7) 23 = v49.toInt := (elm_of c182 23).trans (congrArg Int32.toInt (ee50))
        obtain ⟨v253, ee254⟩ : ∃ z : Int32, f186 23 = z := ⟨_, rfl⟩
        have b255 : Bd v253 (0) (12) := (by rw [← ee254]; exact b188.2.2.2.1 23 (by decide))
        have q256 : elm (S184 7) 23 = v253.toInt := (elm_of c187 23).trans (congrArg Int32.toInt (ee254))
        have q257 : elm (S150 7) 26 = v52.toInt := (elm_of c182 26).trans (congrArg Int32.toInt (ee53))
        obtain ⟨v258, ee259⟩ : ∃ z : Int32, f186 26 = z := ⟨_, rfl⟩
        have b260 : Bd v258 (0) (8) := (by rw [← ee259]; exact b188.2.2.2.2.1 26 (by decide))
        have q261 : elm (S184 7) 26 = v258.toInt := (elm_of c187 26).trans (congrArg Int32.toInt (ee259))
        have q262 : elm (S150 7) 28 = v55.toInt := (elm_of c182 28).trans (congrArg Int32.toInt (ee56))
        obtain ⟨v263, ee264⟩ : ∃ z : Int32, f186 28 = z := ⟨_, rfl⟩
        have b265 : Bd v263 (0) (3) := (by rw [← ee264]; exact b188.2.2.2.2.2.2.1 28 (by decide))
        have q266 : elm (S184 7) 28 = v263.toInt := (elm_of c187 28).trans (congrArg Int32.toInt (ee264))
        have q267 : elm (S150 7) 29 = v115.toInt := (elm_of c182 29).trans (congrArg Int32.toInt (ee116))
        obtain ⟨v268, ee269⟩ : ∃ z : Int32, f186 29 = z := ⟨_, rfl⟩
        have b270 : Bd v268 (0) (40) := (by rw [← ee269]; exact b188.2.2.2.2.2.2.2 29 (by decide))
        have q271 : elm (S184 7) 29 = v268.toInt := (elm_of c187 29).trans (congrArg Int32.toInt (ee269))
        have q272 : elm (S150 7) 30 = v64.toInt := (elm_of c182 30).trans (congrArg Int32.toInt (ee65))
        obtain ⟨v273, ee274⟩ : ∃ z : Int32, f186 30 = z := ⟨_, rfl⟩
        have b275 : Bd v273 (0) (12) := (by rw [← ee274]; exact b188.1 30 (by decide))
        have q276 : elm (S184 7) 30 = v273.toInt := (elm_of c187 30).trans (congrArg Int32.toInt (ee274))
        have q277 : elm (S150 7) 31 = v61.toInt := (elm_of c182 31).trans (congrArg Int32.toInt (ee62))
        obtain ⟨v278, ee279⟩ : ∃ z : Int32, f186 31 = z := ⟨_, rfl⟩
        have b280 : Bd v278 (0) (12) := (by rw [← ee279]; exact b188.2.1 31 (by decide))
        have q281 : elm (S184 7) 31 = v278.toInt := (elm_of c187 31).trans (congrArg Int32.toInt (ee279))
        have q282 : elm (S150 7) 33 = v67.toInt := (elm_of c182 33).trans (congrArg Int32.toInt (ee68))
        obtain ⟨v283, ee284⟩ : ∃ z : Int32, f186 33 = z := ⟨_, rfl⟩
        have b285 : Bd v283 (0) (12) := (by rw [← ee284]; exact b188.2.2.2.1 33 (by decide))
        have q286 : elm (S184 7) 33 = v283.toInt := (elm_of c187 33).trans (congrArg Int32.toInt (ee284))
        have q287 : elm (S150 7) 36 = v70.toInt := (elm_of c182 36).trans (congrArg Int32.toInt (ee71))
        obtain ⟨v288, ee289⟩ : ∃ z : Int32, f186 36 = z := ⟨_, rfl⟩
        have b290 : Bd v288 (0) (8) := (by rw [← ee289]; exact b188.2.2.2.2.1 36 (by decide))
        have q291 : elm (S184 7) 36 = v288.toInt := (elm_of c187 36).trans (congrArg Int32.toInt (ee289))
        have q292 : elm (S150 7) 38 = v73.toInt := (elm_of c182 38).trans (congrArg Int32.toInt (ee74))
        obtain ⟨v293, ee294⟩ : ∃ z : Int32, f186 38 = z := ⟨_, rfl⟩
        have b295 : Bd v293 (0) (3) := (by rw [← ee294]; exact b188.2.2.2.2.2.2.1 38 (by decide))
        have q296 : elm (S184 7) 38 = v293.toInt := (elm_of c187 38).trans (congrArg Int32.toInt (ee294))
        have q297 : elm (S150 7) 39 = v118.toInt := (elm_of c182 39).trans (congrArg Int32.toInt (ee119))
        obtain ⟨v298, ee299⟩ : ∃ z : Int32, f186 39 = z := ⟨_, rfl⟩
        have b300 : Bd v298 (0) (40) := (by rw [← ee299]; exact b188.2.2.2.2.2.2.2 39 (by decide))
        have q301 : elm (S184 7) 39 = v298.toInt := (elm_of c187 39).trans (congrArg Int32.toInt (ee299))
        have q302 : elm (S150 6) 1 = v40.toInt := (elm_of c183 1).trans (congrArg Int32.toInt (ee41))
        obtain ⟨f303, c304, b305⟩ := invM_6 hI
        obtain ⟨v306, ee307⟩ : ∃ z : Int32, f303 0 = z := ⟨_, rfl⟩
        have b308 : Bd v306 (0) (40000) := (by rw [← ee307]; exact b305 0)
        have q309 : elm (S184 6) 0 = v306.toInt := (elm_of c304 0).trans (congrArg Int32.toInt (ee307))
        obtain ⟨v310, ee311⟩ : ∃ z : Int32, f303 1 = z := ⟨_, rfl⟩
        have b312 : Bd v310 (0) (40000) := (by rw [← ee311]; exact b305 1)
        have q313 : elm (S184 6) 1 = v310.toInt := (elm_of c304 1).trans (congrArg Int32.toInt (ee311))
        have q314 : elm (S150 6) 2 = v58.toInt := (elm_of c183 2).trans (congrArg Int32.toInt (ee59))
        obtain ⟨v315, ee316⟩ : ∃ z : Int32, f303 2 = z := ⟨_, rfl⟩
        have b317 : Bd v315 (0) (40000) := (by rw [← ee316]; exact b305 2)
        have q318 : elm (S184 6) 2 = v315.toInt := (elm_of c304 2).trans (congrArg Int32.toInt (ee316))
        have q319 : elm (S150 6) 3 = v76.toInt := (elm_of c183 3).trans (congrArg Int32.toInt (ee77))
        obtain ⟨v320, ee321⟩ : ∃ z : Int32, f303 3 = z := ⟨_, rfl⟩
        have b322 : Bd v320 (0) (40000) := (by rw [← ee321]; exact b305 3)
        have q323 : elm (S184 6) 3 = v320.toInt := (elm_of c304 3).trans (congrArg Int32.toInt (ee321))
        refine lv_iconst (v := 0) hx hb dX12_back_40 (by decide) ?_
        exact xri E hr hlk hQ (⟨hI, (o_trans (up_o o_refl eS150 (by decide)) o184 (by decide)), (ib_wk (by decide : Bd 0 (0) (0)) (by decide) (by decide)), (by omega), (by omega), (by omega), (by omega), (by omega), (by omega), (by omega), (by omega), (by omega), (by omega), (by omega), (by omega), (by omega), (by omega), (by omega), (by omega), (by omega), (by omega), (by omega), (by omega), u184_0, u184_1, u184_2, u184_3, u184_4, u184_5, u184_6, u184_7, (by have h1 := u158_0; unfold InP at h1; have e1 := ((congrArg (fun e => elm e a1.toInt.toNat) (up_eq (j := 13) eS150 (by decide))).symm.trans el171); unfold ansBk; rw [if_neg (by omega), if_neg (by omega)])⟩) dX12_back_41
      · subst h179
        have q324 : (2 : Int32).toInt = 2 := by decide
        have q325 : (0 : Int32).toInt = 0 := by decide
        have c326 : S150 7 = .inl (g.2 0, 50, .inl f1) := (up_ne eS150 (by decide) c2)
        have c327 : S150 6 = .inl (g.2 0, 5, .inl f19) := (up_ne eS150 (by decide) c20)
        refine xcVv E hs hQ hml hl.1 0 (gX12_copyShore_2_0 l g ad hD S150 hI (at_tr hAT0 (up_eq (j := 7) eS150 (by decide)) (up_eq (j := 12) eS150 (by decide))) (at_tr hAT1 (up_eq (j := 7) eS150 (by decide)) (up_eq (j := 12) eS150 (by decide))) (at_tr hAT2 (up_eq (j := 7) eS150 (by decide)) (up_eq (j := 12) eS150 (by decide))) (at_tr hAT3 (up_eq (j := 7) eS150 (by decide)) (up_eq (j := 12) eS150 (by decide))) (ht_tr hHT0 (up_eq (j := 7) eS150 (by decide)) (up_eq (j := 9) eS150 (by decide))) (ht_tr hHT1 (up_eq (j := 7) eS150 (by decide)) (up_eq (j := 9) eS150 (by decide))) (ht_tr hHT2 (up_eq (j := 7) eS150 (by decide)) (up_eq (j := 9) eS150 (by decide))) (ht_tr hHT3 (up_eq (j := 7) eS150 (by decide)) (up_eq (j := 9) eS150 (by decide)))) mX12_copyShore q1739 (by decide) c151 rfl rfl ⟨(Nat.le_of_ble_eq_true rfl), (Nat.le_of_ble_eq_true rfl)⟩ ⟨(Nat.le_of_ble_eq_true rfl), (Nat.le_of_ble_eq_true rfl)⟩ (Nat.le_of_ble_eq_true rfl) rfl dX12_back_37 (fun S328 H locs hp328 hQ _ => ?_)
        obtain ⟨hI, o328, g328_0, g328_1, g328_2, g328_3, g328_4, g328_5, g328_6, g328_7, g328_8, g328_9, g328_10, g328_11, g328_12, g328_13, g328_14, g328_15, g328_16, g328_17, g328_18, g328_19, g328_20, g328_21, g328_22, g328_23, g328_24, g328_25, g328_26, g328_27, u328_0, u328_1, u328_2, u328_3, u328_4, u328_5, u328_6, u328_7⟩ := hp328
        have q329 : elm (S150 7) 20 = v46.toInt := (elm_of c326 20).trans (congrArg Int32.toInt (ee47))
        obtain ⟨f330, c331, b332⟩ := invM_7 hI
        obtain ⟨v333, ee334⟩ : ∃ z : Int32, f330 0 = z := ⟨_, rfl⟩
        have b335 : Bd v333 (0) (12) := (by rw [← ee334]; exact b332.1 0 (by decide))
        have q336 : elm (S328 7) 0 = v333.toInt := (elm_of c331 0).trans (congrArg Int32.toInt (ee334))
        have q337 : elm (S150 7) 21 = v43.toInt := (elm_of c326 21).trans (congrArg Int32.toInt (ee44))
        obtain ⟨v338, ee339⟩ : ∃ z : Int32, f330 1 = z := ⟨_, rfl⟩
        have b340 : Bd v338 (0) (12) := (by rw [← ee339]; exact b332.2.1 1 (by decide))
        have q341 : elm (S328 7) 1 = v338.toInt := (elm_of c331 1).trans (congrArg Int32.toInt (ee339))
        have q342 : elm (S150 7) 23 = v49.toInt := (elm_of c326 23).trans (congrArg Int32.toInt (ee50))
        obtain ⟨v343, ee344⟩ : ∃ z : Int32, f330 3 = z := ⟨_, rfl⟩
        have b345 : Bd v343 (0) (12) := (by rw [← ee344]; exact b332.2.2.2.1 3 (by decide))
        have q346 : elm (S328 7) 3 = v343.toInt := (elm_of c331 3).trans (congrArg Int32.toInt (ee344))
        have q347 : elm (S150 7) 26 = v52.toInt := (elm_of c326 26).trans (congrArg Int32.toInt (ee53))
        obtain ⟨v348, ee349⟩ : ∃ z : Int32, f330 6 = z := ⟨_, rfl⟩
        have b350 : Bd v348 (0) (8) := (by rw [← ee349]; exact b332.2.2.2.2.1 6 (by decide))
        have q351 : elm (S328 7) 6 = v348.toInt := (elm_of c331 6).trans (congrArg Int32.toInt (ee349))
        have q352 : elm (S150 7) 28 = v55.toInt := (elm_of c326 28).trans (congrArg Int32.toInt (ee56))
        obtain ⟨v353, ee354⟩ : ∃ z : Int32, f330 8 = z := ⟨_, rfl⟩
        have b355 : Bd v353 (0) (3) := (by rw [← ee354]; exact b332.2.2.2.2.2.2.1 8 (by decide))
        have q356 : elm (S328 7) 8 = v353.toInt := (elm_of c331 8).trans (congrArg Int32.toInt (ee354))
        have q357 : elm (S150 7) 29 = v115.toInt := (elm_of c326 29).trans (congrArg Int32.toInt (ee116))
        obtain ⟨v358, ee359⟩ : ∃ z : Int32, f330 9 = z := ⟨_, rfl⟩
        have b360 : Bd v358 (0) (40) := (by rw [← ee359]; exact b332.2.2.2.2.2.2.2 9 (by decide))
        have q361 : elm (S328 7) 9 = v358.toInt := (elm_of c331 9).trans (congrArg Int32.toInt (ee359))
        have q362 : elm (S150 7) 10 = v28.toInt := (elm_of c326 10).trans (congrArg Int32.toInt (ee29))
        obtain ⟨v363, ee364⟩ : ∃ z : Int32, f330 10 = z := ⟨_, rfl⟩
        have b365 : Bd v363 (0) (12) := (by rw [← ee364]; exact b332.1 10 (by decide))
        have q366 : elm (S328 7) 10 = v363.toInt := (elm_of c331 10).trans (congrArg Int32.toInt (ee364))
        have q367 : elm (S150 7) 11 = v25.toInt := (elm_of c326 11).trans (congrArg Int32.toInt (ee26))
        obtain ⟨v368, ee369⟩ : ∃ z : Int32, f330 11 = z := ⟨_, rfl⟩
        have b370 : Bd v368 (0) (12) := (by rw [← ee369]; exact b332.2.1 11 (by decide))
        have q371 : elm (S328 7) 11 = v368.toInt := (elm_of c331 11).trans (congrArg Int32.toInt (ee369))
        have q372 : elm (S150 7) 13 = v31.toInt := (elm_of c326 13).trans (congrArg Int32.toInt (ee32))
        obtain ⟨v373, ee374⟩ : ∃ z : Int32, f330 13 = z := ⟨_, rfl⟩
        have b375 : Bd v373 (0) (12) := (by rw [← ee374]; exact b332.2.2.2.1 13 (by decide))
        have q376 : elm (S328 7) 13 = v373.toInt := (elm_of c331 13).trans (congrArg Int32.toInt (ee374))
        have q377 : elm (S150 7) 16 = v34.toInt := (elm_of c326 16).trans (congrArg Int32.toInt (ee35))
        obtain ⟨v378, ee379⟩ : ∃ z : Int32, f330 16 = z := ⟨_, rfl⟩
        have b380 : Bd v378 (0) (8) := (by rw [← ee379]; exact b332.2.2.2.2.1 16 (by decide))
        have q381 : elm (S328 7) 16 = v378.toInt := (elm_of c331 16).trans (congrArg Int32.toInt (ee379))
        have q382 : elm (S150 7) 18 = v37.toInt := (elm_of c326 18).trans (congrArg Int32.toInt (ee38))
        obtain ⟨v383, ee384⟩ : ∃ z : Int32, f330 18 = z := ⟨_, rfl⟩
        have b385 : Bd v383 (0) (3) := (by rw [← ee384]; exact b332.2.2.2.2.2.2.1 18 (by decide))
        have q386 : elm (S328 7) 18 = v383.toInt := (elm_of c331 18).trans (congrArg Int32.toInt (ee384))
        have q387 : elm (S150 7) 19 = v112.toInt := (elm_of c326 19).trans (congrArg Int32.toInt (ee113))
        obtain ⟨v388, ee389⟩ : ∃ z : Int32, f330 19 = z := ⟨_, rfl⟩
        have b390 : Bd v388 (0) (40) := (by rw [← ee389]; exact b332.2.2.2.2.2.2.2 19 (by decide))
        have q391 : elm (S328 7) 19 = v388.toInt := (elm_of c331 19).trans (congrArg Int32.toInt (ee389))
        obtain ⟨v392, ee393⟩ : ∃ z : Int32, f330 20 = z := ⟨_, rfl⟩
        have b394 : Bd v392 (0) (12) := (by rw [← ee393]; exact b332.1 20 (by decide))
        have q395 : elm (S328 7) 20 = v392.toInt := (elm_of c331 20).trans (congrArg Int32.toInt (ee393))
        obtain ⟨v396, ee397⟩ : ∃ z : Int32, f330 21 = z := ⟨_, rfl⟩
        have b398 : Bd v396 (0) (12) := (by rw [← ee397]; exact b332.2.1 21 (by decide))
        have q399 : elm (S328 7) 21 = v396.toInt := (elm_of c331 21).trans (congrArg Int32.toInt (ee397))
        obtain ⟨v400, ee401⟩ : ∃ z : Int32, f330 23 = z := ⟨_, rfl⟩
        have b402 : Bd v400 (0) (12) := (by rw [← ee401]; exact b332.2.2.2.1 23 (by decide))
        have q403 : elm (S328 7) 23 = v400.toInt := (elm_of c331 23).trans (congrArg Int32.toInt (ee401))
        obtain ⟨v404, ee405⟩ : ∃ z : Int32, f330 26 = z := ⟨_, rfl⟩
        have b406 : Bd v404 (0) (8) := (by rw [← ee405]; exact b332.2.2.2.2.1 26 (by decide))
        have q407 : elm (S328 7) 26 = v404.toInt := (elm_of c331 26).trans (congrArg Int32.toInt (ee405))
        obtain ⟨v408, ee409⟩ : ∃ z : Int32, f330 28 = z := ⟨_, rfl⟩
        have b410 : Bd v408 (0) (3) := (by rw [← ee409]; exact b332.2.2.2.2.2.2.1 28 (by decide))
        have q411 : elm (S328 7) 28 = v408.toInt := (elm_of c331 28).trans (congrArg Int32.toInt (ee409))
        obtain ⟨v412, ee413⟩ : ∃ z : Int32, f330 29 = z := ⟨_, rfl⟩
        have b414 : Bd v412 (0) (40) := (by rw [← ee413]; exact b332.2.2.2.2.2.2.2 29 (by decide))
        have q415 : elm (S328 7) 29 = v412.toInt := (elm_of c331 29).trans (congrArg Int32.toInt (ee413))
        have q416 : elm (S150 7) 30 = v64.toInt := (elm_of c326 30).trans (congrArg Int32.toInt (ee65))
        obtain ⟨v417, ee418⟩ : ∃ z : Int32, f330 30 = z := ⟨_, rfl⟩
        have b419 : Bd v417 (0) (12) := (by rw [← ee418]; exact b332.1 30 (by decide))
        have q420 : elm (S328 7) 30 = v417.toInt := (elm_of c331 30).trans (congrArg Int32.toInt (ee418))
        have q421 : elm (S150 7) 31 = v61.toInt := (elm_of c326 31).trans (congrArg Int32.toInt (ee62))
        obtain ⟨v422, ee423⟩ : ∃ z : Int32, f330 31 = z := ⟨_, rfl⟩
        have b424 : Bd v422 (0) (12) := (by rw [← ee423]; exact b332.2.1 31 (by decide))
        have q425 : elm (S328 7) 31 = v422.toInt := (elm_of c331 31).trans (congrArg Int32.toInt (ee423))
        have q426 : elm (S150 7) 33 = v67.toInt := (elm_of c326 33).trans (congrArg Int32.toInt (ee68))
        obtain ⟨v427, ee428⟩ : ∃ z : Int32, f330 33 = z := ⟨_, rfl⟩
        have b429 : Bd v427 (0) (12) := (by rw [← ee428]; exact b332.2.2.2.1 33 (by decide))
        have q430 : elm (S328 7) 33 = v427.toInt := (elm_of c331 33).trans (congrArg Int32.toInt (ee428))
        have q431 : elm (S150 7) 36 = v70.toInt := (elm_of c326 36).trans (congrArg Int32.toInt (ee71))
        obtain ⟨v432, ee433⟩ : ∃ z : Int32, f330 36 = z := ⟨_, rfl⟩
        have b434 : Bd v432 (0) (8) := (by rw [← ee433]; exact b332.2.2.2.2.1 36 (by decide))
        have q435 : elm (S328 7) 36 = v432.toInt := (elm_of c331 36).trans (congrArg Int32.toInt (ee433))
        have q436 : elm (S150 7) 38 = v73.toInt := (elm_of c326 38).trans (congrArg Int32.toInt (ee74))
        obtain ⟨v437, ee438⟩ : ∃ z : Int32, f330 38 = z := ⟨_, rfl⟩
        have b439 : Bd v437 (0) (3) := (by rw [← ee438]; exact b332.2.2.2.2.2.2.1 38 (by decide))
        have q440 : elm (S328 7) 38 = v437.toInt := (elm_of c331 38).trans (congrArg Int32.toInt (ee438))
        have q441 : elm (S150 7) 39 = v118.toInt := (elm_of c326 39).trans (congrArg Int32.toInt (ee119))
        obtain ⟨v442, ee443⟩ : ∃ z : Int32, f330 39 = z := ⟨_, rfl⟩
        have b444 : Bd v442 (0) (40) := (by rw [← ee443]; exact b332.2.2.2.2.2.2.2 39 (by decide))
        have q445 : elm (S328 7) 39 = v442.toInt := (elm_of c331 39).trans (congrArg Int32.toInt (ee443))
        have q446 : elm (S150 6) 2 = v58.toInt := (elm_of c327 2).trans (congrArg Int32.toInt (ee59))
        obtain ⟨f447, c448, b449⟩ := invM_6 hI
        obtain ⟨v450, ee451⟩ : ∃ z : Int32, f447 0 = z := ⟨_, rfl⟩
        have b452 : Bd v450 (0) (40000) := (by rw [← ee451]; exact b449 0)
        have q453 : elm (S328 6) 0 = v450.toInt := (elm_of c448 0).trans (congrArg Int32.toInt (ee451))
        have q454 : elm (S150 6) 1 = v40.toInt := (elm_of c327 1).trans (congrArg Int32.toInt (ee41))
        obtain ⟨v455, ee456⟩ : ∃ z : Int32, f447 1 = z := ⟨_, rfl⟩
        have b457 : Bd v455 (0) (40000) := (by rw [← ee456]; exact b449 1)
        have q458 : elm (S328 6) 1 = v455.toInt := (elm_of c448 1).trans (congrArg Int32.toInt (ee456))
        obtain ⟨v459, ee460⟩ : ∃ z : Int32, f447 2 = z := ⟨_, rfl⟩
        have b461 : Bd v459 (0) (40000) := (by rw [← ee460]; exact b449 2)
        have q462 : elm (S328 6) 2 = v459.toInt := (elm_of c448 2).trans (congrArg Int32.toInt (ee460))
        have q463 : elm (S150 6) 3 = v76.toInt := (elm_of c327 3).trans (congrArg Int32.toInt (ee77))
        obtain ⟨v464, ee465⟩ : ∃ z : Int32, f447 3 = z := ⟨_, rfl⟩
        have b466 : Bd v464 (0) (40000) := (by rw [← ee465]; exact b449 3)
        have q467 : elm (S328 6) 3 = v464.toInt := (elm_of c448 3).trans (congrArg Int32.toInt (ee465))
        refine lv_iconst (v := 0) hx hb dX12_back_40 (by decide) ?_
        exact xri E hr hlk hQ (⟨hI, (o_trans (up_o o_refl eS150 (by decide)) o328 (by decide)), (ib_wk (by decide : Bd 0 (0) (0)) (by decide) (by decide)), (by omega), (by omega), (by omega), (by omega), (by omega), (by omega), (by omega), (by omega), (by omega), (by omega), (by omega), (by omega), (by omega), (by omega), (by omega), (by omega), (by omega), (by omega), (by omega), (by omega), u328_0, u328_1, u328_2, u328_3, u328_4, u328_5, u328_6, u328_7, (by have h1 := u158_0; unfold InP at h1; have e1 := ((congrArg (fun e => elm e a1.toInt.toNat) (up_eq (j := 13) eS150 (by decide))).symm.trans el171); unfold ansBk; rw [if_neg (by omega), if_neg (by omega)])⟩) dX12_back_41
      · subst h179
        have q468 : (3 : Int32).toInt = 3 := by decide
        have q469 : (0 : Int32).toInt = 0 := by decide
        have c470 : S150 7 = .inl (g.2 0, 50, .inl f1) := (up_ne eS150 (by decide) c2)
        have c471 : S150 6 = .inl (g.2 0, 5, .inl f19) := (up_ne eS150 (by decide) c20)
        refine xcVv E hs hQ hml hl.1 0 (gX12_copyShore_3_0 l g ad hD S150 hI (at_tr hAT0 (up_eq (j := 7) eS150 (by decide)) (up_eq (j := 12) eS150 (by decide))) (at_tr hAT1 (up_eq (j := 7) eS150 (by decide)) (up_eq (j := 12) eS150 (by decide))) (at_tr hAT2 (up_eq (j := 7) eS150 (by decide)) (up_eq (j := 12) eS150 (by decide))) (at_tr hAT3 (up_eq (j := 7) eS150 (by decide)) (up_eq (j := 12) eS150 (by decide))) (ht_tr hHT0 (up_eq (j := 7) eS150 (by decide)) (up_eq (j := 9) eS150 (by decide))) (ht_tr hHT1 (up_eq (j := 7) eS150 (by decide)) (up_eq (j := 9) eS150 (by decide))) (ht_tr hHT2 (up_eq (j := 7) eS150 (by decide)) (up_eq (j := 9) eS150 (by decide))) (ht_tr hHT3 (up_eq (j := 7) eS150 (by decide)) (up_eq (j := 9) eS150 (by decide)))) mX12_copyShore q1739 (by decide) c151 rfl rfl ⟨(Nat.le_of_ble_eq_true rfl), (Nat.le_of_ble_eq_true rfl)⟩ ⟨(Nat.le_of_ble_eq_true rfl), (Nat.le_of_ble_eq_true rfl)⟩ (Nat.le_of_ble_eq_true rfl) rfl dX12_back_37 (fun S472 H locs hp472 hQ _ => ?_)
        obtain ⟨hI, o472, g472_0, g472_1, g472_2, g472_3, g472_4, g472_5, g472_6, g472_7, g472_8, g472_9, g472_10, g472_11, g472_12, g472_13, g472_14, g472_15, g472_16, g472_17, g472_18, g472_19, g472_20, g472_21, g472_22, g472_23, g472_24, g472_25, g472_26, g472_27, u472_0, u472_1, u472_2, u472_3, u472_4, u472_5, u472_6, u472_7⟩ := hp472
        have q473 : elm (S150 7) 30 = v64.toInt := (elm_of c470 30).trans (congrArg Int32.toInt (ee65))
        obtain ⟨f474, c475, b476⟩ := invM_7 hI
        obtain ⟨v477, ee478⟩ : ∃ z : Int32, f474 0 = z := ⟨_, rfl⟩
        have b479 : Bd v477 (0) (12) := (by rw [← ee478]; exact b476.1 0 (by decide))
        have q480 : elm (S472 7) 0 = v477.toInt := (elm_of c475 0).trans (congrArg Int32.toInt (ee478))
        have q481 : elm (S150 7) 31 = v61.toInt := (elm_of c470 31).trans (congrArg Int32.toInt (ee62))
        obtain ⟨v482, ee483⟩ : ∃ z : Int32, f474 1 = z := ⟨_, rfl⟩
        have b484 : Bd v482 (0) (12) := (by rw [← ee483]; exact b476.2.1 1 (by decide))
        have q485 : elm (S472 7) 1 = v482.toInt := (elm_of c475 1).trans (congrArg Int32.toInt (ee483))
        have q486 : elm (S150 7) 33 = v67.toInt := (elm_of c470 33).trans (congrArg Int32.toInt (ee68))
        obtain ⟨v487, ee488⟩ : ∃ z : Int32, f474 3 = z := ⟨_, rfl⟩
        have b489 : Bd v487 (0) (12) := (by rw [← ee488]; exact b476.2.2.2.1 3 (by decide))
        have q490 : elm (S472 7) 3 = v487.toInt := (elm_of c475 3).trans (congrArg Int32.toInt (ee488))
        have q491 : elm (S150 7) 36 = v70.toInt := (elm_of c470 36).trans (congrArg Int32.toInt (ee71))
        obtain ⟨v492, ee493⟩ : ∃ z : Int32, f474 6 = z := ⟨_, rfl⟩
        have b494 : Bd v492 (0) (8) := (by rw [← ee493]; exact b476.2.2.2.2.1 6 (by decide))
        have q495 : elm (S472 7) 6 = v492.toInt := (elm_of c475 6).trans (congrArg Int32.toInt (ee493))
        have q496 : elm (S150 7) 38 = v73.toInt := (elm_of c470 38).trans (congrArg Int32.toInt (ee74))
        obtain ⟨v497, ee498⟩ : ∃ z : Int32, f474 8 = z := ⟨_, rfl⟩
        have b499 : Bd v497 (0) (3) := (by rw [← ee498]; exact b476.2.2.2.2.2.2.1 8 (by decide))
        have q500 : elm (S472 7) 8 = v497.toInt := (elm_of c475 8).trans (congrArg Int32.toInt (ee498))
        have q501 : elm (S150 7) 39 = v118.toInt := (elm_of c470 39).trans (congrArg Int32.toInt (ee119))
        obtain ⟨v502, ee503⟩ : ∃ z : Int32, f474 9 = z := ⟨_, rfl⟩
        have b504 : Bd v502 (0) (40) := (by rw [← ee503]; exact b476.2.2.2.2.2.2.2 9 (by decide))
        have q505 : elm (S472 7) 9 = v502.toInt := (elm_of c475 9).trans (congrArg Int32.toInt (ee503))
        have q506 : elm (S150 7) 10 = v28.toInt := (elm_of c470 10).trans (congrArg Int32.toInt (ee29))
        obtain ⟨v507, ee508⟩ : ∃ z : Int32, f474 10 = z := ⟨_, rfl⟩
        have b509 : Bd v507 (0) (12) := (by rw [← ee508]; exact b476.1 10 (by decide))
        have q510 : elm (S472 7) 10 = v507.toInt := (elm_of c475 10).trans (congrArg Int32.toInt (ee508))
        have q511 : elm (S150 7) 11 = v25.toInt := (elm_of c470 11).trans (congrArg Int32.toInt (ee26))
        obtain ⟨v512, ee513⟩ : ∃ z : Int32, f474 11 = z := ⟨_, rfl⟩
        have b514 : Bd v512 (0) (12) := (by rw [← ee513]; exact b476.2.1 11 (by decide))
        have q515 : elm (S472 7) 11 = v512.toInt := (elm_of c475 11).trans (congrArg Int32.toInt (ee513))
        have q516 : elm (S150 7) 13 = v31.toInt := (elm_of c470 13).trans (congrArg Int32.toInt (ee32))
        obtain ⟨v517, ee518⟩ : ∃ z : Int32, f474 13 = z := ⟨_, rfl⟩
        have b519 : Bd v517 (0) (12) := (by rw [← ee518]; exact b476.2.2.2.1 13 (by decide))
        have q520 : elm (S472 7) 13 = v517.toInt := (elm_of c475 13).trans (congrArg Int32.toInt (ee518))
        have q521 : elm (S150 7) 16 = v34.toInt := (elm_of c470 16).trans (congrArg Int32.toInt (ee35))
        obtain ⟨v522, ee523⟩ : ∃ z : Int32, f474 16 = z := ⟨_, rfl⟩
        have b524 : Bd v522 (0) (8) := (by rw [← ee523]; exact b476.2.2.2.2.1 16 (by decide))
        have q525 : elm (S472 7) 16 = v522.toInt := (elm_of c475 16).trans (congrArg Int32.toInt (ee523))
        have q526 : elm (S150 7) 18 = v37.toInt := (elm_of c470 18).trans (congrArg Int32.toInt (ee38))
        obtain ⟨v527, ee528⟩ : ∃ z : Int32, f474 18 = z := ⟨_, rfl⟩
        have b529 : Bd v527 (0) (3) := (by rw [← ee528]; exact b476.2.2.2.2.2.2.1 18 (by decide))
        have q530 : elm (S472 7) 18 = v527.toInt := (elm_of c475 18).trans (congrArg Int32.toInt (ee528))
        have q531 : elm (S150 7) 19 = v112.toInt := (elm_of c470 19).trans (congrArg Int32.toInt (ee113))
        obtain ⟨v532, ee533⟩ : ∃ z : Int32, f474 19 = z := ⟨_, rfl⟩
        have b534 : Bd v532 (0) (40) := (by rw [← ee533]; exact b476.2.2.2.2.2.2.2 19 (by decide))
        have q535 : elm (S472 7) 19 = v532.toInt := (elm_of c475 19).trans (congrArg Int32.toInt (ee533))
        have q536 : elm (S150 7) 20 = v46.toInt := (elm_of c470 20).trans (congrArg Int32.toInt (ee47))
        obtain ⟨v537, ee538⟩ : ∃ z : Int32, f474 20 = z := ⟨_, rfl⟩
        have b539 : Bd v537 (0) (12) := (by rw [← ee538]; exact b476.1 20 (by decide))
        have q540 : elm (S472 7) 20 = v537.toInt := (elm_of c475 20).trans (congrArg Int32.toInt (ee538))
        have q541 : elm (S150 7) 21 = v43.toInt := (elm_of c470 21).trans (congrArg Int32.toInt (ee44))
        obtain ⟨v542, ee543⟩ : ∃ z : Int32, f474 21 = z := ⟨_, rfl⟩
        have b544 : Bd v542 (0) (12) := (by rw [← ee543]; exact b476.2.1 21 (by decide))
        have q545 : elm (S472 7) 21 = v542.toInt := (elm_of c475 21).trans (congrArg Int32.toInt (ee543))
        have q546 : elm (S150 7) 23 = v49.toInt := (elm_of c470 23).trans (congrArg Int32.toInt (ee50))
        obtain ⟨v547, ee548⟩ : ∃ z : Int32, f474 23 = z := ⟨_, rfl⟩
        have b549 : Bd v547 (0) (12) := (by rw [← ee548]; exact b476.2.2.2.1 23 (by decide))
        have q550 : elm (S472 7) 23 = v547.toInt := (elm_of c475 23).trans (congrArg Int32.toInt (ee548))
        have q551 : elm (S150 7) 26 = v52.toInt := (elm_of c470 26).trans (congrArg Int32.toInt (ee53))
        obtain ⟨v552, ee553⟩ : ∃ z : Int32, f474 26 = z := ⟨_, rfl⟩
        have b554 : Bd v552 (0) (8) := (by rw [← ee553]; exact b476.2.2.2.2.1 26 (by decide))
        have q555 : elm (S472 7) 26 = v552.toInt := (elm_of c475 26).trans (congrArg Int32.toInt (ee553))
        have q556 : elm (S150 7) 28 = v55.toInt := (elm_of c470 28).trans (congrArg Int32.toInt (ee56))
        obtain ⟨v557, ee558⟩ : ∃ z : Int32, f474 28 = z := ⟨_, rfl⟩
        have b559 : Bd v557 (0) (3) := (by rw [← ee558]; exact b476.2.2.2.2.2.2.1 28 (by decide))
        have q560 : elm (S472 7) 28 = v557.toInt := (elm_of c475 28).trans (congrArg Int32.toInt (ee558))
        have q561 : elm (S150 7) 29 = v115.toInt := (elm_of c470 29).trans (congrArg Int32.toInt (ee116))
        obtain ⟨v562, ee563⟩ : ∃ z : Int32, f474 29 = z := ⟨_, rfl⟩
        have b564 : Bd v562 (0) (40) := (by rw [← ee563]; exact b476.2.2.2.2.2.2.2 29 (by decide))
        have q565 : elm (S472 7) 29 = v562.toInt := (elm_of c475 29).trans (congrArg Int32.toInt (ee563))
        obtain ⟨v566, ee567⟩ : ∃ z : Int32, f474 30 = z := ⟨_, rfl⟩
        have b568 : Bd v566 (0) (12) := (by rw [← ee567]; exact b476.1 30 (by decide))
        have q569 : elm (S472 7) 30 = v566.toInt := (elm_of c475 30).trans (congrArg Int32.toInt (ee567))
        obtain ⟨v570, ee571⟩ : ∃ z : Int32, f474 31 = z := ⟨_, rfl⟩
        have b572 : Bd v570 (0) (12) := (by rw [← ee571]; exact b476.2.1 31 (by decide))
        have q573 : elm (S472 7) 31 = v570.toInt := (elm_of c475 31).trans (congrArg Int32.toInt (ee571))
        obtain ⟨v574, ee575⟩ : ∃ z : Int32, f474 33 = z := ⟨_, rfl⟩
        have b576 : Bd v574 (0) (12) := (by rw [← ee575]; exact b476.2.2.2.1 33 (by decide))
        have q577 : elm (S472 7) 33 = v574.toInt := (elm_of c475 33).trans (congrArg Int32.toInt (ee575))
        obtain ⟨v578, ee579⟩ : ∃ z : Int32, f474 36 = z := ⟨_, rfl⟩
        have b580 : Bd v578 (0) (8) := (by rw [← ee579]; exact b476.2.2.2.2.1 36 (by decide))
        have q581 : elm (S472 7) 36 = v578.toInt := (elm_of c475 36).trans (congrArg Int32.toInt (ee579))
        obtain ⟨v582, ee583⟩ : ∃ z : Int32, f474 38 = z := ⟨_, rfl⟩
        have b584 : Bd v582 (0) (3) := (by rw [← ee583]; exact b476.2.2.2.2.2.2.1 38 (by decide))
        have q585 : elm (S472 7) 38 = v582.toInt := (elm_of c475 38).trans (congrArg Int32.toInt (ee583))
        obtain ⟨v586, ee587⟩ : ∃ z : Int32, f474 39 = z := ⟨_, rfl⟩
        have b588 : Bd v586 (0) (40) := (by rw [← ee587]; exact b476.2.2.2.2.2.2.2 39 (by decide))
        have q589 : elm (S472 7) 39 = v586.toInt := (elm_of c475 39).trans (congrArg Int32.toInt (ee587))
        have q590 : elm (S150 6) 3 = v76.toInt := (elm_of c471 3).trans (congrArg Int32.toInt (ee77))
        obtain ⟨f591, c592, b593⟩ := invM_6 hI
        obtain ⟨v594, ee595⟩ : ∃ z : Int32, f591 0 = z := ⟨_, rfl⟩
        have b596 : Bd v594 (0) (40000) := (by rw [← ee595]; exact b593 0)
        have q597 : elm (S472 6) 0 = v594.toInt := (elm_of c592 0).trans (congrArg Int32.toInt (ee595))
        have q598 : elm (S150 6) 1 = v40.toInt := (elm_of c471 1).trans (congrArg Int32.toInt (ee41))
        obtain ⟨v599, ee600⟩ : ∃ z : Int32, f591 1 = z := ⟨_, rfl⟩
        have b601 : Bd v599 (0) (40000) := (by rw [← ee600]; exact b593 1)
        have q602 : elm (S472 6) 1 = v599.toInt := (elm_of c592 1).trans (congrArg Int32.toInt (ee600))
        have q603 : elm (S150 6) 2 = v58.toInt := (elm_of c471 2).trans (congrArg Int32.toInt (ee59))
        obtain ⟨v604, ee605⟩ : ∃ z : Int32, f591 2 = z := ⟨_, rfl⟩
        have b606 : Bd v604 (0) (40000) := (by rw [← ee605]; exact b593 2)
        have q607 : elm (S472 6) 2 = v604.toInt := (elm_of c592 2).trans (congrArg Int32.toInt (ee605))
        obtain ⟨v608, ee609⟩ : ∃ z : Int32, f591 3 = z := ⟨_, rfl⟩
        have b610 : Bd v608 (0) (40000) := (by rw [← ee609]; exact b593 3)
        have q611 : elm (S472 6) 3 = v608.toInt := (elm_of c592 3).trans (congrArg Int32.toInt (ee609))
        refine lv_iconst (v := 0) hx hb dX12_back_40 (by decide) ?_
        exact xri E hr hlk hQ (⟨hI, (o_trans (up_o o_refl eS150 (by decide)) o472 (by decide)), (ib_wk (by decide : Bd 0 (0) (0)) (by decide) (by decide)), (by omega), (by omega), (by omega), (by omega), (by omega), (by omega), (by omega), (by omega), (by omega), (by omega), (by omega), (by omega), (by omega), (by omega), (by omega), (by omega), (by omega), (by omega), (by omega), (by omega), u472_0, u472_1, u472_2, u472_3, u472_4, u472_5, u472_6, u472_7, (by have h1 := u158_0; unfold InP at h1; have e1 := ((congrArg (fun e => elm e a1.toInt.toNat) (up_eq (j := 13) eS150 (by decide))).symm.trans el171); unfold ansBk; rw [if_neg (by omega), if_neg (by omega)])⟩) dX12_back_41
    · have h612 := ib_eq k172
      have b613 : Bd z168 (0) (0) := ⟨(b170).1, ((rf_eq b170 (by decide : Bd 0 (0) (0)) h612).1).2⟩
      refine lv_bipush (v := (-6)) hx hb dX12_back_29 (by decide) ?_
      have c614 : S150 7 = .inl (g.2 0, 50, .inl f1) := (up_ne eS150 (by decide) c2)
      have q615 : elm (S150 7) 1 = v4.toInt := (elm_of c614 1).trans (congrArg Int32.toInt (ee5))
      have q616 : elm (S150 7) 0 = v7.toInt := (elm_of c614 0).trans (congrArg Int32.toInt (ee8))
      have q617 : elm (S150 7) 3 = v10.toInt := (elm_of c614 3).trans (congrArg Int32.toInt (ee11))
      have q618 : elm (S150 7) 6 = v13.toInt := (elm_of c614 6).trans (congrArg Int32.toInt (ee14))
      have q619 : elm (S150 7) 8 = v16.toInt := (elm_of c614 8).trans (congrArg Int32.toInt (ee17))
      have c620 : S150 6 = .inl (g.2 0, 5, .inl f19) := (up_ne eS150 (by decide) c20)
      have q621 : elm (S150 6) 0 = v22.toInt := (elm_of c620 0).trans (congrArg Int32.toInt (ee23))
      have q622 : elm (S150 7) 11 = v25.toInt := (elm_of c614 11).trans (congrArg Int32.toInt (ee26))
      have q623 : elm (S150 7) 10 = v28.toInt := (elm_of c614 10).trans (congrArg Int32.toInt (ee29))
      have q624 : elm (S150 7) 13 = v31.toInt := (elm_of c614 13).trans (congrArg Int32.toInt (ee32))
      have q625 : elm (S150 7) 16 = v34.toInt := (elm_of c614 16).trans (congrArg Int32.toInt (ee35))
      have q626 : elm (S150 7) 18 = v37.toInt := (elm_of c614 18).trans (congrArg Int32.toInt (ee38))
      have q627 : elm (S150 6) 1 = v40.toInt := (elm_of c620 1).trans (congrArg Int32.toInt (ee41))
      have q628 : elm (S150 7) 21 = v43.toInt := (elm_of c614 21).trans (congrArg Int32.toInt (ee44))
      have q629 : elm (S150 7) 20 = v46.toInt := (elm_of c614 20).trans (congrArg Int32.toInt (ee47))
      have q630 : elm (S150 7) 23 = v49.toInt := (elm_of c614 23).trans (congrArg Int32.toInt (ee50))
      have q631 : elm (S150 7) 26 = v52.toInt := (elm_of c614 26).trans (congrArg Int32.toInt (ee53))
      have q632 : elm (S150 7) 28 = v55.toInt := (elm_of c614 28).trans (congrArg Int32.toInt (ee56))
      have q633 : elm (S150 6) 2 = v58.toInt := (elm_of c620 2).trans (congrArg Int32.toInt (ee59))
      have q634 : elm (S150 7) 31 = v61.toInt := (elm_of c614 31).trans (congrArg Int32.toInt (ee62))
      have q635 : elm (S150 7) 30 = v64.toInt := (elm_of c614 30).trans (congrArg Int32.toInt (ee65))
      have q636 : elm (S150 7) 33 = v67.toInt := (elm_of c614 33).trans (congrArg Int32.toInt (ee68))
      have q637 : elm (S150 7) 36 = v70.toInt := (elm_of c614 36).trans (congrArg Int32.toInt (ee71))
      have q638 : elm (S150 7) 38 = v73.toInt := (elm_of c614 38).trans (congrArg Int32.toInt (ee74))
      have q639 : elm (S150 6) 3 = v76.toInt := (elm_of c620 3).trans (congrArg Int32.toInt (ee77))
      exact xri E hr hlk hQ (⟨hI, (up_o o_refl eS150 (by decide)), (ib_wk (by decide : Bd (-6) (-6) (-6)) (by decide) (by decide)), (by omega), (by omega), (by omega), (by omega), (by omega), (by omega), (by omega), (by omega), (by omega), (by omega), (by omega), (by omega), (by omega), (by omega), (by omega), (by omega), (by omega), (by omega), (by omega), (by omega), (at_tr hAT0 (up_eq (j := 7) eS150 (by decide)) (up_eq (j := 12) eS150 (by decide))), (at_tr hAT1 (up_eq (j := 7) eS150 (by decide)) (up_eq (j := 12) eS150 (by decide))), (at_tr hAT2 (up_eq (j := 7) eS150 (by decide)) (up_eq (j := 12) eS150 (by decide))), (at_tr hAT3 (up_eq (j := 7) eS150 (by decide)) (up_eq (j := 12) eS150 (by decide))), (ht_tr hHT0 (up_eq (j := 7) eS150 (by decide)) (up_eq (j := 9) eS150 (by decide))), (ht_tr hHT1 (up_eq (j := 7) eS150 (by decide)) (up_eq (j := 9) eS150 (by decide))), (ht_tr hHT2 (up_eq (j := 7) eS150 (by decide)) (up_eq (j := 9) eS150 (by decide))), (ht_tr hHT3 (up_eq (j := 7) eS150 (by decide)) (up_eq (j := 9) eS150 (by decide))), (by have h1 := u158_0; unfold InP at h1; have e1 := ((congrArg (fun e => elm e a1.toInt.toNat) (up_eq (j := 13) eS150 (by decide))).symm.trans el171); unfold ansBk; rw [if_neg (by omega), if_pos (by omega)])⟩) dX12_back_31
  · have h640 := ib_eq k159
    have b641 : Bd r158 (0) (0) := ⟨(b158).1, ((rf_eq b158 (by decide : Bd 0 (0) (0)) h640).1).2⟩
    clear g158_0
    refine lv_bipush (v := (-2)) hx hb dX12_back_17 (by decide) ?_
    have c642 : S150 7 = .inl (g.2 0, 50, .inl f1) := (up_ne eS150 (by decide) c2)
    have q643 : elm (S150 7) 1 = v4.toInt := (elm_of c642 1).trans (congrArg Int32.toInt (ee5))
    have q644 : elm (S150 7) 0 = v7.toInt := (elm_of c642 0).trans (congrArg Int32.toInt (ee8))
    have q645 : elm (S150 7) 3 = v10.toInt := (elm_of c642 3).trans (congrArg Int32.toInt (ee11))
    have q646 : elm (S150 7) 6 = v13.toInt := (elm_of c642 6).trans (congrArg Int32.toInt (ee14))
    have q647 : elm (S150 7) 8 = v16.toInt := (elm_of c642 8).trans (congrArg Int32.toInt (ee17))
    have c648 : S150 6 = .inl (g.2 0, 5, .inl f19) := (up_ne eS150 (by decide) c20)
    have q649 : elm (S150 6) 0 = v22.toInt := (elm_of c648 0).trans (congrArg Int32.toInt (ee23))
    have q650 : elm (S150 7) 11 = v25.toInt := (elm_of c642 11).trans (congrArg Int32.toInt (ee26))
    have q651 : elm (S150 7) 10 = v28.toInt := (elm_of c642 10).trans (congrArg Int32.toInt (ee29))
    have q652 : elm (S150 7) 13 = v31.toInt := (elm_of c642 13).trans (congrArg Int32.toInt (ee32))
    have q653 : elm (S150 7) 16 = v34.toInt := (elm_of c642 16).trans (congrArg Int32.toInt (ee35))
    have q654 : elm (S150 7) 18 = v37.toInt := (elm_of c642 18).trans (congrArg Int32.toInt (ee38))
    have q655 : elm (S150 6) 1 = v40.toInt := (elm_of c648 1).trans (congrArg Int32.toInt (ee41))
    have q656 : elm (S150 7) 21 = v43.toInt := (elm_of c642 21).trans (congrArg Int32.toInt (ee44))
    have q657 : elm (S150 7) 20 = v46.toInt := (elm_of c642 20).trans (congrArg Int32.toInt (ee47))
    have q658 : elm (S150 7) 23 = v49.toInt := (elm_of c642 23).trans (congrArg Int32.toInt (ee50))
    have q659 : elm (S150 7) 26 = v52.toInt := (elm_of c642 26).trans (congrArg Int32.toInt (ee53))
    have q660 : elm (S150 7) 28 = v55.toInt := (elm_of c642 28).trans (congrArg Int32.toInt (ee56))
    have q661 : elm (S150 6) 2 = v58.toInt := (elm_of c648 2).trans (congrArg Int32.toInt (ee59))
    have q662 : elm (S150 7) 31 = v61.toInt := (elm_of c642 31).trans (congrArg Int32.toInt (ee62))
    have q663 : elm (S150 7) 30 = v64.toInt := (elm_of c642 30).trans (congrArg Int32.toInt (ee65))
    have q664 : elm (S150 7) 33 = v67.toInt := (elm_of c642 33).trans (congrArg Int32.toInt (ee68))
    have q665 : elm (S150 7) 36 = v70.toInt := (elm_of c642 36).trans (congrArg Int32.toInt (ee71))
    have q666 : elm (S150 7) 38 = v73.toInt := (elm_of c642 38).trans (congrArg Int32.toInt (ee74))
    have q667 : elm (S150 6) 3 = v76.toInt := (elm_of c648 3).trans (congrArg Int32.toInt (ee77))
    exact xri E hr hlk hQ (⟨hI, (up_o o_refl eS150 (by decide)), (ib_wk (by decide : Bd (-2) (-2) (-2)) (by decide) (by decide)), (by omega), (by omega), (by omega), (by omega), (by omega), (by omega), (by omega), (by omega), (by omega), (by omega), (by omega), (by omega), (by omega), (by omega), (by omega), (by omega), (by omega), (by omega), (by omega), (by omega), (at_tr hAT0 (up_eq (j := 7) eS150 (by decide)) (up_eq (j := 12) eS150 (by decide))), (at_tr hAT1 (up_eq (j := 7) eS150 (by decide)) (up_eq (j := 12) eS150 (by decide))), (at_tr hAT2 (up_eq (j := 7) eS150 (by decide)) (up_eq (j := 12) eS150 (by decide))), (at_tr hAT3 (up_eq (j := 7) eS150 (by decide)) (up_eq (j := 12) eS150 (by decide))), (ht_tr hHT0 (up_eq (j := 7) eS150 (by decide)) (up_eq (j := 9) eS150 (by decide))), (ht_tr hHT1 (up_eq (j := 7) eS150 (by decide)) (up_eq (j := 9) eS150 (by decide))), (ht_tr hHT2 (up_eq (j := 7) eS150 (by decide)) (up_eq (j := 9) eS150 (by decide))), (ht_tr hHT3 (up_eq (j := 7) eS150 (by decide)) (up_eq (j := 9) eS150 (by decide))), (by have h1 := u158_0; unfold InP at h1; unfold ansBk; rw [if_pos (by omega)])⟩) dX12_back_19
set_option maxHeartbeats 4000000 in
set_option maxRecDepth 100000 in
theorem gX12_shore_0 (l : Launch) (g : GG) (ad : Nat → Nat) (hD : Dj ad 20) (S : SS) (hI : InvM g ad S) (hq1 : 0 ≤ 12 * elm (S 7) 1 + (-1) * elm (S 7) 0) (hq2 : 0 ≤ 12 * elm (S 7) 3 + (-1) * elm (S 7) 0) (hq3 : 0 ≤ 8 * elm (S 7) 0 + (-1) * elm (S 7) 6) (hq4 : 0 ≤ 3 * elm (S 7) 0 + (-1) * elm (S 7) 8) (hq5 : 0 ≤ 40000 * elm (S 7) 0 + (-1) * elm (S 6) 0) (hq6 : 0 ≤ 12 * elm (S 7) 11 + (-1) * elm (S 7) 10) (hq7 : 0 ≤ 12 * elm (S 7) 13 + (-1) * elm (S 7) 10) (hq8 : 0 ≤ 8 * elm (S 7) 10 + (-1) * elm (S 7) 16) (hq9 : 0 ≤ 3 * elm (S 7) 10 + (-1) * elm (S 7) 18) (hq10 : 0 ≤ 40000 * elm (S 7) 10 + (-1) * elm (S 6) 1) (hq11 : 0 ≤ 12 * elm (S 7) 21 + (-1) * elm (S 7) 20) (hq12 : 0 ≤ 12 * elm (S 7) 23 + (-1) * elm (S 7) 20) (hq13 : 0 ≤ 8 * elm (S 7) 20 + (-1) * elm (S 7) 26) (hq14 : 0 ≤ 3 * elm (S 7) 20 + (-1) * elm (S 7) 28) (hq15 : 0 ≤ 40000 * elm (S 7) 20 + (-1) * elm (S 6) 2) (hq16 : 0 ≤ 12 * elm (S 7) 31 + (-1) * elm (S 7) 30) (hq17 : 0 ≤ 12 * elm (S 7) 33 + (-1) * elm (S 7) 30) (hq18 : 0 ≤ 8 * elm (S 7) 30 + (-1) * elm (S 7) 36) (hq19 : 0 ≤ 3 * elm (S 7) 30 + (-1) * elm (S 7) 38) (hq20 : 0 ≤ 40000 * elm (S 7) 30 + (-1) * elm (S 6) 3) (hq21 : 0 ≤ (-1) * elm (S 7) 9 + 40) (hq22 : 0 ≤ (-1) * elm (S 7) 19 + 40) (hq23 : 0 ≤ (-1) * elm (S 7) 29 + 40) (hq24 : 0 ≤ (-1) * elm (S 7) 39 + 40) (hAT0 : ATp (S 7) (S 12) 0) (hAT1 : ATp (S 7) (S 12) 1) (hAT2 : ATp (S 7) (S 12) 2) (hAT3 : ATp (S 7) (S 12) 3) (hHT0 : HTp (S 7) (S 9) 0) (hHT1 : HTp (S 7) (S 9) 1) (hHT2 : HTp (S 7) (S 9) 2) (hHT3 : HTp (S 7) (S 9) 3) : Met l yX12_shore (wG (.code yX12_shore cX12_shore 1 (some .int))) (Rm 7) (XPre g ad 20 S [.ref (ad 0)]) (va_Qi (fun r S' => InvM g ad S' ∧ (∀ j, j ∉ ([0, 6, 7, 8, 9, 10, 11, 12] : List Nat) → S' j = S j) ∧ Bd r (-4) (4804) ∧ (0 ≤ 12 * elm (S' 7) 1 + (-1) * elm (S' 7) 0) ∧ (0 ≤ 12 * elm (S' 7) 3 + (-1) * elm (S' 7) 0) ∧ (0 ≤ 8 * elm (S' 7) 0 + (-1) * elm (S' 7) 6) ∧ (0 ≤ 3 * elm (S' 7) 0 + (-1) * elm (S' 7) 8) ∧ (0 ≤ 40000 * elm (S' 7) 0 + (-1) * elm (S' 6) 0) ∧ (0 ≤ 12 * elm (S' 7) 11 + (-1) * elm (S' 7) 10) ∧ (0 ≤ 12 * elm (S' 7) 13 + (-1) * elm (S' 7) 10) ∧ (0 ≤ 8 * elm (S' 7) 10 + (-1) * elm (S' 7) 16) ∧ (0 ≤ 3 * elm (S' 7) 10 + (-1) * elm (S' 7) 18) ∧ (0 ≤ 40000 * elm (S' 7) 10 + (-1) * elm (S' 6) 1) ∧ (0 ≤ 12 * elm (S' 7) 21 + (-1) * elm (S' 7) 20) ∧ (0 ≤ 12 * elm (S' 7) 23 + (-1) * elm (S' 7) 20) ∧ (0 ≤ 8 * elm (S' 7) 20 + (-1) * elm (S' 7) 26) ∧ (0 ≤ 3 * elm (S' 7) 20 + (-1) * elm (S' 7) 28) ∧ (0 ≤ 40000 * elm (S' 7) 20 + (-1) * elm (S' 6) 2) ∧ (0 ≤ 12 * elm (S' 7) 31 + (-1) * elm (S' 7) 30) ∧ (0 ≤ 12 * elm (S' 7) 33 + (-1) * elm (S' 7) 30) ∧ (0 ≤ 8 * elm (S' 7) 30 + (-1) * elm (S' 7) 36) ∧ (0 ≤ 3 * elm (S' 7) 30 + (-1) * elm (S' 7) 38) ∧ (0 ≤ 40000 * elm (S' 7) 30 + (-1) * elm (S' 6) 3) ∧ (ATp (S' 7) (S' 12) 0) ∧ (ATp (S' 7) (S' 12) 1) ∧ (ATp (S' 7) (S' 12) 2) ∧ (ATp (S' 7) (S' 12) 3) ∧ (HTp (S' 7) (S' 9) 0) ∧ (HTp (S' 7) (S' 9) 1) ∧ (HTp (S' 7) (S' 9) 2) ∧ (HTp (S' 7) (S' 9) 3)) (QB g ad 20) (FA ad 20)) 0 0 (FA ad 20) := by
  refine xmet cX12_shore "EbbWreckModel" (by decide) rfl (Nat.le_of_ble_eq_true rfl) (fun p e s m below meth c E hr hlk hml hQ ls hl => ?_)
  have hx := E.1
  have hb := E.2.1
  have hs : Sp ad 20 (FA ad 20) := Sp.fa hD
  have hl : lv_has ls 1 [(0, .ref (ad 0))] := hl
  obtain ⟨f1, c2, b3⟩ := invM_7 hI
  obtain ⟨v4, ee5⟩ : ∃ z : Int32, f1 1 = z := ⟨_, rfl⟩
  have b6 : Bd v4 (0) (12) := (by rw [← ee5]; exact b3.2.1 1 (by decide))
  obtain ⟨v7, ee8⟩ : ∃ z : Int32, f1 0 = z := ⟨_, rfl⟩
  have b9 : Bd v7 (0) (12) := (by rw [← ee8]; exact b3.1 0 (by decide))
  obtain ⟨v10, ee11⟩ : ∃ z : Int32, f1 3 = z := ⟨_, rfl⟩
  have b12 : Bd v10 (0) (12) := (by rw [← ee11]; exact b3.2.2.2.1 3 (by decide))
  obtain ⟨v13, ee14⟩ : ∃ z : Int32, f1 6 = z := ⟨_, rfl⟩
  have b15 : Bd v13 (0) (8) := (by rw [← ee14]; exact b3.2.2.2.2.1 6 (by decide))
  obtain ⟨v16, ee17⟩ : ∃ z : Int32, f1 8 = z := ⟨_, rfl⟩
  have b18 : Bd v16 (0) (3) := (by rw [← ee17]; exact b3.2.2.2.2.2.2.1 8 (by decide))
  obtain ⟨f19, c20, b21⟩ := invM_6 hI
  obtain ⟨v22, ee23⟩ : ∃ z : Int32, f19 0 = z := ⟨_, rfl⟩
  have b24 : Bd v22 (0) (40000) := (by rw [← ee23]; exact b21 0)
  obtain ⟨v25, ee26⟩ : ∃ z : Int32, f1 11 = z := ⟨_, rfl⟩
  have b27 : Bd v25 (0) (12) := (by rw [← ee26]; exact b3.2.1 11 (by decide))
  obtain ⟨v28, ee29⟩ : ∃ z : Int32, f1 10 = z := ⟨_, rfl⟩
  have b30 : Bd v28 (0) (12) := (by rw [← ee29]; exact b3.1 10 (by decide))
  obtain ⟨v31, ee32⟩ : ∃ z : Int32, f1 13 = z := ⟨_, rfl⟩
  have b33 : Bd v31 (0) (12) := (by rw [← ee32]; exact b3.2.2.2.1 13 (by decide))
  obtain ⟨v34, ee35⟩ : ∃ z : Int32, f1 16 = z := ⟨_, rfl⟩
  have b36 : Bd v34 (0) (8) := (by rw [← ee35]; exact b3.2.2.2.2.1 16 (by decide))
  obtain ⟨v37, ee38⟩ : ∃ z : Int32, f1 18 = z := ⟨_, rfl⟩
  have b39 : Bd v37 (0) (3) := (by rw [← ee38]; exact b3.2.2.2.2.2.2.1 18 (by decide))
  obtain ⟨v40, ee41⟩ : ∃ z : Int32, f19 1 = z := ⟨_, rfl⟩
  have b42 : Bd v40 (0) (40000) := (by rw [← ee41]; exact b21 1)
  obtain ⟨v43, ee44⟩ : ∃ z : Int32, f1 21 = z := ⟨_, rfl⟩
  have b45 : Bd v43 (0) (12) := (by rw [← ee44]; exact b3.2.1 21 (by decide))
  obtain ⟨v46, ee47⟩ : ∃ z : Int32, f1 20 = z := ⟨_, rfl⟩
  have b48 : Bd v46 (0) (12) := (by rw [← ee47]; exact b3.1 20 (by decide))
  obtain ⟨v49, ee50⟩ : ∃ z : Int32, f1 23 = z := ⟨_, rfl⟩
  have b51 : Bd v49 (0) (12) := (by rw [← ee50]; exact b3.2.2.2.1 23 (by decide))
  obtain ⟨v52, ee53⟩ : ∃ z : Int32, f1 26 = z := ⟨_, rfl⟩
  have b54 : Bd v52 (0) (8) := (by rw [← ee53]; exact b3.2.2.2.2.1 26 (by decide))
  obtain ⟨v55, ee56⟩ : ∃ z : Int32, f1 28 = z := ⟨_, rfl⟩
  have b57 : Bd v55 (0) (3) := (by rw [← ee56]; exact b3.2.2.2.2.2.2.1 28 (by decide))
  obtain ⟨v58, ee59⟩ : ∃ z : Int32, f19 2 = z := ⟨_, rfl⟩
  have b60 : Bd v58 (0) (40000) := (by rw [← ee59]; exact b21 2)
  obtain ⟨v61, ee62⟩ : ∃ z : Int32, f1 31 = z := ⟨_, rfl⟩
  have b63 : Bd v61 (0) (12) := (by rw [← ee62]; exact b3.2.1 31 (by decide))
  obtain ⟨v64, ee65⟩ : ∃ z : Int32, f1 30 = z := ⟨_, rfl⟩
  have b66 : Bd v64 (0) (12) := (by rw [← ee65]; exact b3.1 30 (by decide))
  obtain ⟨v67, ee68⟩ : ∃ z : Int32, f1 33 = z := ⟨_, rfl⟩
  have b69 : Bd v67 (0) (12) := (by rw [← ee68]; exact b3.2.2.2.1 33 (by decide))
  obtain ⟨v70, ee71⟩ : ∃ z : Int32, f1 36 = z := ⟨_, rfl⟩
  have b72 : Bd v70 (0) (8) := (by rw [← ee71]; exact b3.2.2.2.2.1 36 (by decide))
  obtain ⟨v73, ee74⟩ : ∃ z : Int32, f1 38 = z := ⟨_, rfl⟩
  have b75 : Bd v73 (0) (3) := (by rw [← ee74]; exact b3.2.2.2.2.2.2.1 38 (by decide))
  obtain ⟨v76, ee77⟩ : ∃ z : Int32, f19 3 = z := ⟨_, rfl⟩
  have b78 : Bd v76 (0) (40000) := (by rw [← ee77]; exact b21 3)
  obtain ⟨v79, ee80⟩ : ∃ z : Int32, f1 9 = z := ⟨_, rfl⟩
  have b81 : Bd v79 (0) (40) := (by rw [← ee80]; exact b3.2.2.2.2.2.2.2 9 (by decide))
  obtain ⟨v82, ee83⟩ : ∃ z : Int32, f1 19 = z := ⟨_, rfl⟩
  have b84 : Bd v82 (0) (40) := (by rw [← ee83]; exact b3.2.2.2.2.2.2.2 19 (by decide))
  obtain ⟨v85, ee86⟩ : ∃ z : Int32, f1 29 = z := ⟨_, rfl⟩
  have b87 : Bd v85 (0) (40) := (by rw [← ee86]; exact b3.2.2.2.2.2.2.2 29 (by decide))
  obtain ⟨v88, ee89⟩ : ∃ z : Int32, f1 39 = z := ⟨_, rfl⟩
  have b90 : Bd v88 (0) (40) := (by rw [← ee89]; exact b3.2.2.2.2.2.2.2 39 (by decide))
  have q91 : elm (S 7) 1 = v4.toInt := (elm_of c2 1).trans (congrArg Int32.toInt (ee5))
  have q92 : elm (S 7) 0 = v7.toInt := (elm_of c2 0).trans (congrArg Int32.toInt (ee8))
  have q93 : elm (S 7) 3 = v10.toInt := (elm_of c2 3).trans (congrArg Int32.toInt (ee11))
  have q94 : elm (S 7) 6 = v13.toInt := (elm_of c2 6).trans (congrArg Int32.toInt (ee14))
  have q95 : elm (S 7) 8 = v16.toInt := (elm_of c2 8).trans (congrArg Int32.toInt (ee17))
  have q96 : elm (S 6) 0 = v22.toInt := (elm_of c20 0).trans (congrArg Int32.toInt (ee23))
  have q97 : elm (S 7) 11 = v25.toInt := (elm_of c2 11).trans (congrArg Int32.toInt (ee26))
  have q98 : elm (S 7) 10 = v28.toInt := (elm_of c2 10).trans (congrArg Int32.toInt (ee29))
  have q99 : elm (S 7) 13 = v31.toInt := (elm_of c2 13).trans (congrArg Int32.toInt (ee32))
  have q100 : elm (S 7) 16 = v34.toInt := (elm_of c2 16).trans (congrArg Int32.toInt (ee35))
  have q101 : elm (S 7) 18 = v37.toInt := (elm_of c2 18).trans (congrArg Int32.toInt (ee38))
  have q102 : elm (S 6) 1 = v40.toInt := (elm_of c20 1).trans (congrArg Int32.toInt (ee41))
  have q103 : elm (S 7) 21 = v43.toInt := (elm_of c2 21).trans (congrArg Int32.toInt (ee44))
  have q104 : elm (S 7) 20 = v46.toInt := (elm_of c2 20).trans (congrArg Int32.toInt (ee47))
  have q105 : elm (S 7) 23 = v49.toInt := (elm_of c2 23).trans (congrArg Int32.toInt (ee50))
  have q106 : elm (S 7) 26 = v52.toInt := (elm_of c2 26).trans (congrArg Int32.toInt (ee53))
  have q107 : elm (S 7) 28 = v55.toInt := (elm_of c2 28).trans (congrArg Int32.toInt (ee56))
  have q108 : elm (S 6) 2 = v58.toInt := (elm_of c20 2).trans (congrArg Int32.toInt (ee59))
  have q109 : elm (S 7) 31 = v61.toInt := (elm_of c2 31).trans (congrArg Int32.toInt (ee62))
  have q110 : elm (S 7) 30 = v64.toInt := (elm_of c2 30).trans (congrArg Int32.toInt (ee65))
  have q111 : elm (S 7) 33 = v67.toInt := (elm_of c2 33).trans (congrArg Int32.toInt (ee68))
  have q112 : elm (S 7) 36 = v70.toInt := (elm_of c2 36).trans (congrArg Int32.toInt (ee71))
  have q113 : elm (S 7) 38 = v73.toInt := (elm_of c2 38).trans (congrArg Int32.toInt (ee74))
  have q114 : elm (S 6) 3 = v76.toInt := (elm_of c20 3).trans (congrArg Int32.toInt (ee77))
  have q115 : elm (S 7) 9 = v79.toInt := (elm_of c2 9).trans (congrArg Int32.toInt (ee80))
  have q116 : elm (S 7) 19 = v82.toInt := (elm_of c2 19).trans (congrArg Int32.toInt (ee83))
  have q117 : elm (S 7) 29 = v85.toInt := (elm_of c2 29).trans (congrArg Int32.toInt (ee86))
  have q118 : elm (S 7) 39 = v88.toInt := (elm_of c2 39).trans (congrArg Int32.toInt (ee89))
  have ef7_0 : EFp (S 7) (S 7) 0 40 := fun _ _ _ => rfl
  have ef6_0 : EFp (S 6) (S 6) 0 4 := fun _ _ _ => rfl
  have ef9_0 : EFp (S 9) (S 9) 0 96 := fun _ _ _ => rfl
  obtain ⟨f119, c120, b121⟩ := invM_12 hI
  obtain ⟨f122, c123, b124⟩ := invM_9 hI
  refine lv_aload_n hx hb dX12_shore_0 rfl (lv_at hl 0 rfl) ?_
  refine lv_iconst (v := 0) hx hb dX12_shore_1 (by decide) ?_
  obtain ⟨v125, v126, v128, v130, v132, v133, w134, v135, v137, v138, v139, v140, v142, v144, v146, v148, v150, v151, v152, c153, b127, b129, b131, b136, b141, b143, b145, b147, b149⟩ := invM_0 hI
  have c153 : S 0 = .inr (12, [.int v125, .ref (ad 1), .ref (ad 2), .ref (ad 3), .ref (ad 4), .ref (ad 5), .int v126, .int v128, .int v130, .int v132, .int v133, .long w134, .int v135, .int v137, .int v138, .int v139, .ref (ad 6), .ref (ad 7), .ref (ad 8), .ref (ad 9), .ref (ad 10), .ref (ad 11), .ref (ad 12), .ref (ad 13), .ref (ad 14), .ref (ad 15), .int v140, .int v142, .ref (ad 16), .int v144, .int v146, .int v148, .int v150, .int v151, .ref (ad 17), .ref (ad 18), .int v152, .ref (ad 19)]) := c153
  refine xputi E hs hQ 0 (by decide) c153 rfl 0 (by decide) q1468 rfl rfl (Nat.le_of_ble_eq_true rfl) dX12_shore_2 (fun H locs S154 eS154 hQ => ?_)
  have hI := invM_up_0 hI eS154 ⟨0, v126, v128, v130, v132, v133, w134, v135, v137, v138, v139, v140, v142, v144, v146, v148, v150, v151, v152, rfl, b127, b129, b131, b136, b141, b143, b145, b147, b149⟩
  have c155 : S154 0 = .inr (12, [.int 0, .ref (ad 1), .ref (ad 2), .ref (ad 3), .ref (ad 4), .ref (ad 5), .int v126, .int v128, .int v130, .int v132, .int v133, .long w134, .int v135, .int v137, .int v138, .int v139, .ref (ad 6), .ref (ad 7), .ref (ad 8), .ref (ad 9), .ref (ad 10), .ref (ad 11), .ref (ad 12), .ref (ad 13), .ref (ad 14), .ref (ad 15), .int v140, .int v142, .ref (ad 16), .int v144, .int v146, .int v148, .int v150, .int v151, .ref (ad 17), .ref (ad 18), .int v152, .ref (ad 19)]) := up_at eS154 rfl
  refine lv_aload_n hx hb dX12_shore_5 rfl (lv_at hl 0 rfl) ?_
  refine xcVv E hs hQ hml hl.1 0 (gX12_clears_0 l g ad hD S154 hI ) mX12_clears q1625 (by decide) c155 rfl rfl ⟨(Nat.le_of_ble_eq_true rfl), (Nat.le_of_ble_eq_true rfl)⟩ ⟨(Nat.le_of_ble_eq_true rfl), (Nat.le_of_ble_eq_true rfl)⟩ (Nat.le_of_ble_eq_true rfl) rfl dX12_shore_6 (fun S156 H locs hp156 hQ _ => ?_)
  obtain ⟨hI, o156, g156_0, g156_1, g156_2, g156_3, g156_4, g156_5, g156_6, g156_7, ef156_7, ef156_6⟩ := hp156
  have ef157 : EFp (S156 7) (S 7) 0 40 := ef_tt ef156_7 (ef_tr ef7_0 (up_eq (j := 7) eS154 (by decide)))
  have ef158 : EFp (S156 6) (S 6) 0 4 := ef_tt ef156_6 (ef_tr ef6_0 (up_eq (j := 6) eS154 (by decide)))
  obtain ⟨f159, c160, b161⟩ := invM_7 hI
  obtain ⟨v162, ee163⟩ : ∃ z : Int32, f159 40 = z := ⟨_, rfl⟩
  have b164 : Bd v162 (0) (12) := (by rw [← ee163]; exact b161.1 40 (by decide))
  have q165 : elm (S156 7) 40 = v162.toInt := (elm_of c160 40).trans (congrArg Int32.toInt (ee163))
  have b166 : Bd v162 (0) (0) := ⟨(b164).1, by omega⟩
  obtain ⟨v167, ee168⟩ : ∃ z : Int32, f159 41 = z := ⟨_, rfl⟩
  have b169 : Bd v167 (0) (12) := (by rw [← ee168]; exact b161.2.1 41 (by decide))
  have q170 : elm (S156 7) 41 = v167.toInt := (elm_of c160 41).trans (congrArg Int32.toInt (ee168))
  have b171 : Bd v167 (0) (0) := ⟨(b169).1, by omega⟩
  obtain ⟨v172, ee173⟩ : ∃ z : Int32, f159 43 = z := ⟨_, rfl⟩
  have b174 : Bd v172 (0) (12) := (by rw [← ee173]; exact b161.2.2.2.1 43 (by decide))
  have q175 : elm (S156 7) 43 = v172.toInt := (elm_of c160 43).trans (congrArg Int32.toInt (ee173))
  have b176 : Bd v172 (0) (0) := ⟨(b174).1, by omega⟩
  obtain ⟨v177, ee178⟩ : ∃ z : Int32, f159 46 = z := ⟨_, rfl⟩
  have b179 : Bd v177 (0) (8) := (by rw [← ee178]; exact b161.2.2.2.2.1 46 (by decide))
  have q180 : elm (S156 7) 46 = v177.toInt := (elm_of c160 46).trans (congrArg Int32.toInt (ee178))
  have b181 : Bd v177 (0) (0) := ⟨(b179).1, by omega⟩
  obtain ⟨v182, ee183⟩ : ∃ z : Int32, f159 47 = z := ⟨_, rfl⟩
  have b184 : Bd v182 (0) (6) := (by rw [← ee183]; exact b161.2.2.2.2.2.1 47 (by decide))
  have q185 : elm (S156 7) 47 = v182.toInt := (elm_of c160 47).trans (congrArg Int32.toInt (ee183))
  have b186 : Bd v182 (0) (0) := ⟨(b184).1, by omega⟩
  obtain ⟨v187, ee188⟩ : ∃ z : Int32, f159 48 = z := ⟨_, rfl⟩
  have b189 : Bd v187 (0) (3) := (by rw [← ee188]; exact b161.2.2.2.2.2.2.1 48 (by decide))
  have q190 : elm (S156 7) 48 = v187.toInt := (elm_of c160 48).trans (congrArg Int32.toInt (ee188))
  have b191 : Bd v187 (0) (0) := ⟨(b189).1, by omega⟩
  obtain ⟨v192, ee193⟩ : ∃ z : Int32, f159 49 = z := ⟨_, rfl⟩
  have b194 : Bd v192 (0) (40) := (by rw [← ee193]; exact b161.2.2.2.2.2.2.2 49 (by decide))
  have q195 : elm (S156 7) 49 = v192.toInt := (elm_of c160 49).trans (congrArg Int32.toInt (ee193))
  have b196 : Bd v192 (0) (0) := ⟨(b194).1, by omega⟩
  obtain ⟨f197, c198, b199⟩ := invM_6 hI
  obtain ⟨v200, ee201⟩ : ∃ z : Int32, f197 4 = z := ⟨_, rfl⟩
  have b202 : Bd v200 (0) (40000) := (by rw [← ee201]; exact b199 4)
  have q203 : elm (S156 6) 4 = v200.toInt := (elm_of c198 4).trans (congrArg Int32.toInt (ee201))
  have b204 : Bd v200 (0) (0) := ⟨(b202).1, by omega⟩
  refine lv_aload_n hx hb dX12_shore_9 rfl (lv_at hl 0 rfl) ?_
  have c205 : S156 0 = .inr (12, [.int 0, .ref (ad 1), .ref (ad 2), .ref (ad 3), .ref (ad 4), .ref (ad 5), .int v126, .int v128, .int v130, .int v132, .int v133, .long w134, .int v135, .int v137, .int v138, .int v139, .ref (ad 6), .ref (ad 7), .ref (ad 8), .ref (ad 9), .ref (ad 10), .ref (ad 11), .ref (ad 12), .ref (ad 13), .ref (ad 14), .ref (ad 15), .int v140, .int v142, .ref (ad 16), .int v144, .int v146, .int v148, .int v150, .int v151, .ref (ad 17), .ref (ad 18), .int v152, .ref (ad 19)]) := ((o156 0 (by decide)).trans c155)
  refine xcVv E hs hQ hml hl.1 0 (gX12_begins_0 l g ad hD S156 hI ) mX12_begins q1633 (by decide) c205 rfl rfl ⟨(Nat.le_of_ble_eq_true rfl), (Nat.le_of_ble_eq_true rfl)⟩ ⟨(Nat.le_of_ble_eq_true rfl), (Nat.le_of_ble_eq_true rfl)⟩ (Nat.le_of_ble_eq_true rfl) rfl dX12_shore_10 (fun S206 H locs hp206 hQ _ => ?_)
  obtain ⟨hI, o206, g206_0, g206_1, g206_2⟩ := hp206
  obtain ⟨v207, v208, v210, v212, v214, v215, w216, v217, v219, v220, v221, v222, v224, v226, v228, v230, v232, v233, v234, c235, b209, b211, b213, b218, b223, b225, b227, b229, b231⟩ := invM_0 hI
  have c235 : S206 0 = .inr (12, [.int v207, .ref (ad 1), .ref (ad 2), .ref (ad 3), .ref (ad 4), .ref (ad 5), .int v208, .int v210, .int v212, .int v214, .int v215, .long w216, .int v217, .int v219, .int v220, .int v221, .ref (ad 6), .ref (ad 7), .ref (ad 8), .ref (ad 9), .ref (ad 10), .ref (ad 11), .ref (ad 12), .ref (ad 13), .ref (ad 14), .ref (ad 15), .int v222, .int v224, .ref (ad 16), .int v226, .int v228, .int v230, .int v232, .int v233, .ref (ad 17), .ref (ad 18), .int v234, .ref (ad 19)]) := c235
  have q236 : fld (S206 0) 6 = v208.toInt := fld_of c235 rfl
  have q237 : fld (S206 0) 7 = v210.toInt := fld_of c235 rfl
  have q238 : fld (S156 0) 6 = v126.toInt := fld_of c205 rfl
  have q239 : fld (S206 0) 12 = v217.toInt := fld_of c235 rfl
  have b240 : Bd v217 (0) (0) := ⟨(b218).1, by omega⟩
  have c241 : S206 7 = .inl (g.2 0, 50, .inl f159) := ((o206 7 (by decide)).trans c160)
  have c242 : S206 6 = .inl (g.2 0, 5, .inl f197) := ((o206 6 (by decide)).trans c198)
  have loop13 : ∀ (n : Nat) (S_13 : SS) (H : Heap) (locs : List Loc) (ls : Array Slot) (y13_0_0 : Int32) (y13_0_6 : Int32) (y13_0_7 : Int32) (y13_0_8 : Int32) (y13_0_9 : Int32) (y13_0_10 : Int32) (wy13_0_11 : Int64) (y13_0_12 : Int32) (y13_0_13 : Int32) (y13_0_14 : Int32) (y13_0_15 : Int32) (y13_0_26 : Int32) (y13_0_27 : Int32) (y13_0_29 : Int32) (y13_0_30 : Int32) (y13_0_31 : Int32) (y13_0_32 : Int32) (y13_0_33 : Int32) (y13_0_36 : Int32) (ye13_7_40 : Int32) (ye13_7_41 : Int32) (ye13_7_43 : Int32) (ye13_7_46 : Int32) (ye13_7_47 : Int32) (ye13_7_48 : Int32) (ye13_7_49 : Int32) (ye13_6_4 : Int32), Bd y13_0_6 (0) (1200) → Bd y13_0_7 (0) (1200) → Bd y13_0_8 (0) (4) → Bd y13_0_12 (0) (3) → Bd y13_0_26 (0) (11) → Bd y13_0_27 (-1) (400) → Bd y13_0_29 (0) (2) → Bd y13_0_30 (0) (11) → Bd y13_0_31 (-1) (468) → Bd ye13_7_40 (0) (12) → Bd ye13_7_41 (0) (12) → Bd ye13_7_43 (0) (12) → Bd ye13_7_46 (0) (8) → Bd ye13_7_47 (0) (6) → Bd ye13_7_48 (0) (3) → Bd ye13_7_49 (0) (0) → Bd ye13_6_4 (0) (100000) → 0 ≤ y13_0_6.toInt + (-1) * y13_0_7.toInt → 0 ≤ (-1) * ye13_7_49.toInt → 0 ≤ ye13_7_49.toInt → 0 ≤ 8 * ye13_6_4.toInt + (-1) * ye13_7_46.toInt → 0 ≤ (-1) * ye13_6_4.toInt + (-4) * y13_0_6.toInt + 4 * y13_0_7.toInt + (-1) * y13_0_8.toInt + 10000 * y13_0_12.toInt + 4804 → 0 ≤ 12 * ye13_7_41.toInt + (-1) * ye13_7_40.toInt → 0 ≤ 12 * ye13_7_43.toInt + (-1) * ye13_7_40.toInt → 0 ≤ 8 * ye13_7_40.toInt + (-1) * ye13_7_46.toInt → 0 ≤ 3 * ye13_7_40.toInt + (-1) * ye13_7_48.toInt → 0 ≤ 40000 * ye13_7_40.toInt + (-1) * ye13_6_4.toInt → 4 * y13_0_6.toInt + (-4) * y13_0_7.toInt + y13_0_8.toInt + (-10000) * y13_0_12.toInt + 30000 < ((n : Nat) : Int) → InvM g ad S_13 → (∀ j, j ∉ ([0, 6, 7, 8, 9, 10, 11] : List Nat) → S_13 j = S206 j) → S_13 0 = .inr (12, [.int y13_0_0, .ref (ad 1), .ref (ad 2), .ref (ad 3), .ref (ad 4), .ref (ad 5), .int y13_0_6, .int y13_0_7, .int y13_0_8, .int y13_0_9, .int y13_0_10, .long wy13_0_11, .int y13_0_12, .int y13_0_13, .int y13_0_14, .int y13_0_15, .ref (ad 6), .ref (ad 7), .ref (ad 8), .ref (ad 9), .ref (ad 10), .ref (ad 11), .ref (ad 12), .ref (ad 13), .ref (ad 14), .ref (ad 15), .int y13_0_26, .int y13_0_27, .ref (ad 16), .int y13_0_29, .int y13_0_30, .int y13_0_31, .int y13_0_32, .int y13_0_33, .ref (ad 17), .ref (ad 18), .int y13_0_36, .ref (ad 19)]) → EFp (S_13 7) (S 7) 0 40 → EFp (S_13 6) (S 6) 0 4 → EFp (S_13 9) (S 9) 0 96 → elm (S_13 7) 40 = ye13_7_40.toInt → elm (S_13 7) 41 = ye13_7_41.toInt → elm (S_13 7) 43 = ye13_7_43.toInt → elm (S_13 7) 46 = ye13_7_46.toInt → elm (S_13 7) 47 = ye13_7_47.toInt → elm (S_13 7) 48 = ye13_7_48.toInt → elm (S_13 7) 49 = ye13_7_49.toInt → elm (S_13 6) 4 = ye13_6_4.toInt → HTp (S_13 7) (S_13 9) 4 → Hp g ad 20 S_13 (FA ad 20) s.heap H locs → lv_has ls 1 [(0, .ref (ad 0))] → W p l e (Rm 7) s m [.ref (ad 0)].toArray below meth c H locs 0 0 (MQ below (va_Qi (fun r S' => InvM g ad S' ∧ (∀ j, j ∉ ([0, 6, 7, 8, 9, 10, 11, 12] : List Nat) → S' j = S j) ∧ Bd r (-4) (4804) ∧ (0 ≤ 12 * elm (S' 7) 1 + (-1) * elm (S' 7) 0) ∧ (0 ≤ 12 * elm (S' 7) 3 + (-1) * elm (S' 7) 0) ∧ (0 ≤ 8 * elm (S' 7) 0 + (-1) * elm (S' 7) 6) ∧ (0 ≤ 3 * elm (S' 7) 0 + (-1) * elm (S' 7) 8) ∧ (0 ≤ 40000 * elm (S' 7) 0 + (-1) * elm (S' 6) 0) ∧ (0 ≤ 12 * elm (S' 7) 11 + (-1) * elm (S' 7) 10) ∧ (0 ≤ 12 * elm (S' 7) 13 + (-1) * elm (S' 7) 10) ∧ (0 ≤ 8 * elm (S' 7) 10 + (-1) * elm (S' 7) 16) ∧ (0 ≤ 3 * elm (S' 7) 10 + (-1) * elm (S' 7) 18) ∧ (0 ≤ 40000 * elm (S' 7) 10 + (-1) * elm (S' 6) 1) ∧ (0 ≤ 12 * elm (S' 7) 21 + (-1) * elm (S' 7) 20) ∧ (0 ≤ 12 * elm (S' 7) 23 + (-1) * elm (S' 7) 20) ∧ (0 ≤ 8 * elm (S' 7) 20 + (-1) * elm (S' 7) 26) ∧ (0 ≤ 3 * elm (S' 7) 20 + (-1) * elm (S' 7) 28) ∧ (0 ≤ 40000 * elm (S' 7) 20 + (-1) * elm (S' 6) 2) ∧ (0 ≤ 12 * elm (S' 7) 31 + (-1) * elm (S' 7) 30) ∧ (0 ≤ 12 * elm (S' 7) 33 + (-1) * elm (S' 7) 30) ∧ (0 ≤ 8 * elm (S' 7) 30 + (-1) * elm (S' 7) 36) ∧ (0 ≤ 3 * elm (S' 7) 30 + (-1) * elm (S' 7) 38) ∧ (0 ≤ 40000 * elm (S' 7) 30 + (-1) * elm (S' 6) 3) ∧ (ATp (S' 7) (S' 12) 0) ∧ (ATp (S' 7) (S' 12) 1) ∧ (ATp (S' 7) (S' 12) 2) ∧ (ATp (S' 7) (S' 12) 3) ∧ (HTp (S' 7) (S' 9) 0) ∧ (HTp (S' 7) (S' 9) 1) ∧ (HTp (S' 7) (S' 9) 2) ∧ (HTp (S' 7) (S' 9) 3)) (QB g ad 20) (FA ad 20)) [.ref (ad 0)].toArray s 0 0 (FA ad 20)) (F0 m 13 ls []) := by
    intro n
    induction n with
    | zero => intro S_13 H locs ls y13_0_0 y13_0_6 y13_0_7 y13_0_8 y13_0_9 y13_0_10 wy13_0_11 y13_0_12 y13_0_13 y13_0_14 y13_0_15 y13_0_26 y13_0_27 y13_0_29 y13_0_30 y13_0_31 y13_0_32 y13_0_33 y13_0_36 ye13_7_40 ye13_7_41 ye13_7_43 ye13_7_46 ye13_7_47 ye13_7_48 ye13_7_49 ye13_6_4 By13_0_6 By13_0_7 By13_0_8 By13_0_12 By13_0_26 By13_0_27 By13_0_29 By13_0_30 By13_0_31 Bye13_7_40 Bye13_7_41 Bye13_7_43 Bye13_7_46 Bye13_7_47 Bye13_7_48 Bye13_7_49 Bye13_6_4 C13_0 C13_1 C13_2 C13_3 C13_4 C13_5 C13_6 C13_7 C13_8 C13_9 hn13_ hI hf13 cl13_0 hE13_7 hE13_6 hE13_9 hy13_7_40 hy13_7_41 hy13_7_43 hy13_7_46 hy13_7_47 hy13_7_48 hy13_7_49 hy13_6_4 hC13 hQ hl; exfalso; omega
    | succ n13_ ih13 =>
      intro S_13 H locs ls y13_0_0 y13_0_6 y13_0_7 y13_0_8 y13_0_9 y13_0_10 wy13_0_11 y13_0_12 y13_0_13 y13_0_14 y13_0_15 y13_0_26 y13_0_27 y13_0_29 y13_0_30 y13_0_31 y13_0_32 y13_0_33 y13_0_36 ye13_7_40 ye13_7_41 ye13_7_43 ye13_7_46 ye13_7_47 ye13_7_48 ye13_7_49 ye13_6_4 By13_0_6 By13_0_7 By13_0_8 By13_0_12 By13_0_26 By13_0_27 By13_0_29 By13_0_30 By13_0_31 Bye13_7_40 Bye13_7_41 Bye13_7_43 Bye13_7_46 Bye13_7_47 Bye13_7_48 Bye13_7_49 Bye13_6_4 C13_0 C13_1 C13_2 C13_3 C13_4 C13_5 C13_6 C13_7 C13_8 C13_9 hn13_ hI hf13 cl13_0 hE13_7 hE13_6 hE13_9 hy13_7_40 hy13_7_41 hy13_7_43 hy13_7_46 hy13_7_47 hy13_7_48 hy13_7_49 hy13_6_4 hC13 hQ hl
      have b243 : Bd ye13_6_4 (0) (34804) := ⟨(Bye13_6_4).1, by omega⟩
      refine lv_aload_n hx hb dX12_shore_13 rfl (lv_at hl 0 rfl) ?_
      refine xcVi E hs hQ hml hl.1 0 (gX12_isGood_0 l g ad hD S_13 hI ) mX12_isGood q1650 (by decide) cl13_0 rfl rfl ⟨(Nat.le_of_ble_eq_true rfl), (Nat.le_of_ble_eq_true rfl)⟩ ⟨(Nat.le_of_ble_eq_true rfl), (Nat.le_of_ble_eq_true rfl)⟩ (Nat.le_of_ble_eq_true rfl) rfl dX12_shore_14 (fun r244 S244 H locs hp244 hQ _ => ?_)
      obtain ⟨rfl, b244, g244_0, g244_1⟩ := hp244
      have q245 : fld (S_13 0) 12 = y13_0_12.toInt := fld_of cl13_0 rfl
      refine lv_if_eq (tgt := 149) hx hb dX12_shore_17 (by decide) (fun k246 => ?_) (fun k246 => ?_)
      · have h247 := ib_eq k246
        have b248 : Bd r244 (0) (0) := ⟨(b244).1, ((rf_eq b244 (by decide : Bd 0 (0) (0)) h247).1).2⟩
        clear g244_0
        have g249 := g244_1.resolve_left (by omega)
        clear g244_1
        have b250 : Bd y13_0_12 (1) (3) := ⟨by omega, (By13_0_12).2⟩
        refine lv_aload_n hx hb dX12_shore_149 rfl (lv_at hl 0 rfl) ?_
        refine xcVv E hs hQ hml hl.1 0 (gX12_isOver_0 l g ad hD S_13 hI ) mX12_isOver q1735 (by decide) cl13_0 rfl rfl ⟨(Nat.le_of_ble_eq_true rfl), (Nat.le_of_ble_eq_true rfl)⟩ ⟨(Nat.le_of_ble_eq_true rfl), (Nat.le_of_ble_eq_true rfl)⟩ (Nat.le_of_ble_eq_true rfl) rfl dX12_shore_150 (fun S251 H locs hp251 hQ _ => ?_)
        obtain ⟨hI, o251, g251_0⟩ := hp251
        obtain ⟨v252, v253, v255, v257, v259, v260, w261, v262, v264, v265, v266, v267, v269, v271, v273, v275, v277, v278, v279, c280, b254, b256, b258, b263, b268, b270, b272, b274, b276⟩ := invM_0 hI
        have c280 : S251 0 = .inr (12, [.int v252, .ref (ad 1), .ref (ad 2), .ref (ad 3), .ref (ad 4), .ref (ad 5), .int v253, .int v255, .int v257, .int v259, .int v260, .long w261, .int v262, .int v264, .int v265, .int v266, .ref (ad 6), .ref (ad 7), .ref (ad 8), .ref (ad 9), .ref (ad 10), .ref (ad 11), .ref (ad 12), .ref (ad 13), .ref (ad 14), .ref (ad 15), .int v267, .int v269, .ref (ad 16), .int v271, .int v273, .int v275, .int v277, .int v278, .ref (ad 17), .ref (ad 18), .int v279, .ref (ad 19)]) := c280
        have q281 : fld (S251 0) 12 = v262.toInt := fld_of c280 rfl
        have b282 : Bd v262 (1) (3) := ⟨by omega, (b263).2⟩
        refine lv_aload_n hx hb dX12_shore_153 rfl (lv_at hl 0 rfl) ?_
        refine xget E hQ 0 (by decide) c280 rfl 12 (by decide) q1480 rfl dX12_shore_154 ?_
        refine lv_if_eq (tgt := 163) hx hb dX12_shore_157 (by decide) (fun k283 => ?_) (fun k283 => ?_)
        · have h284 := ib_eq k283
          have b285 : Bd v262 (1) (0) := ⟨(b282).1, ((rf_eq b282 (by decide : Bd 0 (0) (0)) h284).1).2⟩
          exact absurd (Int.le_trans b285.1 b285.2) (by decide)
        · have h286 := ib_ne k283
          have ef287 : EFp (S251 7) (S 7) 0 40 := (ef_tr hE13_7 (o251 7 (by decide)))
          obtain ⟨f288, c289, b290⟩ := invM_7 hI
          obtain ⟨v291, ee292⟩ : ∃ z : Int32, f288 0 = z := ⟨_, rfl⟩
          have b293 : Bd v291 (0) (12) := (by rw [← ee292]; exact b290.1 0 (by decide))
          have q294 : elm (S251 7) 0 = v291.toInt := (elm_of c289 0).trans (congrArg Int32.toInt (ee292))
          have t295 : v291.toInt = v7.toInt := by have h0 := ef287 0 (by decide) (by decide); omega
          obtain ⟨v296, ee297⟩ : ∃ z : Int32, f288 1 = z := ⟨_, rfl⟩
          have b298 : Bd v296 (0) (12) := (by rw [← ee297]; exact b290.2.1 1 (by decide))
          have q299 : elm (S251 7) 1 = v296.toInt := (elm_of c289 1).trans (congrArg Int32.toInt (ee297))
          have t300 : v296.toInt = v4.toInt := by have h0 := ef287 1 (by decide) (by decide); omega
          obtain ⟨v301, ee302⟩ : ∃ z : Int32, f288 3 = z := ⟨_, rfl⟩
          have b303 : Bd v301 (0) (12) := (by rw [← ee302]; exact b290.2.2.2.1 3 (by decide))
          have q304 : elm (S251 7) 3 = v301.toInt := (elm_of c289 3).trans (congrArg Int32.toInt (ee302))
          have t305 : v301.toInt = v10.toInt := by have h0 := ef287 3 (by decide) (by decide); omega
          obtain ⟨v306, ee307⟩ : ∃ z : Int32, f288 6 = z := ⟨_, rfl⟩
          have b308 : Bd v306 (0) (8) := (by rw [← ee307]; exact b290.2.2.2.2.1 6 (by decide))
          have q309 : elm (S251 7) 6 = v306.toInt := (elm_of c289 6).trans (congrArg Int32.toInt (ee307))
          have t310 : v306.toInt = v13.toInt := by have h0 := ef287 6 (by decide) (by decide); omega
          obtain ⟨v311, ee312⟩ : ∃ z : Int32, f288 8 = z := ⟨_, rfl⟩
          have b313 : Bd v311 (0) (3) := (by rw [← ee312]; exact b290.2.2.2.2.2.2.1 8 (by decide))
          have q314 : elm (S251 7) 8 = v311.toInt := (elm_of c289 8).trans (congrArg Int32.toInt (ee312))
          have t315 : v311.toInt = v16.toInt := by have h0 := ef287 8 (by decide) (by decide); omega
          obtain ⟨v316, ee317⟩ : ∃ z : Int32, f288 9 = z := ⟨_, rfl⟩
          have b318 : Bd v316 (0) (40) := (by rw [← ee317]; exact b290.2.2.2.2.2.2.2 9 (by decide))
          have q319 : elm (S251 7) 9 = v316.toInt := (elm_of c289 9).trans (congrArg Int32.toInt (ee317))
          have t320 : v316.toInt = v79.toInt := by have h0 := ef287 9 (by decide) (by decide); omega
          obtain ⟨v321, ee322⟩ : ∃ z : Int32, f288 10 = z := ⟨_, rfl⟩
          have b323 : Bd v321 (0) (12) := (by rw [← ee322]; exact b290.1 10 (by decide))
          have q324 : elm (S251 7) 10 = v321.toInt := (elm_of c289 10).trans (congrArg Int32.toInt (ee322))
          have t325 : v321.toInt = v28.toInt := by have h0 := ef287 10 (by decide) (by decide); omega
          obtain ⟨v326, ee327⟩ : ∃ z : Int32, f288 11 = z := ⟨_, rfl⟩
          have b328 : Bd v326 (0) (12) := (by rw [← ee327]; exact b290.2.1 11 (by decide))
          have q329 : elm (S251 7) 11 = v326.toInt := (elm_of c289 11).trans (congrArg Int32.toInt (ee327))
          have t330 : v326.toInt = v25.toInt := by have h0 := ef287 11 (by decide) (by decide); omega
          obtain ⟨v331, ee332⟩ : ∃ z : Int32, f288 13 = z := ⟨_, rfl⟩
          have b333 : Bd v331 (0) (12) := (by rw [← ee332]; exact b290.2.2.2.1 13 (by decide))
          have q334 : elm (S251 7) 13 = v331.toInt := (elm_of c289 13).trans (congrArg Int32.toInt (ee332))
          have t335 : v331.toInt = v31.toInt := by have h0 := ef287 13 (by decide) (by decide); omega
          obtain ⟨v336, ee337⟩ : ∃ z : Int32, f288 16 = z := ⟨_, rfl⟩
          have b338 : Bd v336 (0) (8) := (by rw [← ee337]; exact b290.2.2.2.2.1 16 (by decide))
          have q339 : elm (S251 7) 16 = v336.toInt := (elm_of c289 16).trans (congrArg Int32.toInt (ee337))
          have t340 : v336.toInt = v34.toInt := by have h0 := ef287 16 (by decide) (by decide); omega
          obtain ⟨v341, ee342⟩ : ∃ z : Int32, f288 18 = z := ⟨_, rfl⟩
          have b343 : Bd v341 (0) (3) := (by rw [← ee342]; exact b290.2.2.2.2.2.2.1 18 (by decide))
          have q344 : elm (S251 7) 18 = v341.toInt := (elm_of c289 18).trans (congrArg Int32.toInt (ee342))
          have t345 : v341.toInt = v37.toInt := by have h0 := ef287 18 (by decide) (by decide); omega
          obtain ⟨v346, ee347⟩ : ∃ z : Int32, f288 19 = z := ⟨_, rfl⟩
          have b348 : Bd v346 (0) (40) := (by rw [← ee347]; exact b290.2.2.2.2.2.2.2 19 (by decide))
          have q349 : elm (S251 7) 19 = v346.toInt := (elm_of c289 19).trans (congrArg Int32.toInt (ee347))
          have t350 : v346.toInt = v82.toInt := by have h0 := ef287 19 (by decide) (by decide); omega
          obtain ⟨v351, ee352⟩ : ∃ z : Int32, f288 20 = z := ⟨_, rfl⟩
          have b353 : Bd v351 (0) (12) := (by rw [← ee352]; exact b290.1 20 (by decide))
          have q354 : elm (S251 7) 20 = v351.toInt := (elm_of c289 20).trans (congrArg Int32.toInt (ee352))
          have t355 : v351.toInt = v46.toInt := by have h0 := ef287 20 (by decide) (by decide); omega
          obtain ⟨v356, ee357⟩ : ∃ z : Int32, f288 21 = z := ⟨_, rfl⟩
          have b358 : Bd v356 (0) (12) := (by rw [← ee357]; exact b290.2.1 21 (by decide))
          have q359 : elm (S251 7) 21 = v356.toInt := (elm_of c289 21).trans (congrArg Int32.toInt (ee357))
          have t360 : v356.toInt = v43.toInt := by have h0 := ef287 21 (by decide) (by decide); omega
          obtain ⟨v361, ee362⟩ : ∃ z : Int32, f288 23 = z := ⟨_, rfl⟩
          have b363 : Bd v361 (0) (12) := (by rw [← ee362]; exact b290.2.2.2.1 23 (by decide))
          have q364 : elm (S251 7) 23 = v361.toInt := (elm_of c289 23).trans (congrArg Int32.toInt (ee362))
          have t365 : v361.toInt = v49.toInt := by have h0 := ef287 23 (by decide) (by decide); omega
          obtain ⟨v366, ee367⟩ : ∃ z : Int32, f288 26 = z := ⟨_, rfl⟩
          have b368 : Bd v366 (0) (8) := (by rw [← ee367]; exact b290.2.2.2.2.1 26 (by decide))
          have q369 : elm (S251 7) 26 = v366.toInt := (elm_of c289 26).trans (congrArg Int32.toInt (ee367))
          have t370 : v366.toInt = v52.toInt := by have h0 := ef287 26 (by decide) (by decide); omega
          obtain ⟨v371, ee372⟩ : ∃ z : Int32, f288 28 = z := ⟨_, rfl⟩
          have b373 : Bd v371 (0) (3) := (by rw [← ee372]; exact b290.2.2.2.2.2.2.1 28 (by decide))
          have q374 : elm (S251 7) 28 = v371.toInt := (elm_of c289 28).trans (congrArg Int32.toInt (ee372))
          have t375 : v371.toInt = v55.toInt := by have h0 := ef287 28 (by decide) (by decide); omega
          obtain ⟨v376, ee377⟩ : ∃ z : Int32, f288 29 = z := ⟨_, rfl⟩
          have b378 : Bd v376 (0) (40) := (by rw [← ee377]; exact b290.2.2.2.2.2.2.2 29 (by decide))
          have q379 : elm (S251 7) 29 = v376.toInt := (elm_of c289 29).trans (congrArg Int32.toInt (ee377))
          have t380 : v376.toInt = v85.toInt := by have h0 := ef287 29 (by decide) (by decide); omega
          obtain ⟨v381, ee382⟩ : ∃ z : Int32, f288 30 = z := ⟨_, rfl⟩
          have b383 : Bd v381 (0) (12) := (by rw [← ee382]; exact b290.1 30 (by decide))
          have q384 : elm (S251 7) 30 = v381.toInt := (elm_of c289 30).trans (congrArg Int32.toInt (ee382))
          have t385 : v381.toInt = v64.toInt := by have h0 := ef287 30 (by decide) (by decide); omega
          obtain ⟨v386, ee387⟩ : ∃ z : Int32, f288 31 = z := ⟨_, rfl⟩
          have b388 : Bd v386 (0) (12) := (by rw [← ee387]; exact b290.2.1 31 (by decide))
          have q389 : elm (S251 7) 31 = v386.toInt := (elm_of c289 31).trans (congrArg Int32.toInt (ee387))
          have t390 : v386.toInt = v61.toInt := by have h0 := ef287 31 (by decide) (by decide); omega
          obtain ⟨v391, ee392⟩ : ∃ z : Int32, f288 33 = z := ⟨_, rfl⟩
          have b393 : Bd v391 (0) (12) := (by rw [← ee392]; exact b290.2.2.2.1 33 (by decide))
          have q394 : elm (S251 7) 33 = v391.toInt := (elm_of c289 33).trans (congrArg Int32.toInt (ee392))
          have t395 : v391.toInt = v67.toInt := by have h0 := ef287 33 (by decide) (by decide); omega
          obtain ⟨v396, ee397⟩ : ∃ z : Int32, f288 36 = z := ⟨_, rfl⟩
          have b398 : Bd v396 (0) (8) := (by rw [← ee397]; exact b290.2.2.2.2.1 36 (by decide))
          have q399 : elm (S251 7) 36 = v396.toInt := (elm_of c289 36).trans (congrArg Int32.toInt (ee397))
          have t400 : v396.toInt = v70.toInt := by have h0 := ef287 36 (by decide) (by decide); omega
          obtain ⟨v401, ee402⟩ : ∃ z : Int32, f288 38 = z := ⟨_, rfl⟩
          have b403 : Bd v401 (0) (3) := (by rw [← ee402]; exact b290.2.2.2.2.2.2.1 38 (by decide))
          have q404 : elm (S251 7) 38 = v401.toInt := (elm_of c289 38).trans (congrArg Int32.toInt (ee402))
          have t405 : v401.toInt = v73.toInt := by have h0 := ef287 38 (by decide) (by decide); omega
          obtain ⟨v406, ee407⟩ : ∃ z : Int32, f288 39 = z := ⟨_, rfl⟩
          have b408 : Bd v406 (0) (40) := (by rw [← ee407]; exact b290.2.2.2.2.2.2.2 39 (by decide))
          have q409 : elm (S251 7) 39 = v406.toInt := (elm_of c289 39).trans (congrArg Int32.toInt (ee407))
          have t410 : v406.toInt = v88.toInt := by have h0 := ef287 39 (by decide) (by decide); omega
          have ef411 : EFp (S251 6) (S 6) 0 4 := (ef_tr hE13_6 (o251 6 (by decide)))
          obtain ⟨f412, c413, b414⟩ := invM_6 hI
          obtain ⟨v415, ee416⟩ : ∃ z : Int32, f412 0 = z := ⟨_, rfl⟩
          have b417 : Bd v415 (0) (40000) := (by rw [← ee416]; exact b414 0)
          have q418 : elm (S251 6) 0 = v415.toInt := (elm_of c413 0).trans (congrArg Int32.toInt (ee416))
          have t419 : v415.toInt = v22.toInt := by have h0 := ef411 0 (by decide) (by decide); omega
          obtain ⟨v420, ee421⟩ : ∃ z : Int32, f412 1 = z := ⟨_, rfl⟩
          have b422 : Bd v420 (0) (40000) := (by rw [← ee421]; exact b414 1)
          have q423 : elm (S251 6) 1 = v420.toInt := (elm_of c413 1).trans (congrArg Int32.toInt (ee421))
          have t424 : v420.toInt = v40.toInt := by have h0 := ef411 1 (by decide) (by decide); omega
          obtain ⟨v425, ee426⟩ : ∃ z : Int32, f412 2 = z := ⟨_, rfl⟩
          have b427 : Bd v425 (0) (40000) := (by rw [← ee426]; exact b414 2)
          have q428 : elm (S251 6) 2 = v425.toInt := (elm_of c413 2).trans (congrArg Int32.toInt (ee426))
          have t429 : v425.toInt = v58.toInt := by have h0 := ef411 2 (by decide) (by decide); omega
          obtain ⟨v430, ee431⟩ : ∃ z : Int32, f412 3 = z := ⟨_, rfl⟩
          have b432 : Bd v430 (0) (40000) := (by rw [← ee431]; exact b414 3)
          have q433 : elm (S251 6) 3 = v430.toInt := (elm_of c413 3).trans (congrArg Int32.toInt (ee431))
          have t434 : v430.toInt = v76.toInt := by have h0 := ef411 3 (by decide) (by decide); omega
          have at435 : ATp (S251 7) (S251 12) 0 := at_ef hAT0 ef287 (by decide) ((o251 12 (by decide)).trans ((hf13 12 (by decide)).trans ((o206 12 (by decide)).trans ((o156 12 (by decide)).trans (up_eq (j := 12) eS154 (by decide))))))
          have at436 : ATp (S251 7) (S251 12) 1 := at_ef hAT1 ef287 (by decide) ((o251 12 (by decide)).trans ((hf13 12 (by decide)).trans ((o206 12 (by decide)).trans ((o156 12 (by decide)).trans (up_eq (j := 12) eS154 (by decide))))))
          have at437 : ATp (S251 7) (S251 12) 2 := at_ef hAT2 ef287 (by decide) ((o251 12 (by decide)).trans ((hf13 12 (by decide)).trans ((o206 12 (by decide)).trans ((o156 12 (by decide)).trans (up_eq (j := 12) eS154 (by decide))))))
          have at438 : ATp (S251 7) (S251 12) 3 := at_ef hAT3 ef287 (by decide) ((o251 12 (by decide)).trans ((hf13 12 (by decide)).trans ((o206 12 (by decide)).trans ((o156 12 (by decide)).trans (up_eq (j := 12) eS154 (by decide))))))
          have ef439 : EFp (S251 9) (S 9) 0 96 := (ef_tr hE13_9 (o251 9 (by decide)))
          have ht440 : HTp (S251 7) (S251 9) 0 := ht_ef hHT0 ef287 ef439 (by decide) (by show elm _ 6 ≤ 8; omega)
          have ht441 : HTp (S251 7) (S251 9) 1 := ht_ef hHT1 ef287 ef439 (by decide) (by show elm _ 16 ≤ 8; omega)
          have ht442 : HTp (S251 7) (S251 9) 2 := ht_ef hHT2 ef287 ef439 (by decide) (by show elm _ 26 ≤ 8; omega)
          have ht443 : HTp (S251 7) (S251 9) 3 := ht_ef hHT3 ef287 ef439 (by decide) (by show elm _ 36 ≤ 8; omega)
          refine lv_bipush (v := (-4)) hx hb dX12_shore_160 (by decide) ?_
          exact xri E hr hlk hQ (⟨hI, (o_trans (o_trans (o_trans (o_trans (up_o o_refl eS154 (by decide)) o156 (by decide)) o206 (by decide)) hf13 (by decide)) o251 (by decide)), (ib_wk (by decide : Bd (-4) (-4) (-4)) (by decide) (by decide)), (by omega), (by omega), (by omega), (by omega), (by omega), (by omega), (by omega), (by omega), (by omega), (by omega), (by omega), (by omega), (by omega), (by omega), (by omega), (by omega), (by omega), (by omega), (by omega), (by omega), at435, at436, at437, at438, ht440, ht441, ht442, ht443⟩) dX12_shore_162
      · have h444 := ib_ne k246
        have b445 : Bd r244 (1) (1) := rf_nlo b244 (by decide : Bd 0 (0) (0)) h444
        have g446 := g244_0.resolve_left (by omega)
        clear g244_0
        have b447 : Bd y13_0_12 (0) (0) := ⟨(By13_0_12).1, by omega⟩
        clear g244_1
        refine lv_aload_n hx hb dX12_shore_20 rfl (lv_at hl 0 rfl) ?_
        refine xget E hQ 0 (by decide) cl13_0 rfl 8 (by decide) q1476 rfl dX12_shore_21 ?_
        refine lv_if_eq (tgt := 149) hx hb dX12_shore_24 (by decide) (fun k448 => ?_) (fun k448 => ?_)
        · have h449 := ib_eq k448
          have b450 : Bd y13_0_8 (0) (0) := ⟨(By13_0_8).1, ((rf_eq By13_0_8 (by decide : Bd 0 (0) (0)) h449).1).2⟩
          refine lv_aload_n hx hb dX12_shore_149 rfl (lv_at hl 0 rfl) ?_
          refine xcVv E hs hQ hml hl.1 0 (gX12_isOver_0 l g ad hD S_13 hI ) mX12_isOver q1735 (by decide) cl13_0 rfl rfl ⟨(Nat.le_of_ble_eq_true rfl), (Nat.le_of_ble_eq_true rfl)⟩ ⟨(Nat.le_of_ble_eq_true rfl), (Nat.le_of_ble_eq_true rfl)⟩ (Nat.le_of_ble_eq_true rfl) rfl dX12_shore_150 (fun S451 H locs hp451 hQ _ => ?_)
          obtain ⟨hI, o451, g451_0⟩ := hp451
          obtain ⟨v452, v453, v455, v457, v459, v460, w461, v462, v464, v465, v466, v467, v469, v471, v473, v475, v477, v478, v479, c480, b454, b456, b458, b463, b468, b470, b472, b474, b476⟩ := invM_0 hI
          have c480 : S451 0 = .inr (12, [.int v452, .ref (ad 1), .ref (ad 2), .ref (ad 3), .ref (ad 4), .ref (ad 5), .int v453, .int v455, .int v457, .int v459, .int v460, .long w461, .int v462, .int v464, .int v465, .int v466, .ref (ad 6), .ref (ad 7), .ref (ad 8), .ref (ad 9), .ref (ad 10), .ref (ad 11), .ref (ad 12), .ref (ad 13), .ref (ad 14), .ref (ad 15), .int v467, .int v469, .ref (ad 16), .int v471, .int v473, .int v475, .int v477, .int v478, .ref (ad 17), .ref (ad 18), .int v479, .ref (ad 19)]) := c480
          have q481 : fld (S451 0) 12 = v462.toInt := fld_of c480 rfl
          have b482 : Bd v462 (0) (0) := ⟨(b463).1, by omega⟩
          refine lv_aload_n hx hb dX12_shore_153 rfl (lv_at hl 0 rfl) ?_
          refine xget E hQ 0 (by decide) c480 rfl 12 (by decide) q1480 rfl dX12_shore_154 ?_
          refine lv_if_eq (tgt := 163) hx hb dX12_shore_157 (by decide) (fun k483 => ?_) (fun k483 => ?_)
          · have h484 := ib_eq k483
            have ef485 : EFp (S451 7) (S 7) 0 40 := (ef_tr hE13_7 (o451 7 (by decide)))
            obtain ⟨f486, c487, b488⟩ := invM_7 hI
            obtain ⟨v489, ee490⟩ : ∃ z : Int32, f486 0 = z := ⟨_, rfl⟩
            have b491 : Bd v489 (0) (12) := (by rw [← ee490]; exact b488.1 0 (by decide))
            have q492 : elm (S451 7) 0 = v489.toInt := (elm_of c487 0).trans (congrArg Int32.toInt (ee490))
            have t493 : v489.toInt = v7.toInt := by have h0 := ef485 0 (by decide) (by decide); omega
            obtain ⟨v494, ee495⟩ : ∃ z : Int32, f486 1 = z := ⟨_, rfl⟩
            have b496 : Bd v494 (0) (12) := (by rw [← ee495]; exact b488.2.1 1 (by decide))
            have q497 : elm (S451 7) 1 = v494.toInt := (elm_of c487 1).trans (congrArg Int32.toInt (ee495))
            have t498 : v494.toInt = v4.toInt := by have h0 := ef485 1 (by decide) (by decide); omega
            obtain ⟨v499, ee500⟩ : ∃ z : Int32, f486 3 = z := ⟨_, rfl⟩
            have b501 : Bd v499 (0) (12) := (by rw [← ee500]; exact b488.2.2.2.1 3 (by decide))
            have q502 : elm (S451 7) 3 = v499.toInt := (elm_of c487 3).trans (congrArg Int32.toInt (ee500))
            have t503 : v499.toInt = v10.toInt := by have h0 := ef485 3 (by decide) (by decide); omega
            obtain ⟨v504, ee505⟩ : ∃ z : Int32, f486 6 = z := ⟨_, rfl⟩
            have b506 : Bd v504 (0) (8) := (by rw [← ee505]; exact b488.2.2.2.2.1 6 (by decide))
            have q507 : elm (S451 7) 6 = v504.toInt := (elm_of c487 6).trans (congrArg Int32.toInt (ee505))
            have t508 : v504.toInt = v13.toInt := by have h0 := ef485 6 (by decide) (by decide); omega
            obtain ⟨v509, ee510⟩ : ∃ z : Int32, f486 8 = z := ⟨_, rfl⟩
            have b511 : Bd v509 (0) (3) := (by rw [← ee510]; exact b488.2.2.2.2.2.2.1 8 (by decide))
            have q512 : elm (S451 7) 8 = v509.toInt := (elm_of c487 8).trans (congrArg Int32.toInt (ee510))
            have t513 : v509.toInt = v16.toInt := by have h0 := ef485 8 (by decide) (by decide); omega
            obtain ⟨v514, ee515⟩ : ∃ z : Int32, f486 9 = z := ⟨_, rfl⟩
            have b516 : Bd v514 (0) (40) := (by rw [← ee515]; exact b488.2.2.2.2.2.2.2 9 (by decide))
            have q517 : elm (S451 7) 9 = v514.toInt := (elm_of c487 9).trans (congrArg Int32.toInt (ee515))
            have t518 : v514.toInt = v79.toInt := by have h0 := ef485 9 (by decide) (by decide); omega
            obtain ⟨v519, ee520⟩ : ∃ z : Int32, f486 10 = z := ⟨_, rfl⟩
            have b521 : Bd v519 (0) (12) := (by rw [← ee520]; exact b488.1 10 (by decide))
            have q522 : elm (S451 7) 10 = v519.toInt := (elm_of c487 10).trans (congrArg Int32.toInt (ee520))
            have t523 : v519.toInt = v28.toInt := by have h0 := ef485 10 (by decide) (by decide); omega
            obtain ⟨v524, ee525⟩ : ∃ z : Int32, f486 11 = z := ⟨_, rfl⟩
            have b526 : Bd v524 (0) (12) := (by rw [← ee525]; exact b488.2.1 11 (by decide))
            have q527 : elm (S451 7) 11 = v524.toInt := (elm_of c487 11).trans (congrArg Int32.toInt (ee525))
            have t528 : v524.toInt = v25.toInt := by have h0 := ef485 11 (by decide) (by decide); omega
            obtain ⟨v529, ee530⟩ : ∃ z : Int32, f486 13 = z := ⟨_, rfl⟩
            have b531 : Bd v529 (0) (12) := (by rw [← ee530]; exact b488.2.2.2.1 13 (by decide))
            have q532 : elm (S451 7) 13 = v529.toInt := (elm_of c487 13).trans (congrArg Int32.toInt (ee530))
            have t533 : v529.toInt = v31.toInt := by have h0 := ef485 13 (by decide) (by decide); omega
            obtain ⟨v534, ee535⟩ : ∃ z : Int32, f486 16 = z := ⟨_, rfl⟩
            have b536 : Bd v534 (0) (8) := (by rw [← ee535]; exact b488.2.2.2.2.1 16 (by decide))
            have q537 : elm (S451 7) 16 = v534.toInt := (elm_of c487 16).trans (congrArg Int32.toInt (ee535))
            have t538 : v534.toInt = v34.toInt := by have h0 := ef485 16 (by decide) (by decide); omega
            obtain ⟨v539, ee540⟩ : ∃ z : Int32, f486 18 = z := ⟨_, rfl⟩
            have b541 : Bd v539 (0) (3) := (by rw [← ee540]; exact b488.2.2.2.2.2.2.1 18 (by decide))
            have q542 : elm (S451 7) 18 = v539.toInt := (elm_of c487 18).trans (congrArg Int32.toInt (ee540))
            have t543 : v539.toInt = v37.toInt := by have h0 := ef485 18 (by decide) (by decide); omega
            obtain ⟨v544, ee545⟩ : ∃ z : Int32, f486 19 = z := ⟨_, rfl⟩
            have b546 : Bd v544 (0) (40) := (by rw [← ee545]; exact b488.2.2.2.2.2.2.2 19 (by decide))
            have q547 : elm (S451 7) 19 = v544.toInt := (elm_of c487 19).trans (congrArg Int32.toInt (ee545))
            have t548 : v544.toInt = v82.toInt := by have h0 := ef485 19 (by decide) (by decide); omega
            obtain ⟨v549, ee550⟩ : ∃ z : Int32, f486 20 = z := ⟨_, rfl⟩
            have b551 : Bd v549 (0) (12) := (by rw [← ee550]; exact b488.1 20 (by decide))
            have q552 : elm (S451 7) 20 = v549.toInt := (elm_of c487 20).trans (congrArg Int32.toInt (ee550))
            have t553 : v549.toInt = v46.toInt := by have h0 := ef485 20 (by decide) (by decide); omega
            obtain ⟨v554, ee555⟩ : ∃ z : Int32, f486 21 = z := ⟨_, rfl⟩
            have b556 : Bd v554 (0) (12) := (by rw [← ee555]; exact b488.2.1 21 (by decide))
            have q557 : elm (S451 7) 21 = v554.toInt := (elm_of c487 21).trans (congrArg Int32.toInt (ee555))
            have t558 : v554.toInt = v43.toInt := by have h0 := ef485 21 (by decide) (by decide); omega
            obtain ⟨v559, ee560⟩ : ∃ z : Int32, f486 23 = z := ⟨_, rfl⟩
            have b561 : Bd v559 (0) (12) := (by rw [← ee560]; exact b488.2.2.2.1 23 (by decide))
            have q562 : elm (S451 7) 23 = v559.toInt := (elm_of c487 23).trans (congrArg Int32.toInt (ee560))
            have t563 : v559.toInt = v49.toInt := by have h0 := ef485 23 (by decide) (by decide); omega
            obtain ⟨v564, ee565⟩ : ∃ z : Int32, f486 26 = z := ⟨_, rfl⟩
            have b566 : Bd v564 (0) (8) := (by rw [← ee565]; exact b488.2.2.2.2.1 26 (by decide))
            have q567 : elm (S451 7) 26 = v564.toInt := (elm_of c487 26).trans (congrArg Int32.toInt (ee565))
            have t568 : v564.toInt = v52.toInt := by have h0 := ef485 26 (by decide) (by decide); omega
            obtain ⟨v569, ee570⟩ : ∃ z : Int32, f486 28 = z := ⟨_, rfl⟩
            have b571 : Bd v569 (0) (3) := (by rw [← ee570]; exact b488.2.2.2.2.2.2.1 28 (by decide))
            have q572 : elm (S451 7) 28 = v569.toInt := (elm_of c487 28).trans (congrArg Int32.toInt (ee570))
            have t573 : v569.toInt = v55.toInt := by have h0 := ef485 28 (by decide) (by decide); omega
            obtain ⟨v574, ee575⟩ : ∃ z : Int32, f486 29 = z := ⟨_, rfl⟩
            have b576 : Bd v574 (0) (40) := (by rw [← ee575]; exact b488.2.2.2.2.2.2.2 29 (by decide))
            have q577 : elm (S451 7) 29 = v574.toInt := (elm_of c487 29).trans (congrArg Int32.toInt (ee575))
            have t578 : v574.toInt = v85.toInt := by have h0 := ef485 29 (by decide) (by decide); omega
            obtain ⟨v579, ee580⟩ : ∃ z : Int32, f486 30 = z := ⟨_, rfl⟩
            have b581 : Bd v579 (0) (12) := (by rw [← ee580]; exact b488.1 30 (by decide))
            have q582 : elm (S451 7) 30 = v579.toInt := (elm_of c487 30).trans (congrArg Int32.toInt (ee580))
            have t583 : v579.toInt = v64.toInt := by have h0 := ef485 30 (by decide) (by decide); omega
            obtain ⟨v584, ee585⟩ : ∃ z : Int32, f486 31 = z := ⟨_, rfl⟩
            have b586 : Bd v584 (0) (12) := (by rw [← ee585]; exact b488.2.1 31 (by decide))
            have q587 : elm (S451 7) 31 = v584.toInt := (elm_of c487 31).trans (congrArg Int32.toInt (ee585))
            have t588 : v584.toInt = v61.toInt := by have h0 := ef485 31 (by decide) (by decide); omega
            obtain ⟨v589, ee590⟩ : ∃ z : Int32, f486 33 = z := ⟨_, rfl⟩
            have b591 : Bd v589 (0) (12) := (by rw [← ee590]; exact b488.2.2.2.1 33 (by decide))
            have q592 : elm (S451 7) 33 = v589.toInt := (elm_of c487 33).trans (congrArg Int32.toInt (ee590))
            have t593 : v589.toInt = v67.toInt := by have h0 := ef485 33 (by decide) (by decide); omega
            obtain ⟨v594, ee595⟩ : ∃ z : Int32, f486 36 = z := ⟨_, rfl⟩
            have b596 : Bd v594 (0) (8) := (by rw [← ee595]; exact b488.2.2.2.2.1 36 (by decide))
            have q597 : elm (S451 7) 36 = v594.toInt := (elm_of c487 36).trans (congrArg Int32.toInt (ee595))
            have t598 : v594.toInt = v70.toInt := by have h0 := ef485 36 (by decide) (by decide); omega
            obtain ⟨v599, ee600⟩ : ∃ z : Int32, f486 38 = z := ⟨_, rfl⟩
            have b601 : Bd v599 (0) (3) := (by rw [← ee600]; exact b488.2.2.2.2.2.2.1 38 (by decide))
            have q602 : elm (S451 7) 38 = v599.toInt := (elm_of c487 38).trans (congrArg Int32.toInt (ee600))
            have t603 : v599.toInt = v73.toInt := by have h0 := ef485 38 (by decide) (by decide); omega
            obtain ⟨v604, ee605⟩ : ∃ z : Int32, f486 39 = z := ⟨_, rfl⟩
            have b606 : Bd v604 (0) (40) := (by rw [← ee605]; exact b488.2.2.2.2.2.2.2 39 (by decide))
            have q607 : elm (S451 7) 39 = v604.toInt := (elm_of c487 39).trans (congrArg Int32.toInt (ee605))
            have t608 : v604.toInt = v88.toInt := by have h0 := ef485 39 (by decide) (by decide); omega
            have ef609 : EFp (S451 6) (S 6) 0 4 := (ef_tr hE13_6 (o451 6 (by decide)))
            obtain ⟨f610, c611, b612⟩ := invM_6 hI
            obtain ⟨v613, ee614⟩ : ∃ z : Int32, f610 0 = z := ⟨_, rfl⟩
            have b615 : Bd v613 (0) (40000) := (by rw [← ee614]; exact b612 0)
            have q616 : elm (S451 6) 0 = v613.toInt := (elm_of c611 0).trans (congrArg Int32.toInt (ee614))
            have t617 : v613.toInt = v22.toInt := by have h0 := ef609 0 (by decide) (by decide); omega
            obtain ⟨v618, ee619⟩ : ∃ z : Int32, f610 1 = z := ⟨_, rfl⟩
            have b620 : Bd v618 (0) (40000) := (by rw [← ee619]; exact b612 1)
            have q621 : elm (S451 6) 1 = v618.toInt := (elm_of c611 1).trans (congrArg Int32.toInt (ee619))
            have t622 : v618.toInt = v40.toInt := by have h0 := ef609 1 (by decide) (by decide); omega
            obtain ⟨v623, ee624⟩ : ∃ z : Int32, f610 2 = z := ⟨_, rfl⟩
            have b625 : Bd v623 (0) (40000) := (by rw [← ee624]; exact b612 2)
            have q626 : elm (S451 6) 2 = v623.toInt := (elm_of c611 2).trans (congrArg Int32.toInt (ee624))
            have t627 : v623.toInt = v58.toInt := by have h0 := ef609 2 (by decide) (by decide); omega
            obtain ⟨v628, ee629⟩ : ∃ z : Int32, f610 3 = z := ⟨_, rfl⟩
            have b630 : Bd v628 (0) (40000) := (by rw [← ee629]; exact b612 3)
            have q631 : elm (S451 6) 3 = v628.toInt := (elm_of c611 3).trans (congrArg Int32.toInt (ee629))
            have t632 : v628.toInt = v76.toInt := by have h0 := ef609 3 (by decide) (by decide); omega
            have at633 : ATp (S451 7) (S451 12) 0 := at_ef hAT0 ef485 (by decide) ((o451 12 (by decide)).trans ((hf13 12 (by decide)).trans ((o206 12 (by decide)).trans ((o156 12 (by decide)).trans (up_eq (j := 12) eS154 (by decide))))))
            have at634 : ATp (S451 7) (S451 12) 1 := at_ef hAT1 ef485 (by decide) ((o451 12 (by decide)).trans ((hf13 12 (by decide)).trans ((o206 12 (by decide)).trans ((o156 12 (by decide)).trans (up_eq (j := 12) eS154 (by decide))))))
            have at635 : ATp (S451 7) (S451 12) 2 := at_ef hAT2 ef485 (by decide) ((o451 12 (by decide)).trans ((hf13 12 (by decide)).trans ((o206 12 (by decide)).trans ((o156 12 (by decide)).trans (up_eq (j := 12) eS154 (by decide))))))
            have at636 : ATp (S451 7) (S451 12) 3 := at_ef hAT3 ef485 (by decide) ((o451 12 (by decide)).trans ((hf13 12 (by decide)).trans ((o206 12 (by decide)).trans ((o156 12 (by decide)).trans (up_eq (j := 12) eS154 (by decide))))))
            have ef637 : EFp (S451 9) (S 9) 0 96 := (ef_tr hE13_9 (o451 9 (by decide)))
            have ht638 : HTp (S451 7) (S451 9) 0 := ht_ef hHT0 ef485 ef637 (by decide) (by show elm _ 6 ≤ 8; omega)
            have ht639 : HTp (S451 7) (S451 9) 1 := ht_ef hHT1 ef485 ef637 (by decide) (by show elm _ 16 ≤ 8; omega)
            have ht640 : HTp (S451 7) (S451 9) 2 := ht_ef hHT2 ef485 ef637 (by decide) (by show elm _ 26 ≤ 8; omega)
            have ht641 : HTp (S451 7) (S451 9) 3 := ht_ef hHT3 ef485 ef637 (by decide) (by show elm _ 36 ≤ 8; omega)
            refine lv_aload_n hx hb dX12_shore_163 rfl (lv_at hl 0 rfl) ?_
            refine lv_iconst (v := 4) hx hb dX12_shore_164 (by decide) ?_
            refine lv_iconst (v := 0) hx hb dX12_shore_165 (by decide) ?_
            have q642 : (4 : Int32).toInt = 4 := by decide
            have q643 : (0 : Int32).toInt = 0 := by decide
            have ee644 : f486 49 = ye13_7_49 := Int32.toInt_inj.mp ((elm_of c487 49).symm.trans ((congrArg (fun e => elm e 49) (o451 7 (by decide))).trans hy13_7_49))
            have q645 : elm (S451 7) 49 = ye13_7_49.toInt := (elm_of c487 49).trans (congrArg Int32.toInt (ee644))
            have ee646 : f486 40 = ye13_7_40 := Int32.toInt_inj.mp ((elm_of c487 40).symm.trans ((congrArg (fun e => elm e 40) (o451 7 (by decide))).trans hy13_7_40))
            have ee647 : f486 41 = ye13_7_41 := Int32.toInt_inj.mp ((elm_of c487 41).symm.trans ((congrArg (fun e => elm e 41) (o451 7 (by decide))).trans hy13_7_41))
            have ee648 : f486 43 = ye13_7_43 := Int32.toInt_inj.mp ((elm_of c487 43).symm.trans ((congrArg (fun e => elm e 43) (o451 7 (by decide))).trans hy13_7_43))
            have ee649 : f486 46 = ye13_7_46 := Int32.toInt_inj.mp ((elm_of c487 46).symm.trans ((congrArg (fun e => elm e 46) (o451 7 (by decide))).trans hy13_7_46))
            have ee650 : f486 48 = ye13_7_48 := Int32.toInt_inj.mp ((elm_of c487 48).symm.trans ((congrArg (fun e => elm e 48) (o451 7 (by decide))).trans hy13_7_48))
            have ee651 : f610 4 = ye13_6_4 := Int32.toInt_inj.mp ((elm_of c611 4).symm.trans ((congrArg (fun e => elm e 4) (o451 6 (by decide))).trans hy13_6_4))
            refine xcVv E hs hQ hml hl.1 0 (gX12_copyShore_4_0 l g ad hD S451 hI at633 at634 at635 at636 (at_z (show elm (S451 7) 49 ≤ 0 by omega)) ht638 ht639 ht640 ht641 (ht_tr hC13 (o451 7 (by decide)) (o451 9 (by decide)))) mX12_copyShore q1739 (by decide) c480 rfl rfl ⟨(Nat.le_of_ble_eq_true rfl), (Nat.le_of_ble_eq_true rfl)⟩ ⟨(Nat.le_of_ble_eq_true rfl), (Nat.le_of_ble_eq_true rfl)⟩ (Nat.le_of_ble_eq_true rfl) rfl dX12_shore_166 (fun S652 H locs hp652 hQ _ => ?_)
            obtain ⟨hI, o652, g652_0, g652_1, g652_2, g652_3, g652_4, g652_5, g652_6, g652_7, g652_8, g652_9, g652_10, g652_11, g652_12, g652_13, g652_14, g652_15, g652_16, g652_17, g652_18, g652_19, g652_20, g652_21, g652_22, g652_23, g652_24, g652_25, g652_26, g652_27, u652_0, u652_1, u652_2, u652_3, u652_4, u652_5, u652_6, u652_7⟩ := hp652
            have q653 : elm (S451 7) 40 = ye13_7_40.toInt := (elm_of c487 40).trans (congrArg Int32.toInt (ee646))
            obtain ⟨f654, c655, b656⟩ := invM_7 hI
            obtain ⟨v657, ee658⟩ : ∃ z : Int32, f654 0 = z := ⟨_, rfl⟩
            have b659 : Bd v657 (0) (12) := (by rw [← ee658]; exact b656.1 0 (by decide))
            have q660 : elm (S652 7) 0 = v657.toInt := (elm_of c655 0).trans (congrArg Int32.toInt (ee658))
            have q661 : elm (S451 7) 41 = ye13_7_41.toInt := (elm_of c487 41).trans (congrArg Int32.toInt (ee647))
            obtain ⟨v662, ee663⟩ : ∃ z : Int32, f654 1 = z := ⟨_, rfl⟩
            have b664 : Bd v662 (0) (12) := (by rw [← ee663]; exact b656.2.1 1 (by decide))
            have q665 : elm (S652 7) 1 = v662.toInt := (elm_of c655 1).trans (congrArg Int32.toInt (ee663))
            have q666 : elm (S451 7) 43 = ye13_7_43.toInt := (elm_of c487 43).trans (congrArg Int32.toInt (ee648))
            obtain ⟨v667, ee668⟩ : ∃ z : Int32, f654 3 = z := ⟨_, rfl⟩
            have b669 : Bd v667 (0) (12) := (by rw [← ee668]; exact b656.2.2.2.1 3 (by decide))
            have q670 : elm (S652 7) 3 = v667.toInt := (elm_of c655 3).trans (congrArg Int32.toInt (ee668))
            have q671 : elm (S451 7) 46 = ye13_7_46.toInt := (elm_of c487 46).trans (congrArg Int32.toInt (ee649))
            obtain ⟨v672, ee673⟩ : ∃ z : Int32, f654 6 = z := ⟨_, rfl⟩
            have b674 : Bd v672 (0) (8) := (by rw [← ee673]; exact b656.2.2.2.2.1 6 (by decide))
            have q675 : elm (S652 7) 6 = v672.toInt := (elm_of c655 6).trans (congrArg Int32.toInt (ee673))
            have q676 : elm (S451 7) 48 = ye13_7_48.toInt := (elm_of c487 48).trans (congrArg Int32.toInt (ee650))
            obtain ⟨v677, ee678⟩ : ∃ z : Int32, f654 8 = z := ⟨_, rfl⟩
            have b679 : Bd v677 (0) (3) := (by rw [← ee678]; exact b656.2.2.2.2.2.2.1 8 (by decide))
            have q680 : elm (S652 7) 8 = v677.toInt := (elm_of c655 8).trans (congrArg Int32.toInt (ee678))
            obtain ⟨v681, ee682⟩ : ∃ z : Int32, f654 9 = z := ⟨_, rfl⟩
            have b683 : Bd v681 (0) (40) := (by rw [← ee682]; exact b656.2.2.2.2.2.2.2 9 (by decide))
            have q684 : elm (S652 7) 9 = v681.toInt := (elm_of c655 9).trans (congrArg Int32.toInt (ee682))
            have b685 : Bd v681 (0) (0) := ⟨(b683).1, by omega⟩
            obtain ⟨v686, ee687⟩ : ∃ z : Int32, f654 10 = z := ⟨_, rfl⟩
            have b688 : Bd v686 (0) (12) := (by rw [← ee687]; exact b656.1 10 (by decide))
            have q689 : elm (S652 7) 10 = v686.toInt := (elm_of c655 10).trans (congrArg Int32.toInt (ee687))
            obtain ⟨v690, ee691⟩ : ∃ z : Int32, f654 11 = z := ⟨_, rfl⟩
            have b692 : Bd v690 (0) (12) := (by rw [← ee691]; exact b656.2.1 11 (by decide))
            have q693 : elm (S652 7) 11 = v690.toInt := (elm_of c655 11).trans (congrArg Int32.toInt (ee691))
            obtain ⟨v694, ee695⟩ : ∃ z : Int32, f654 13 = z := ⟨_, rfl⟩
            have b696 : Bd v694 (0) (12) := (by rw [← ee695]; exact b656.2.2.2.1 13 (by decide))
            have q697 : elm (S652 7) 13 = v694.toInt := (elm_of c655 13).trans (congrArg Int32.toInt (ee695))
            obtain ⟨v698, ee699⟩ : ∃ z : Int32, f654 16 = z := ⟨_, rfl⟩
            have b700 : Bd v698 (0) (8) := (by rw [← ee699]; exact b656.2.2.2.2.1 16 (by decide))
            have q701 : elm (S652 7) 16 = v698.toInt := (elm_of c655 16).trans (congrArg Int32.toInt (ee699))
            obtain ⟨v702, ee703⟩ : ∃ z : Int32, f654 18 = z := ⟨_, rfl⟩
            have b704 : Bd v702 (0) (3) := (by rw [← ee703]; exact b656.2.2.2.2.2.2.1 18 (by decide))
            have q705 : elm (S652 7) 18 = v702.toInt := (elm_of c655 18).trans (congrArg Int32.toInt (ee703))
            obtain ⟨v706, ee707⟩ : ∃ z : Int32, f654 19 = z := ⟨_, rfl⟩
            have b708 : Bd v706 (0) (40) := (by rw [← ee707]; exact b656.2.2.2.2.2.2.2 19 (by decide))
            have q709 : elm (S652 7) 19 = v706.toInt := (elm_of c655 19).trans (congrArg Int32.toInt (ee707))
            obtain ⟨v710, ee711⟩ : ∃ z : Int32, f654 20 = z := ⟨_, rfl⟩
            have b712 : Bd v710 (0) (12) := (by rw [← ee711]; exact b656.1 20 (by decide))
            have q713 : elm (S652 7) 20 = v710.toInt := (elm_of c655 20).trans (congrArg Int32.toInt (ee711))
            obtain ⟨v714, ee715⟩ : ∃ z : Int32, f654 21 = z := ⟨_, rfl⟩
            have b716 : Bd v714 (0) (12) := (by rw [← ee715]; exact b656.2.1 21 (by decide))
            have q717 : elm (S652 7) 21 = v714.toInt := (elm_of c655 21).trans (congrArg Int32.toInt (ee715))
            obtain ⟨v718, ee719⟩ : ∃ z : Int32, f654 23 = z := ⟨_, rfl⟩
            have b720 : Bd v718 (0) (12) := (by rw [← ee719]; exact b656.2.2.2.1 23 (by decide))
            have q721 : elm (S652 7) 23 = v718.toInt := (elm_of c655 23).trans (congrArg Int32.toInt (ee719))
            obtain ⟨v722, ee723⟩ : ∃ z : Int32, f654 26 = z := ⟨_, rfl⟩
            have b724 : Bd v722 (0) (8) := (by rw [← ee723]; exact b656.2.2.2.2.1 26 (by decide))
            have q725 : elm (S652 7) 26 = v722.toInt := (elm_of c655 26).trans (congrArg Int32.toInt (ee723))
            obtain ⟨v726, ee727⟩ : ∃ z : Int32, f654 28 = z := ⟨_, rfl⟩
            have b728 : Bd v726 (0) (3) := (by rw [← ee727]; exact b656.2.2.2.2.2.2.1 28 (by decide))
            have q729 : elm (S652 7) 28 = v726.toInt := (elm_of c655 28).trans (congrArg Int32.toInt (ee727))
            obtain ⟨v730, ee731⟩ : ∃ z : Int32, f654 29 = z := ⟨_, rfl⟩
            have b732 : Bd v730 (0) (40) := (by rw [← ee731]; exact b656.2.2.2.2.2.2.2 29 (by decide))
            have q733 : elm (S652 7) 29 = v730.toInt := (elm_of c655 29).trans (congrArg Int32.toInt (ee731))
            obtain ⟨v734, ee735⟩ : ∃ z : Int32, f654 30 = z := ⟨_, rfl⟩
            have b736 : Bd v734 (0) (12) := (by rw [← ee735]; exact b656.1 30 (by decide))
            have q737 : elm (S652 7) 30 = v734.toInt := (elm_of c655 30).trans (congrArg Int32.toInt (ee735))
            obtain ⟨v738, ee739⟩ : ∃ z : Int32, f654 31 = z := ⟨_, rfl⟩
            have b740 : Bd v738 (0) (12) := (by rw [← ee739]; exact b656.2.1 31 (by decide))
            have q741 : elm (S652 7) 31 = v738.toInt := (elm_of c655 31).trans (congrArg Int32.toInt (ee739))
            obtain ⟨v742, ee743⟩ : ∃ z : Int32, f654 33 = z := ⟨_, rfl⟩
            have b744 : Bd v742 (0) (12) := (by rw [← ee743]; exact b656.2.2.2.1 33 (by decide))
            have q745 : elm (S652 7) 33 = v742.toInt := (elm_of c655 33).trans (congrArg Int32.toInt (ee743))
            obtain ⟨v746, ee747⟩ : ∃ z : Int32, f654 36 = z := ⟨_, rfl⟩
            have b748 : Bd v746 (0) (8) := (by rw [← ee747]; exact b656.2.2.2.2.1 36 (by decide))
            have q749 : elm (S652 7) 36 = v746.toInt := (elm_of c655 36).trans (congrArg Int32.toInt (ee747))
            obtain ⟨v750, ee751⟩ : ∃ z : Int32, f654 38 = z := ⟨_, rfl⟩
            have b752 : Bd v750 (0) (3) := (by rw [← ee751]; exact b656.2.2.2.2.2.2.1 38 (by decide))
            have q753 : elm (S652 7) 38 = v750.toInt := (elm_of c655 38).trans (congrArg Int32.toInt (ee751))
            obtain ⟨v754, ee755⟩ : ∃ z : Int32, f654 39 = z := ⟨_, rfl⟩
            have b756 : Bd v754 (0) (40) := (by rw [← ee755]; exact b656.2.2.2.2.2.2.2 39 (by decide))
            have q757 : elm (S652 7) 39 = v754.toInt := (elm_of c655 39).trans (congrArg Int32.toInt (ee755))
            have q758 : elm (S451 6) 4 = ye13_6_4.toInt := (elm_of c611 4).trans (congrArg Int32.toInt (ee651))
            obtain ⟨f759, c760, b761⟩ := invM_6 hI
            obtain ⟨v762, ee763⟩ : ∃ z : Int32, f759 0 = z := ⟨_, rfl⟩
            have b764 : Bd v762 (0) (40000) := (by rw [← ee763]; exact b761 0)
            have q765 : elm (S652 6) 0 = v762.toInt := (elm_of c760 0).trans (congrArg Int32.toInt (ee763))
            have b766 : Bd v762 (0) (4804) := ⟨(b764).1, by omega⟩
            have b767 : Bd ye13_6_4 (0) (4804) := ⟨(b243).1, by omega⟩
            obtain ⟨v768, ee769⟩ : ∃ z : Int32, f759 1 = z := ⟨_, rfl⟩
            have b770 : Bd v768 (0) (40000) := (by rw [← ee769]; exact b761 1)
            have q771 : elm (S652 6) 1 = v768.toInt := (elm_of c760 1).trans (congrArg Int32.toInt (ee769))
            obtain ⟨v772, ee773⟩ : ∃ z : Int32, f759 2 = z := ⟨_, rfl⟩
            have b774 : Bd v772 (0) (40000) := (by rw [← ee773]; exact b761 2)
            have q775 : elm (S652 6) 2 = v772.toInt := (elm_of c760 2).trans (congrArg Int32.toInt (ee773))
            obtain ⟨v776, ee777⟩ : ∃ z : Int32, f759 3 = z := ⟨_, rfl⟩
            have b778 : Bd v776 (0) (40000) := (by rw [← ee777]; exact b761 3)
            have q779 : elm (S652 6) 3 = v776.toInt := (elm_of c760 3).trans (congrArg Int32.toInt (ee777))
            refine lv_aload_n hx hb dX12_shore_169 rfl (lv_at hl 0 rfl) ?_
            have c780 : S652 0 = .inr (12, [.int v452, .ref (ad 1), .ref (ad 2), .ref (ad 3), .ref (ad 4), .ref (ad 5), .int v453, .int v455, .int v457, .int v459, .int v460, .long w461, .int v462, .int v464, .int v465, .int v466, .ref (ad 6), .ref (ad 7), .ref (ad 8), .ref (ad 9), .ref (ad 10), .ref (ad 11), .ref (ad 12), .ref (ad 13), .ref (ad 14), .ref (ad 15), .int v467, .int v469, .ref (ad 16), .int v471, .int v473, .int v475, .int v477, .int v478, .ref (ad 17), .ref (ad 18), .int v479, .ref (ad 19)]) := ((o652 0 (by decide)).trans c480)
            refine xget E hQ 0 (by decide) c780 rfl 16 (by decide) q1484 rfl dX12_shore_170 ?_
            refine lv_iconst (v := 0) hx hb dX12_shore_173 (by decide) ?_
            refine xiald E hQ 6 (by decide) c760 (vp_in_lit 0 5 (by decide)) dX12_shore_174 ?_
            refine sb_at (P := fun z => W _ _ _ _ _ _ _ _ _ _ _ _ _ _ _ (F0 _ _ _ (.int z :: _))) (show f759 (0 : Int32).toNatClampNeg = v762 from ee763) ?_
            exact xri E hr hlk hQ (⟨hI, (o_trans (o_trans (o_trans (o_trans (o_trans (up_o o_refl eS154 (by decide)) o156 (by decide)) o206 (by decide)) hf13 (by decide)) o451 (by decide)) o652 (by decide)), (ib_wk b766 (by decide) (by decide)), (by omega), (by omega), (by omega), (by omega), (by omega), (by omega), (by omega), (by omega), (by omega), (by omega), (by omega), (by omega), (by omega), (by omega), (by omega), (by omega), (by omega), (by omega), (by omega), (by omega), u652_0, u652_1, u652_2, u652_3, u652_4, u652_5, u652_6, u652_7⟩) dX12_shore_175
          · have h781 := ib_ne k483
            exact absurd (Int.le_antisymm (Int.le_trans (b482).2 ((by decide : Bd 0 (0) (0))).1) (Int.le_trans ((by decide : Bd 0 (0) (0))).2 (b482).1)) h781
        · have h782 := ib_ne k448
          have b783 : Bd y13_0_8 (1) (4) := rf_nlo By13_0_8 (by decide : Bd 0 (0) (0)) h782
          refine lv_aload_n hx hb dX12_shore_27 rfl (lv_at hl 0 rfl) ?_
          refine xget E hQ 0 (by decide) cl13_0 rfl 16 (by decide) q1484 rfl dX12_shore_28 ?_
          refine lv_iconst (v := 4) hx hb dX12_shore_31 (by decide) ?_
          obtain ⟨f784, c785, b786⟩ := invM_6 hI
          refine xiald E hQ 6 (by decide) c785 (vp_in_lit 4 5 (by decide)) dX12_shore_32 ?_
          have ee787 : f784 4 = ye13_6_4 := Int32.toInt_inj.mp ((elm_of c785 4).symm.trans hy13_6_4)
          refine sb_at (P := fun z => W _ _ _ _ _ _ _ _ _ _ _ _ _ _ _ (F0 _ _ _ (.int z :: _))) (show f784 (4 : Int32).toNatClampNeg = ye13_6_4 from ee787) ?_
          refine lv_if_ne (tgt := 121) hx hb dX12_shore_33 (by decide) (fun k788 => ?_) (fun k788 => ?_)
          · have h789 := ib_ne k788
            have b790 : Bd ye13_6_4 (1) (34804) := rf_nlo b243 (by decide : Bd 0 (0) (0)) h789
            refine lv_aload_n hx hb dX12_shore_121 rfl (lv_at hl 0 rfl) ?_
            have q791 : fld (S_13 0) 6 = y13_0_6.toInt := fld_of cl13_0 rfl
            have q792 : fld (S_13 0) 7 = y13_0_7.toInt := fld_of cl13_0 rfl
            obtain ⟨f793, c794, b795⟩ := invM_7 hI
            have ee796 : f793 40 = ye13_7_40 := Int32.toInt_inj.mp ((elm_of c794 40).symm.trans hy13_7_40)
            have q797 : elm (S_13 7) 40 = ye13_7_40.toInt := (elm_of c794 40).trans (congrArg Int32.toInt (ee796))
            have ee798 : f793 46 = ye13_7_46 := Int32.toInt_inj.mp ((elm_of c794 46).symm.trans hy13_7_46)
            have q799 : elm (S_13 7) 46 = ye13_7_46.toInt := (elm_of c794 46).trans (congrArg Int32.toInt (ee798))
            have ee800 : f793 41 = ye13_7_41 := Int32.toInt_inj.mp ((elm_of c794 41).symm.trans hy13_7_41)
            have ee801 : f793 43 = ye13_7_43 := Int32.toInt_inj.mp ((elm_of c794 43).symm.trans hy13_7_43)
            have ee802 : f793 49 = ye13_7_49 := Int32.toInt_inj.mp ((elm_of c794 49).symm.trans hy13_7_49)
            refine xcVv E hs hQ hml hl.1 0 (gX12_line_0 l g ad hD S_13 hI (by omega) (by omega) (by omega) hC13) mX12_line q1684 (by decide) cl13_0 rfl rfl ⟨(Nat.le_of_ble_eq_true rfl), (Nat.le_of_ble_eq_true rfl)⟩ ⟨(Nat.le_of_ble_eq_true rfl), (Nat.le_of_ble_eq_true rfl)⟩ (Nat.le_of_ble_eq_true rfl) rfl dX12_shore_122 (fun S803 H locs hp803 hQ _ => ?_)
            obtain ⟨hI, o803, g803_0, g803_1, g803_2, g803_3, g803_4, g803_5, g803_6, u803_0, ef803_7, ef803_9⟩ := hp803
            have ef804 : EFp (S803 7) (S 7) 0 40 := ef_tt ef803_7 hE13_7
            have ef805 : EFp (S803 9) (S 9) 0 96 := ef_tt ef803_9 hE13_9
            obtain ⟨v806, v807, v809, v811, v813, v814, w815, v816, v818, v819, v820, v821, v823, v825, v827, v829, v831, v832, v833, c834, b808, b810, b812, b817, b822, b824, b826, b828, b830⟩ := invM_0 hI
            have c834 : S803 0 = .inr (12, [.int v806, .ref (ad 1), .ref (ad 2), .ref (ad 3), .ref (ad 4), .ref (ad 5), .int v807, .int v809, .int v811, .int v813, .int v814, .long w815, .int v816, .int v818, .int v819, .int v820, .ref (ad 6), .ref (ad 7), .ref (ad 8), .ref (ad 9), .ref (ad 10), .ref (ad 11), .ref (ad 12), .ref (ad 13), .ref (ad 14), .ref (ad 15), .int v821, .int v823, .ref (ad 16), .int v825, .int v827, .int v829, .int v831, .int v832, .ref (ad 17), .ref (ad 18), .int v833, .ref (ad 19)]) := c834
            have q835 : fld (S803 0) 6 = v807.toInt := fld_of c834 rfl
            have q836 : fld (S803 0) 7 = v809.toInt := fld_of c834 rfl
            have q837 : fld (S_13 0) 8 = y13_0_8.toInt := fld_of cl13_0 rfl
            have q838 : fld (S803 0) 8 = v811.toInt := fld_of c834 rfl
            obtain ⟨f839, c840, b841⟩ := invM_7 hI
            obtain ⟨v842, ee843⟩ : ∃ z : Int32, f839 40 = z := ⟨_, rfl⟩
            have b844 : Bd v842 (0) (12) := (by rw [← ee843]; exact b841.1 40 (by decide))
            have q845 : elm (S803 7) 40 = v842.toInt := (elm_of c840 40).trans (congrArg Int32.toInt (ee843))
            have b846 : Bd v842 (1) (12) := ⟨by omega, (b844).2⟩
            have b847 : Bd ye13_7_40 (1) (12) := ⟨by omega, (Bye13_7_40).2⟩
            have q848 : elm (S_13 7) 41 = ye13_7_41.toInt := (elm_of c794 41).trans (congrArg Int32.toInt (ee800))
            obtain ⟨v849, ee850⟩ : ∃ z : Int32, f839 41 = z := ⟨_, rfl⟩
            have b851 : Bd v849 (0) (12) := (by rw [← ee850]; exact b841.2.1 41 (by decide))
            have q852 : elm (S803 7) 41 = v849.toInt := (elm_of c840 41).trans (congrArg Int32.toInt (ee850))
            have b853 : Bd v849 (1) (12) := ⟨by omega, (b851).2⟩
            have b854 : Bd ye13_7_41 (1) (12) := ⟨by omega, (Bye13_7_41).2⟩
            have q855 : elm (S_13 7) 43 = ye13_7_43.toInt := (elm_of c794 43).trans (congrArg Int32.toInt (ee801))
            obtain ⟨v856, ee857⟩ : ∃ z : Int32, f839 43 = z := ⟨_, rfl⟩
            have b858 : Bd v856 (0) (12) := (by rw [← ee857]; exact b841.2.2.2.1 43 (by decide))
            have q859 : elm (S803 7) 43 = v856.toInt := (elm_of c840 43).trans (congrArg Int32.toInt (ee857))
            have b860 : Bd v856 (1) (12) := ⟨by omega, (b858).2⟩
            have b861 : Bd ye13_7_43 (1) (12) := ⟨by omega, (Bye13_7_43).2⟩
            have q862 : elm (S_13 7) 49 = ye13_7_49.toInt := (elm_of c794 49).trans (congrArg Int32.toInt (ee802))
            obtain ⟨v863, ee864⟩ : ∃ z : Int32, f839 49 = z := ⟨_, rfl⟩
            have b865 : Bd v863 (0) (40) := (by rw [← ee864]; exact b841.2.2.2.2.2.2.2 49 (by decide))
            have q866 : elm (S803 7) 49 = v863.toInt := (elm_of c840 49).trans (congrArg Int32.toInt (ee864))
            have b867 : Bd v863 (0) (0) := ⟨(b865).1, by omega⟩
            refine lv_aload_n hx hb dX12_shore_125 rfl (lv_at hl 0 rfl) ?_
            refine xcVi E hs hQ hml hl.1 0 (gX12_isGood_0 l g ad hD S803 hI ) mX12_isGood q1650 (by decide) c834 rfl rfl ⟨(Nat.le_of_ble_eq_true rfl), (Nat.le_of_ble_eq_true rfl)⟩ ⟨(Nat.le_of_ble_eq_true rfl), (Nat.le_of_ble_eq_true rfl)⟩ (Nat.le_of_ble_eq_true rfl) rfl dX12_shore_126 (fun r868 S868 H locs hp868 hQ _ => ?_)
            obtain ⟨rfl, b868, g868_0, g868_1⟩ := hp868
            have q869 : fld (S803 0) 12 = v816.toInt := fld_of c834 rfl
            refine lv_if_eq (tgt := 136) hx hb dX12_shore_129 (by decide) (fun k870 => ?_) (fun k870 => ?_)
            · have h871 := ib_eq k870
              have b872 : Bd r868 (0) (0) := ⟨(b868).1, ((rf_eq b868 (by decide : Bd 0 (0) (0)) h871).1).2⟩
              clear g868_0
              have g873 := g868_1.resolve_left (by omega)
              clear g868_1
              have b874 : Bd v816 (1) (3) := ⟨by omega, (b817).2⟩
              refine lv_aload_n hx hb dX12_shore_136 rfl (lv_at hl 0 rfl) ?_
              refine xget E hQ 0 (by decide) c834 rfl 16 (by decide) q1484 rfl dX12_shore_137 ?_
              refine lv_iconst (v := 4) hx hb dX12_shore_140 (by decide) ?_
              refine lv_dup2_11 hx hb dX12_shore_141 rfl rfl ?_
              have c875 : S803 6 = .inl (g.2 0, 5, .inl f784) := ((o803 6 (by decide)).trans c785)
              refine xiald E hQ 6 (by decide) c875 (vp_in_lit 4 5 (by decide)) dX12_shore_142 ?_
              refine sb_at (P := fun z => W _ _ _ _ _ _ _ _ _ _ _ _ _ _ _ (F0 _ _ _ (.int z :: _))) (show f784 (4 : Int32).toNatClampNeg = ye13_6_4 from ee787) ?_
              refine lv_iconst (v := 1) hx hb dX12_shore_143 (by decide) ?_
              refine lv_iadd hx hb dX12_shore_144 ?_
              refine lv_topi (fun z876 e877 => ?_)
              have t878 := ib_add e877 b790 (by decide : Bd 1 (1) (1)) (by decide) (by decide)
              have b879 : Bd z876 (2) (34805) := ib_addb t878 b790 (by decide : Bd 1 (1) (1))
              have t878 : z876.toInt = ye13_6_4.toInt + 1 := fold_add t878 rfl (by decide)
              refine xiast E hs hQ 6 (by decide) c875 (vp_in_lit 4 5 (by decide)) dX12_shore_145 (fun H locs S880 eS880 hQ => ?_)
              have hI := invM_up_6 hI eS880 ⟨_, rfl, upd_b b786 (ib_wk b879 (by decide) (by decide))⟩
              have b882 : ∀ j, Bd ((upd f784 (4 : Int32).toNatClampNeg z876) j) (0) (40000) := upd_b b786 (ib_wk b879 (by decide) (by decide))
              have c881 : S880 6 = .inl (g.2 0, 5, .inl (upd f784 (4 : Int32).toNatClampNeg z876)) := up_at eS880 rfl
              have ef883 : EFp (S880 6) (S 6) 0 4 := ef_up (ef_tr hE13_6 (o803 6 (by decide))) c875 c881 (by decide)
              refine lv_goto (tgt := 13) hx hb dX12_shore_146 (by decide) ?_
              have c884 : S880 7 = .inl (g.2 0, 50, .inl f839) := (up_ne eS880 (by decide) c840)
              obtain ⟨v885, ee886⟩ : ∃ z : Int32, f839 46 = z := ⟨_, rfl⟩
              have b887 : Bd v885 (0) (8) := (by rw [← ee886]; exact b841.2.2.2.2.1 46 (by decide))
              obtain ⟨v888, ee889⟩ : ∃ z : Int32, f839 47 = z := ⟨_, rfl⟩
              have b890 : Bd v888 (0) (6) := (by rw [← ee889]; exact b841.2.2.2.2.2.1 47 (by decide))
              obtain ⟨v891, ee892⟩ : ∃ z : Int32, f839 48 = z := ⟨_, rfl⟩
              have b893 : Bd v891 (0) (3) := (by rw [← ee892]; exact b841.2.2.2.2.2.2.1 48 (by decide))
              have c894 : S880 0 = .inr (12, [.int v806, .ref (ad 1), .ref (ad 2), .ref (ad 3), .ref (ad 4), .ref (ad 5), .int v807, .int v809, .int v811, .int v813, .int v814, .long w815, .int v816, .int v818, .int v819, .int v820, .ref (ad 6), .ref (ad 7), .ref (ad 8), .ref (ad 9), .ref (ad 10), .ref (ad 11), .ref (ad 12), .ref (ad 13), .ref (ad 14), .ref (ad 15), .int v821, .int v823, .ref (ad 16), .int v825, .int v827, .int v829, .int v831, .int v832, .ref (ad 17), .ref (ad 18), .int v833, .ref (ad 19)]) := (up_ne eS880 (by decide) c834)
              exact ih13 _ _ _ _ v806 v807 v809 v811 v813 v814 w815 v816 v818 v819 v820 v821 v823 v825 v827 v829 v831 v832 v833 v842 v849 v856 v885 v888 v891 v863 z876 b808 b810 b812 (ib_wk b874 (by decide) (by decide)) b822 b824 b826 b828 b830 (ib_wk b846 (by decide) (by decide)) (ib_wk b853 (by decide) (by decide)) (ib_wk b860 (by decide) (by decide)) b887 b890 b893 b867 (ib_wk b879 (by decide) (by decide)) (by omega) (by omega) (by omega) (by omega) (by omega) (by omega) (by omega) (by omega) (by omega) (by omega) (by omega) hI (up_o (o_trans hf13 o803 (by decide)) eS880 (by decide)) c894 (ef_tr ef804 (up_eq (j := 7) eS880 (by decide))) ef883 (ef_tr ef805 (up_eq (j := 9) eS880 (by decide))) ((elm_of c884 40).trans (congrArg Int32.toInt (ee843))) ((elm_of c884 41).trans (congrArg Int32.toInt (ee850))) ((elm_of c884 43).trans (congrArg Int32.toInt (ee857))) ((elm_of c884 46).trans (congrArg Int32.toInt (ee886))) ((elm_of c884 47).trans (congrArg Int32.toInt (ee889))) ((elm_of c884 48).trans (congrArg Int32.toInt (ee892))) ((elm_of c884 49).trans (congrArg Int32.toInt (ee864))) ((elm_of c881 4).trans (congrArg Int32.toInt ((upd_s)))) (ht_tr u803_0 (up_eq (j := 7) eS880 (by decide)) (up_eq (j := 9) eS880 (by decide))) hQ (lv_sub hl [0] rfl)
            · have h895 := ib_ne k870
              have b896 : Bd r868 (1) (1) := rf_nlo b868 (by decide : Bd 0 (0) (0)) h895
              have g897 := g868_0.resolve_left (by omega)
              clear g868_0
              have b898 : Bd v816 (0) (0) := ⟨(b817).1, by omega⟩
              clear g868_1
              refine lv_aload_n hx hb dX12_shore_132 rfl (lv_at hl 0 rfl) ?_
              refine xcVv E hs hQ hml hl.1 0 (gX12_ends_0 l g ad hD S803 hI (by omega)) mX12_ends q1731 (by decide) c834 rfl rfl ⟨(Nat.le_of_ble_eq_true rfl), (Nat.le_of_ble_eq_true rfl)⟩ ⟨(Nat.le_of_ble_eq_true rfl), (Nat.le_of_ble_eq_true rfl)⟩ (Nat.le_of_ble_eq_true rfl) rfl dX12_shore_133 (fun S899 H locs hp899 hQ _ => ?_)
              obtain ⟨hI, o899, g899_0, g899_1, g899_2, g899_3⟩ := hp899
              obtain ⟨v900, v901, v903, v905, v907, v908, w909, v910, v912, v913, v914, v915, v917, v919, v921, v923, v925, v926, v927, c928, b902, b904, b906, b911, b916, b918, b920, b922, b924⟩ := invM_0 hI
              have c928 : S899 0 = .inr (12, [.int v900, .ref (ad 1), .ref (ad 2), .ref (ad 3), .ref (ad 4), .ref (ad 5), .int v901, .int v903, .int v905, .int v907, .int v908, .long w909, .int v910, .int v912, .int v913, .int v914, .ref (ad 6), .ref (ad 7), .ref (ad 8), .ref (ad 9), .ref (ad 10), .ref (ad 11), .ref (ad 12), .ref (ad 13), .ref (ad 14), .ref (ad 15), .int v915, .int v917, .ref (ad 16), .int v919, .int v921, .int v923, .int v925, .int v926, .ref (ad 17), .ref (ad 18), .int v927, .ref (ad 19)]) := c928
              have q929 : fld (S899 0) 6 = v901.toInt := fld_of c928 rfl
              have q930 : fld (S899 0) 7 = v903.toInt := fld_of c928 rfl
              have q931 : fld (S899 0) 8 = v905.toInt := fld_of c928 rfl
              have q932 : fld (S899 0) 12 = v910.toInt := fld_of c928 rfl
              refine lv_aload_n hx hb dX12_shore_136 rfl (lv_at hl 0 rfl) ?_
              refine xget E hQ 0 (by decide) c928 rfl 16 (by decide) q1484 rfl dX12_shore_137 ?_
              refine lv_iconst (v := 4) hx hb dX12_shore_140 (by decide) ?_
              refine lv_dup2_11 hx hb dX12_shore_141 rfl rfl ?_
              have c933 : S899 6 = .inl (g.2 0, 5, .inl f784) := ((o899 6 (by decide)).trans ((o803 6 (by decide)).trans c785))
              refine xiald E hQ 6 (by decide) c933 (vp_in_lit 4 5 (by decide)) dX12_shore_142 ?_
              refine sb_at (P := fun z => W _ _ _ _ _ _ _ _ _ _ _ _ _ _ _ (F0 _ _ _ (.int z :: _))) (show f784 (4 : Int32).toNatClampNeg = ye13_6_4 from ee787) ?_
              refine lv_iconst (v := 1) hx hb dX12_shore_143 (by decide) ?_
              refine lv_iadd hx hb dX12_shore_144 ?_
              refine lv_topi (fun z934 e935 => ?_)
              have t936 := ib_add e935 b790 (by decide : Bd 1 (1) (1)) (by decide) (by decide)
              have b937 : Bd z934 (2) (34805) := ib_addb t936 b790 (by decide : Bd 1 (1) (1))
              have t936 : z934.toInt = ye13_6_4.toInt + 1 := fold_add t936 rfl (by decide)
              refine xiast E hs hQ 6 (by decide) c933 (vp_in_lit 4 5 (by decide)) dX12_shore_145 (fun H locs S938 eS938 hQ => ?_)
              have hI := invM_up_6 hI eS938 ⟨_, rfl, upd_b b786 (ib_wk b937 (by decide) (by decide))⟩
              have b940 : ∀ j, Bd ((upd f784 (4 : Int32).toNatClampNeg z934) j) (0) (40000) := upd_b b786 (ib_wk b937 (by decide) (by decide))
              have c939 : S938 6 = .inl (g.2 0, 5, .inl (upd f784 (4 : Int32).toNatClampNeg z934)) := up_at eS938 rfl
              have ef941 : EFp (S938 6) (S 6) 0 4 := ef_up (ef_tr hE13_6 ((o899 6 (by decide)).trans (o803 6 (by decide)))) c933 c939 (by decide)
              refine lv_goto (tgt := 13) hx hb dX12_shore_146 (by decide) ?_
              have c942 : S938 7 = .inl (g.2 0, 50, .inl f839) := (up_ne eS938 (by decide) ((o899 7 (by decide)).trans c840))
              obtain ⟨v943, ee944⟩ : ∃ z : Int32, f839 46 = z := ⟨_, rfl⟩
              have b945 : Bd v943 (0) (8) := (by rw [← ee944]; exact b841.2.2.2.2.1 46 (by decide))
              obtain ⟨v946, ee947⟩ : ∃ z : Int32, f839 47 = z := ⟨_, rfl⟩
              have b948 : Bd v946 (0) (6) := (by rw [← ee947]; exact b841.2.2.2.2.2.1 47 (by decide))
              obtain ⟨v949, ee950⟩ : ∃ z : Int32, f839 48 = z := ⟨_, rfl⟩
              have b951 : Bd v949 (0) (3) := (by rw [← ee950]; exact b841.2.2.2.2.2.2.1 48 (by decide))
              have c952 : S938 0 = .inr (12, [.int v900, .ref (ad 1), .ref (ad 2), .ref (ad 3), .ref (ad 4), .ref (ad 5), .int v901, .int v903, .int v905, .int v907, .int v908, .long w909, .int v910, .int v912, .int v913, .int v914, .ref (ad 6), .ref (ad 7), .ref (ad 8), .ref (ad 9), .ref (ad 10), .ref (ad 11), .ref (ad 12), .ref (ad 13), .ref (ad 14), .ref (ad 15), .int v915, .int v917, .ref (ad 16), .int v919, .int v921, .int v923, .int v925, .int v926, .ref (ad 17), .ref (ad 18), .int v927, .ref (ad 19)]) := (up_ne eS938 (by decide) c928)
              exact ih13 _ _ _ _ v900 v901 v903 v905 v907 v908 w909 v910 v912 v913 v914 v915 v917 v919 v921 v923 v925 v926 v927 v842 v849 v856 v943 v946 v949 v863 z934 b902 b904 b906 b911 b916 b918 b920 b922 b924 (ib_wk b846 (by decide) (by decide)) (ib_wk b853 (by decide) (by decide)) (ib_wk b860 (by decide) (by decide)) b945 b948 b951 b867 (ib_wk b937 (by decide) (by decide)) (by omega) (by omega) (by omega) (by omega) (by omega) (by omega) (by omega) (by omega) (by omega) (by omega) (by omega) hI (up_o (o_trans (o_trans hf13 o803 (by decide)) o899 (by decide)) eS938 (by decide)) c952 (ef_tr ef804 ((up_eq (j := 7) eS938 (by decide)).trans (o899 7 (by decide)))) ef941 (ef_tr ef805 ((up_eq (j := 9) eS938 (by decide)).trans (o899 9 (by decide)))) ((elm_of c942 40).trans (congrArg Int32.toInt (ee843))) ((elm_of c942 41).trans (congrArg Int32.toInt (ee850))) ((elm_of c942 43).trans (congrArg Int32.toInt (ee857))) ((elm_of c942 46).trans (congrArg Int32.toInt (ee944))) ((elm_of c942 47).trans (congrArg Int32.toInt (ee947))) ((elm_of c942 48).trans (congrArg Int32.toInt (ee950))) ((elm_of c942 49).trans (congrArg Int32.toInt (ee864))) ((elm_of c939 4).trans (congrArg Int32.toInt ((upd_s)))) (ht_tr u803_0 ((up_eq (j := 7) eS938 (by decide)).trans (o899 7 (by decide))) ((up_eq (j := 9) eS938 (by decide)).trans (o899 9 (by decide)))) hQ (lv_sub hl [0] rfl)
          · have h953 := ib_eq k788
            have b954 : Bd ye13_6_4 (0) (0) := ⟨(b243).1, ((rf_eq b243 (by decide : Bd 0 (0) (0)) h953).1).2⟩
            refine lv_aload_n hx hb dX12_shore_36 rfl (lv_at hl 0 rfl) ?_
            refine lv_ldc2 (v := 10266269) hx hb E.2.2.1 (E.2.2.2.1 _ q1654) dX12_shore_37 ?_
            have q955 : fld (S_13 0) 6 = y13_0_6.toInt := fld_of cl13_0 rfl
            have q956 : fld (S_13 0) 7 = y13_0_7.toInt := fld_of cl13_0 rfl
            refine xcVv E hs hQ hml hl.1 0 (gX12_asks_0 l g ad hD S_13 hI 10266269 (by omega)) mX12_asks q1655 (by decide) cl13_0 rfl rfl ⟨(Nat.le_of_ble_eq_true rfl), (Nat.le_of_ble_eq_true rfl)⟩ ⟨(Nat.le_of_ble_eq_true rfl), (Nat.le_of_ble_eq_true rfl)⟩ (Nat.le_of_ble_eq_true rfl) rfl dX12_shore_40 (fun S957 H locs hp957 hQ _ => ?_)
            obtain ⟨hI, o957, g957_0, g957_1, g957_2⟩ := hp957
            obtain ⟨v958, v959, v961, v963, v965, v966, w967, v968, v970, v971, v972, v973, v975, v977, v979, v981, v983, v984, v985, c986, b960, b962, b964, b969, b974, b976, b978, b980, b982⟩ := invM_0 hI
            have c986 : S957 0 = .inr (12, [.int v958, .ref (ad 1), .ref (ad 2), .ref (ad 3), .ref (ad 4), .ref (ad 5), .int v959, .int v961, .int v963, .int v965, .int v966, .long w967, .int v968, .int v970, .int v971, .int v972, .ref (ad 6), .ref (ad 7), .ref (ad 8), .ref (ad 9), .ref (ad 10), .ref (ad 11), .ref (ad 12), .ref (ad 13), .ref (ad 14), .ref (ad 15), .int v973, .int v975, .ref (ad 16), .int v977, .int v979, .int v981, .int v983, .int v984, .ref (ad 17), .ref (ad 18), .int v985, .ref (ad 19)]) := c986
            have q987 : fld (S957 0) 6 = v959.toInt := fld_of c986 rfl
            have q988 : fld (S957 0) 7 = v961.toInt := fld_of c986 rfl
            have q989 : fld (S_13 0) 8 = y13_0_8.toInt := fld_of cl13_0 rfl
            have q990 : fld (S957 0) 8 = v963.toInt := fld_of c986 rfl
            refine lv_aload_n hx hb dX12_shore_43 rfl (lv_at hl 0 rfl) ?_
            refine lv_iconst (v := 0) hx hb dX12_shore_44 (by decide) ?_
            refine lv_aload_n hx hb dX12_shore_45 rfl (lv_at hl 0 rfl) ?_
            refine lv_ldc2 (v := 1701829) hx hb E.2.2.1 (E.2.2.2.1 _ q1671) dX12_shore_46 ?_
            refine lv_iconst (v := 3) hx hb dX12_shore_49 (by decide) ?_
            refine lv_bipush (v := 12) hx hb dX12_shore_50 (by decide) ?_
            refine xcVi E hs hQ hml hl.1 0 (gX12_numberw_0 l g ad hD S957 hI 1701829 3 12 (by decide : Bd 3 (3) (3)) (by decide : Bd 12 (12) (12)) (by omega)) mX12_number_ q1672 (by decide) c986 rfl rfl ⟨(Nat.le_of_ble_eq_true rfl), (Nat.le_of_ble_eq_true rfl)⟩ ⟨(Nat.le_of_ble_eq_true rfl), (Nat.le_of_ble_eq_true rfl)⟩ (Nat.le_of_ble_eq_true rfl) rfl dX12_shore_52 (fun r991 S991 H locs hp991 hQ _ => ?_)
            obtain ⟨hI, o991, b991, g991_0, g991_1, g991_2⟩ := hp991
            obtain ⟨v992, v993, v995, v997, v999, v1000, w1001, v1002, v1004, v1005, v1006, v1007, v1009, v1011, v1013, v1015, v1017, v1018, v1019, c1020, b994, b996, b998, b1003, b1008, b1010, b1012, b1014, b1016⟩ := invM_0 hI
            have c1020 : S991 0 = .inr (12, [.int v992, .ref (ad 1), .ref (ad 2), .ref (ad 3), .ref (ad 4), .ref (ad 5), .int v993, .int v995, .int v997, .int v999, .int v1000, .long w1001, .int v1002, .int v1004, .int v1005, .int v1006, .ref (ad 6), .ref (ad 7), .ref (ad 8), .ref (ad 9), .ref (ad 10), .ref (ad 11), .ref (ad 12), .ref (ad 13), .ref (ad 14), .ref (ad 15), .int v1007, .int v1009, .ref (ad 16), .int v1011, .int v1013, .int v1015, .int v1017, .int v1018, .ref (ad 17), .ref (ad 18), .int v1019, .ref (ad 19)]) := c1020
            have q1021 : fld (S991 0) 6 = v993.toInt := fld_of c1020 rfl
            have q1022 : fld (S991 0) 7 = v995.toInt := fld_of c1020 rfl
            have q1023 : fld (S991 0) 8 = v997.toInt := fld_of c1020 rfl
            obtain ⟨f1024, c1025, b1026⟩ := invM_7 hI
            have ee1027 : f1024 41 = ye13_7_41 := Int32.toInt_inj.mp ((elm_of c1025 41).symm.trans ((congrArg (fun e => elm e 41) ((o991 7 (by decide)).trans (o957 7 (by decide)))).trans hy13_7_41))
            have ee1028 : f1024 43 = ye13_7_43 := Int32.toInt_inj.mp ((elm_of c1025 43).symm.trans ((congrArg (fun e => elm e 43) ((o991 7 (by decide)).trans (o957 7 (by decide)))).trans hy13_7_43))
            have ee1029 : f1024 46 = ye13_7_46 := Int32.toInt_inj.mp ((elm_of c1025 46).symm.trans ((congrArg (fun e => elm e 46) ((o991 7 (by decide)).trans (o957 7 (by decide)))).trans hy13_7_46))
            have ee1030 : f1024 47 = ye13_7_47 := Int32.toInt_inj.mp ((elm_of c1025 47).symm.trans ((congrArg (fun e => elm e 47) ((o991 7 (by decide)).trans (o957 7 (by decide)))).trans hy13_7_47))
            have ee1031 : f1024 48 = ye13_7_48 := Int32.toInt_inj.mp ((elm_of c1025 48).symm.trans ((congrArg (fun e => elm e 48) ((o991 7 (by decide)).trans (o957 7 (by decide)))).trans hy13_7_48))
            have ee1032 : f1024 49 = ye13_7_49 := Int32.toInt_inj.mp ((elm_of c1025 49).symm.trans ((congrArg (fun e => elm e 49) ((o991 7 (by decide)).trans (o957 7 (by decide)))).trans hy13_7_49))
            refine xcVv E hs hQ hml hl.1 0 (gX12_tells_0 l g ad hD S991 hI r991 (ib_wk b991 (by decide) (by decide))) mX12_tells q1629 (by decide) c1020 rfl rfl ⟨(Nat.le_of_ble_eq_true rfl), (Nat.le_of_ble_eq_true rfl)⟩ ⟨(Nat.le_of_ble_eq_true rfl), (Nat.le_of_ble_eq_true rfl)⟩ (Nat.le_of_ble_eq_true rfl) rfl dX12_shore_55 (fun S1033 H locs hp1033 hQ _ => ?_)
            obtain ⟨hI, o1033, g1033_0, g1033_1, g1033_2, g1033_3, g1033_4, g1033_5, g1033_6, ef1033_7⟩ := hp1033
            have ef1034 : EFp (S1033 7) (S 7) 0 40 := ef_tt ef1033_7 (ef_tr hE13_7 ((o991 7 (by decide)).trans (o957 7 (by decide))))
            obtain ⟨f1035, c1036, b1037⟩ := invM_7 hI
            obtain ⟨v1038, ee1039⟩ : ∃ z : Int32, f1035 40 = z := ⟨_, rfl⟩
            have b1040 : Bd v1038 (0) (12) := (by rw [← ee1039]; exact b1037.1 40 (by decide))
            have q1041 : elm (S1033 7) 40 = v1038.toInt := (elm_of c1036 40).trans (congrArg Int32.toInt (ee1039))
            have b1042 : Bd v1038 (3) (12) := ⟨by omega, (b1040).2⟩
            have q1043 : elm (S991 7) 41 = ye13_7_41.toInt := (elm_of c1025 41).trans (congrArg Int32.toInt (ee1027))
            obtain ⟨v1044, ee1045⟩ : ∃ z : Int32, f1035 41 = z := ⟨_, rfl⟩
            have b1046 : Bd v1044 (0) (12) := (by rw [← ee1045]; exact b1037.2.1 41 (by decide))
            have q1047 : elm (S1033 7) 41 = v1044.toInt := (elm_of c1036 41).trans (congrArg Int32.toInt (ee1045))
            have q1048 : elm (S991 7) 43 = ye13_7_43.toInt := (elm_of c1025 43).trans (congrArg Int32.toInt (ee1028))
            obtain ⟨v1049, ee1050⟩ : ∃ z : Int32, f1035 43 = z := ⟨_, rfl⟩
            have b1051 : Bd v1049 (0) (12) := (by rw [← ee1050]; exact b1037.2.2.2.1 43 (by decide))
            have q1052 : elm (S1033 7) 43 = v1049.toInt := (elm_of c1036 43).trans (congrArg Int32.toInt (ee1050))
            have q1053 : elm (S991 7) 46 = ye13_7_46.toInt := (elm_of c1025 46).trans (congrArg Int32.toInt (ee1029))
            obtain ⟨v1054, ee1055⟩ : ∃ z : Int32, f1035 46 = z := ⟨_, rfl⟩
            have b1056 : Bd v1054 (0) (8) := (by rw [← ee1055]; exact b1037.2.2.2.2.1 46 (by decide))
            have q1057 : elm (S1033 7) 46 = v1054.toInt := (elm_of c1036 46).trans (congrArg Int32.toInt (ee1055))
            have b1058 : Bd v1054 (0) (0) := ⟨(b1056).1, by omega⟩
            have b1059 : Bd ye13_7_46 (0) (0) := ⟨(Bye13_7_46).1, by omega⟩
            have q1060 : elm (S991 7) 47 = ye13_7_47.toInt := (elm_of c1025 47).trans (congrArg Int32.toInt (ee1030))
            obtain ⟨v1061, ee1062⟩ : ∃ z : Int32, f1035 47 = z := ⟨_, rfl⟩
            have b1063 : Bd v1061 (0) (6) := (by rw [← ee1062]; exact b1037.2.2.2.2.2.1 47 (by decide))
            have q1064 : elm (S1033 7) 47 = v1061.toInt := (elm_of c1036 47).trans (congrArg Int32.toInt (ee1062))
            have q1065 : elm (S991 7) 48 = ye13_7_48.toInt := (elm_of c1025 48).trans (congrArg Int32.toInt (ee1031))
            obtain ⟨v1066, ee1067⟩ : ∃ z : Int32, f1035 48 = z := ⟨_, rfl⟩
            have b1068 : Bd v1066 (0) (3) := (by rw [← ee1067]; exact b1037.2.2.2.2.2.2.1 48 (by decide))
            have q1069 : elm (S1033 7) 48 = v1066.toInt := (elm_of c1036 48).trans (congrArg Int32.toInt (ee1067))
            have q1070 : elm (S991 7) 49 = ye13_7_49.toInt := (elm_of c1025 49).trans (congrArg Int32.toInt (ee1032))
            obtain ⟨v1071, ee1072⟩ : ∃ z : Int32, f1035 49 = z := ⟨_, rfl⟩
            have b1073 : Bd v1071 (0) (40) := (by rw [← ee1072]; exact b1037.2.2.2.2.2.2.2 49 (by decide))
            have q1074 : elm (S1033 7) 49 = v1071.toInt := (elm_of c1036 49).trans (congrArg Int32.toInt (ee1072))
            have b1075 : Bd v1071 (0) (0) := ⟨(b1073).1, by omega⟩
            refine lv_aload_n hx hb dX12_shore_58 rfl (lv_at hl 0 rfl) ?_
            refine lv_iconst (v := 1) hx hb dX12_shore_59 (by decide) ?_
            refine lv_aload_n hx hb dX12_shore_60 rfl (lv_at hl 0 rfl) ?_
            refine lv_ldc2 (v := 3436186) hx hb E.2.2.1 (E.2.2.2.1 _ q1680) dX12_shore_61 ?_
            refine lv_iconst (v := 1) hx hb dX12_shore_64 (by decide) ?_
            refine lv_bipush (v := 12) hx hb dX12_shore_65 (by decide) ?_
            have c1076 : S1033 0 = .inr (12, [.int v992, .ref (ad 1), .ref (ad 2), .ref (ad 3), .ref (ad 4), .ref (ad 5), .int v993, .int v995, .int v997, .int v999, .int v1000, .long w1001, .int v1002, .int v1004, .int v1005, .int v1006, .ref (ad 6), .ref (ad 7), .ref (ad 8), .ref (ad 9), .ref (ad 10), .ref (ad 11), .ref (ad 12), .ref (ad 13), .ref (ad 14), .ref (ad 15), .int v1007, .int v1009, .ref (ad 16), .int v1011, .int v1013, .int v1015, .int v1017, .int v1018, .ref (ad 17), .ref (ad 18), .int v1019, .ref (ad 19)]) := ((o1033 0 (by decide)).trans c1020)
            have q1077 : fld (S1033 0) 6 = v993.toInt := fld_of c1076 rfl
            have q1078 : fld (S1033 0) 7 = v995.toInt := fld_of c1076 rfl
            refine xcVi E hs hQ hml hl.1 0 (gX12_numberw_1 l g ad hD S1033 hI 3436186 1 12 (by decide : Bd 1 (1) (1)) (by decide : Bd 12 (12) (12)) (by omega)) mX12_number_ q1672 (by decide) c1076 rfl rfl ⟨(Nat.le_of_ble_eq_true rfl), (Nat.le_of_ble_eq_true rfl)⟩ ⟨(Nat.le_of_ble_eq_true rfl), (Nat.le_of_ble_eq_true rfl)⟩ (Nat.le_of_ble_eq_true rfl) rfl dX12_shore_67 (fun r1079 S1079 H locs hp1079 hQ _ => ?_)
            obtain ⟨hI, o1079, b1079, g1079_0, g1079_1, g1079_2⟩ := hp1079
            obtain ⟨v1080, v1081, v1083, v1085, v1087, v1088, w1089, v1090, v1092, v1093, v1094, v1095, v1097, v1099, v1101, v1103, v1105, v1106, v1107, c1108, b1082, b1084, b1086, b1091, b1096, b1098, b1100, b1102, b1104⟩ := invM_0 hI
            have c1108 : S1079 0 = .inr (12, [.int v1080, .ref (ad 1), .ref (ad 2), .ref (ad 3), .ref (ad 4), .ref (ad 5), .int v1081, .int v1083, .int v1085, .int v1087, .int v1088, .long w1089, .int v1090, .int v1092, .int v1093, .int v1094, .ref (ad 6), .ref (ad 7), .ref (ad 8), .ref (ad 9), .ref (ad 10), .ref (ad 11), .ref (ad 12), .ref (ad 13), .ref (ad 14), .ref (ad 15), .int v1095, .int v1097, .ref (ad 16), .int v1099, .int v1101, .int v1103, .int v1105, .int v1106, .ref (ad 17), .ref (ad 18), .int v1107, .ref (ad 19)]) := c1108
            have q1109 : fld (S1079 0) 6 = v1081.toInt := fld_of c1108 rfl
            have q1110 : fld (S1079 0) 7 = v1083.toInt := fld_of c1108 rfl
            have q1111 : fld (S1033 0) 8 = v997.toInt := fld_of c1076 rfl
            have q1112 : fld (S1079 0) 8 = v1085.toInt := fld_of c1108 rfl
            have c1113 : S1079 7 = .inl (g.2 0, 50, .inl f1035) := ((o1079 7 (by decide)).trans c1036)
            refine xcVv E hs hQ hml hl.1 0 (gX12_tells_1 l g ad hD S1079 hI r1079 (ib_wk b1079 (by decide) (by decide))) mX12_tells q1629 (by decide) c1108 rfl rfl ⟨(Nat.le_of_ble_eq_true rfl), (Nat.le_of_ble_eq_true rfl)⟩ ⟨(Nat.le_of_ble_eq_true rfl), (Nat.le_of_ble_eq_true rfl)⟩ (Nat.le_of_ble_eq_true rfl) rfl dX12_shore_70 (fun S1114 H locs hp1114 hQ _ => ?_)
            obtain ⟨hI, o1114, g1114_0, g1114_1, g1114_2, g1114_3, g1114_4, g1114_5, g1114_6, ef1114_7⟩ := hp1114
            have ef1115 : EFp (S1114 7) (S 7) 0 40 := ef_tt ef1114_7 (ef_tr ef1034 (o1079 7 (by decide)))
            obtain ⟨f1116, c1117, b1118⟩ := invM_7 hI
            obtain ⟨v1119, ee1120⟩ : ∃ z : Int32, f1116 41 = z := ⟨_, rfl⟩
            have b1121 : Bd v1119 (0) (12) := (by rw [← ee1120]; exact b1118.2.1 41 (by decide))
            have q1122 : elm (S1114 7) 41 = v1119.toInt := (elm_of c1117 41).trans (congrArg Int32.toInt (ee1120))
            have b1123 : Bd v1119 (1) (12) := ⟨by omega, (b1121).2⟩
            have q1124 : elm (S1079 7) 40 = v1038.toInt := (elm_of c1113 40).trans (congrArg Int32.toInt (ee1039))
            obtain ⟨v1125, ee1126⟩ : ∃ z : Int32, f1116 40 = z := ⟨_, rfl⟩
            have b1127 : Bd v1125 (0) (12) := (by rw [← ee1126]; exact b1118.1 40 (by decide))
            have q1128 : elm (S1114 7) 40 = v1125.toInt := (elm_of c1117 40).trans (congrArg Int32.toInt (ee1126))
            have b1129 : Bd v1125 (3) (12) := ⟨by omega, (b1127).2⟩
            have q1130 : elm (S1079 7) 43 = v1049.toInt := (elm_of c1113 43).trans (congrArg Int32.toInt (ee1050))
            obtain ⟨v1131, ee1132⟩ : ∃ z : Int32, f1116 43 = z := ⟨_, rfl⟩
            have b1133 : Bd v1131 (0) (12) := (by rw [← ee1132]; exact b1118.2.2.2.1 43 (by decide))
            have q1134 : elm (S1114 7) 43 = v1131.toInt := (elm_of c1117 43).trans (congrArg Int32.toInt (ee1132))
            have q1135 : elm (S1079 7) 46 = v1054.toInt := (elm_of c1113 46).trans (congrArg Int32.toInt (ee1055))
            obtain ⟨v1136, ee1137⟩ : ∃ z : Int32, f1116 46 = z := ⟨_, rfl⟩
            have b1138 : Bd v1136 (0) (8) := (by rw [← ee1137]; exact b1118.2.2.2.2.1 46 (by decide))
            have q1139 : elm (S1114 7) 46 = v1136.toInt := (elm_of c1117 46).trans (congrArg Int32.toInt (ee1137))
            have b1140 : Bd v1136 (0) (0) := ⟨(b1138).1, by omega⟩
            have q1141 : elm (S1079 7) 47 = v1061.toInt := (elm_of c1113 47).trans (congrArg Int32.toInt (ee1062))
            obtain ⟨v1142, ee1143⟩ : ∃ z : Int32, f1116 47 = z := ⟨_, rfl⟩
            have b1144 : Bd v1142 (0) (6) := (by rw [← ee1143]; exact b1118.2.2.2.2.2.1 47 (by decide))
            have q1145 : elm (S1114 7) 47 = v1142.toInt := (elm_of c1117 47).trans (congrArg Int32.toInt (ee1143))
            have q1146 : elm (S1079 7) 48 = v1066.toInt := (elm_of c1113 48).trans (congrArg Int32.toInt (ee1067))
            obtain ⟨v1147, ee1148⟩ : ∃ z : Int32, f1116 48 = z := ⟨_, rfl⟩
            have b1149 : Bd v1147 (0) (3) := (by rw [← ee1148]; exact b1118.2.2.2.2.2.2.1 48 (by decide))
            have q1150 : elm (S1114 7) 48 = v1147.toInt := (elm_of c1117 48).trans (congrArg Int32.toInt (ee1148))
            have q1151 : elm (S1079 7) 49 = v1071.toInt := (elm_of c1113 49).trans (congrArg Int32.toInt (ee1072))
            obtain ⟨v1152, ee1153⟩ : ∃ z : Int32, f1116 49 = z := ⟨_, rfl⟩
            have b1154 : Bd v1152 (0) (40) := (by rw [← ee1153]; exact b1118.2.2.2.2.2.2.2 49 (by decide))
            have q1155 : elm (S1114 7) 49 = v1152.toInt := (elm_of c1117 49).trans (congrArg Int32.toInt (ee1153))
            have b1156 : Bd v1152 (0) (0) := ⟨(b1154).1, by omega⟩
            refine lv_aload_n hx hb dX12_shore_73 rfl (lv_at hl 0 rfl) ?_
            refine lv_iconst (v := 2) hx hb dX12_shore_74 (by decide) ?_
            refine lv_aload_n hx hb dX12_shore_75 rfl (lv_at hl 0 rfl) ?_
            refine lv_ldc2 (v := 10334396) hx hb E.2.2.1 (E.2.2.2.1 _ q1681) dX12_shore_76 ?_
            refine lv_iconst (v := 0) hx hb dX12_shore_79 (by decide) ?_
            refine lv_bipush (v := 6) hx hb dX12_shore_80 (by decide) ?_
            have c1157 : S1114 0 = .inr (12, [.int v1080, .ref (ad 1), .ref (ad 2), .ref (ad 3), .ref (ad 4), .ref (ad 5), .int v1081, .int v1083, .int v1085, .int v1087, .int v1088, .long w1089, .int v1090, .int v1092, .int v1093, .int v1094, .ref (ad 6), .ref (ad 7), .ref (ad 8), .ref (ad 9), .ref (ad 10), .ref (ad 11), .ref (ad 12), .ref (ad 13), .ref (ad 14), .ref (ad 15), .int v1095, .int v1097, .ref (ad 16), .int v1099, .int v1101, .int v1103, .int v1105, .int v1106, .ref (ad 17), .ref (ad 18), .int v1107, .ref (ad 19)]) := ((o1114 0 (by decide)).trans c1108)
            have q1158 : fld (S1114 0) 6 = v1081.toInt := fld_of c1157 rfl
            have q1159 : fld (S1114 0) 7 = v1083.toInt := fld_of c1157 rfl
            refine xcVi E hs hQ hml hl.1 0 (gX12_numberw_2 l g ad hD S1114 hI 10334396 0 6 (by decide : Bd 0 (0) (0)) (by decide : Bd 6 (6) (6)) (by omega)) mX12_number_ q1672 (by decide) c1157 rfl rfl ⟨(Nat.le_of_ble_eq_true rfl), (Nat.le_of_ble_eq_true rfl)⟩ ⟨(Nat.le_of_ble_eq_true rfl), (Nat.le_of_ble_eq_true rfl)⟩ (Nat.le_of_ble_eq_true rfl) rfl dX12_shore_82 (fun r1160 S1160 H locs hp1160 hQ _ => ?_)
            obtain ⟨hI, o1160, b1160, g1160_0, g1160_1, g1160_2⟩ := hp1160
            obtain ⟨v1161, v1162, v1164, v1166, v1168, v1169, w1170, v1171, v1173, v1174, v1175, v1176, v1178, v1180, v1182, v1184, v1186, v1187, v1188, c1189, b1163, b1165, b1167, b1172, b1177, b1179, b1181, b1183, b1185⟩ := invM_0 hI
            have c1189 : S1160 0 = .inr (12, [.int v1161, .ref (ad 1), .ref (ad 2), .ref (ad 3), .ref (ad 4), .ref (ad 5), .int v1162, .int v1164, .int v1166, .int v1168, .int v1169, .long w1170, .int v1171, .int v1173, .int v1174, .int v1175, .ref (ad 6), .ref (ad 7), .ref (ad 8), .ref (ad 9), .ref (ad 10), .ref (ad 11), .ref (ad 12), .ref (ad 13), .ref (ad 14), .ref (ad 15), .int v1176, .int v1178, .ref (ad 16), .int v1180, .int v1182, .int v1184, .int v1186, .int v1187, .ref (ad 17), .ref (ad 18), .int v1188, .ref (ad 19)]) := c1189
            have q1190 : fld (S1160 0) 6 = v1162.toInt := fld_of c1189 rfl
            have q1191 : fld (S1160 0) 7 = v1164.toInt := fld_of c1189 rfl
            have q1192 : fld (S1114 0) 8 = v1085.toInt := fld_of c1157 rfl
            have q1193 : fld (S1160 0) 8 = v1166.toInt := fld_of c1189 rfl
            have c1194 : S1160 7 = .inl (g.2 0, 50, .inl f1116) := ((o1160 7 (by decide)).trans c1117)
            refine xcVv E hs hQ hml hl.1 0 (gX12_tells_2 l g ad hD S1160 hI r1160 b1160) mX12_tells q1629 (by decide) c1189 rfl rfl ⟨(Nat.le_of_ble_eq_true rfl), (Nat.le_of_ble_eq_true rfl)⟩ ⟨(Nat.le_of_ble_eq_true rfl), (Nat.le_of_ble_eq_true rfl)⟩ (Nat.le_of_ble_eq_true rfl) rfl dX12_shore_85 (fun S1195 H locs hp1195 hQ _ => ?_)
            obtain ⟨hI, o1195, g1195_0, g1195_1, g1195_2, g1195_3, g1195_4, g1195_5, g1195_6, ef1195_7⟩ := hp1195
            have ef1196 : EFp (S1195 7) (S 7) 0 40 := ef_tt ef1195_7 (ef_tr ef1115 (o1160 7 (by decide)))
            have q1197 : elm (S1160 7) 40 = v1125.toInt := (elm_of c1194 40).trans (congrArg Int32.toInt (ee1126))
            obtain ⟨f1198, c1199, b1200⟩ := invM_7 hI
            obtain ⟨v1201, ee1202⟩ : ∃ z : Int32, f1198 40 = z := ⟨_, rfl⟩
            have b1203 : Bd v1201 (0) (12) := (by rw [← ee1202]; exact b1200.1 40 (by decide))
            have q1204 : elm (S1195 7) 40 = v1201.toInt := (elm_of c1199 40).trans (congrArg Int32.toInt (ee1202))
            have b1205 : Bd v1201 (3) (12) := ⟨by omega, (b1203).2⟩
            have q1206 : elm (S1160 7) 41 = v1119.toInt := (elm_of c1194 41).trans (congrArg Int32.toInt (ee1120))
            obtain ⟨v1207, ee1208⟩ : ∃ z : Int32, f1198 41 = z := ⟨_, rfl⟩
            have b1209 : Bd v1207 (0) (12) := (by rw [← ee1208]; exact b1200.2.1 41 (by decide))
            have q1210 : elm (S1195 7) 41 = v1207.toInt := (elm_of c1199 41).trans (congrArg Int32.toInt (ee1208))
            have b1211 : Bd v1207 (1) (12) := ⟨by omega, (b1209).2⟩
            have q1212 : elm (S1160 7) 43 = v1131.toInt := (elm_of c1194 43).trans (congrArg Int32.toInt (ee1132))
            obtain ⟨v1213, ee1214⟩ : ∃ z : Int32, f1198 43 = z := ⟨_, rfl⟩
            have b1215 : Bd v1213 (0) (12) := (by rw [← ee1214]; exact b1200.2.2.2.1 43 (by decide))
            have q1216 : elm (S1195 7) 43 = v1213.toInt := (elm_of c1199 43).trans (congrArg Int32.toInt (ee1214))
            have q1217 : elm (S1160 7) 46 = v1136.toInt := (elm_of c1194 46).trans (congrArg Int32.toInt (ee1137))
            obtain ⟨v1218, ee1219⟩ : ∃ z : Int32, f1198 46 = z := ⟨_, rfl⟩
            have b1220 : Bd v1218 (0) (8) := (by rw [← ee1219]; exact b1200.2.2.2.2.1 46 (by decide))
            have q1221 : elm (S1195 7) 46 = v1218.toInt := (elm_of c1199 46).trans (congrArg Int32.toInt (ee1219))
            have b1222 : Bd v1218 (0) (0) := ⟨(b1220).1, by omega⟩
            have q1223 : elm (S1160 7) 47 = v1142.toInt := (elm_of c1194 47).trans (congrArg Int32.toInt (ee1143))
            obtain ⟨v1224, ee1225⟩ : ∃ z : Int32, f1198 47 = z := ⟨_, rfl⟩
            have b1226 : Bd v1224 (0) (6) := (by rw [← ee1225]; exact b1200.2.2.2.2.2.1 47 (by decide))
            have q1227 : elm (S1195 7) 47 = v1224.toInt := (elm_of c1199 47).trans (congrArg Int32.toInt (ee1225))
            have q1228 : elm (S1160 7) 48 = v1147.toInt := (elm_of c1194 48).trans (congrArg Int32.toInt (ee1148))
            obtain ⟨v1229, ee1230⟩ : ∃ z : Int32, f1198 48 = z := ⟨_, rfl⟩
            have b1231 : Bd v1229 (0) (3) := (by rw [← ee1230]; exact b1200.2.2.2.2.2.2.1 48 (by decide))
            have q1232 : elm (S1195 7) 48 = v1229.toInt := (elm_of c1199 48).trans (congrArg Int32.toInt (ee1230))
            have q1233 : elm (S1160 7) 49 = v1152.toInt := (elm_of c1194 49).trans (congrArg Int32.toInt (ee1153))
            obtain ⟨v1234, ee1235⟩ : ∃ z : Int32, f1198 49 = z := ⟨_, rfl⟩
            have b1236 : Bd v1234 (0) (40) := (by rw [← ee1235]; exact b1200.2.2.2.2.2.2.2 49 (by decide))
            have q1237 : elm (S1195 7) 49 = v1234.toInt := (elm_of c1199 49).trans (congrArg Int32.toInt (ee1235))
            have b1238 : Bd v1234 (0) (0) := ⟨(b1236).1, by omega⟩
            refine lv_aload_n hx hb dX12_shore_88 rfl (lv_at hl 0 rfl) ?_
            refine lv_iconst (v := 3) hx hb dX12_shore_89 (by decide) ?_
            refine lv_aload_n hx hb dX12_shore_90 rfl (lv_at hl 0 rfl) ?_
            refine lv_ldc2 (v := 3701) hx hb E.2.2.1 (E.2.2.2.1 _ q1682) dX12_shore_91 ?_
            refine lv_iconst (v := 1) hx hb dX12_shore_94 (by decide) ?_
            refine lv_bipush (v := 12) hx hb dX12_shore_95 (by decide) ?_
            have c1239 : S1195 0 = .inr (12, [.int v1161, .ref (ad 1), .ref (ad 2), .ref (ad 3), .ref (ad 4), .ref (ad 5), .int v1162, .int v1164, .int v1166, .int v1168, .int v1169, .long w1170, .int v1171, .int v1173, .int v1174, .int v1175, .ref (ad 6), .ref (ad 7), .ref (ad 8), .ref (ad 9), .ref (ad 10), .ref (ad 11), .ref (ad 12), .ref (ad 13), .ref (ad 14), .ref (ad 15), .int v1176, .int v1178, .ref (ad 16), .int v1180, .int v1182, .int v1184, .int v1186, .int v1187, .ref (ad 17), .ref (ad 18), .int v1188, .ref (ad 19)]) := ((o1195 0 (by decide)).trans c1189)
            have q1240 : fld (S1195 0) 6 = v1162.toInt := fld_of c1239 rfl
            have q1241 : fld (S1195 0) 7 = v1164.toInt := fld_of c1239 rfl
            refine xcVi E hs hQ hml hl.1 0 (gX12_numberw_1 l g ad hD S1195 hI 3701 1 12 (by decide : Bd 1 (1) (1)) (by decide : Bd 12 (12) (12)) (by omega)) mX12_number_ q1672 (by decide) c1239 rfl rfl ⟨(Nat.le_of_ble_eq_true rfl), (Nat.le_of_ble_eq_true rfl)⟩ ⟨(Nat.le_of_ble_eq_true rfl), (Nat.le_of_ble_eq_true rfl)⟩ (Nat.le_of_ble_eq_true rfl) rfl dX12_shore_97 (fun r1242 S1242 H locs hp1242 hQ _ => ?_)
            obtain ⟨hI, o1242, b1242, g1242_0, g1242_1, g1242_2⟩ := hp1242
            obtain ⟨v1243, v1244, v1246, v1248, v1250, v1251, w1252, v1253, v1255, v1256, v1257, v1258, v1260, v1262, v1264, v1266, v1268, v1269, v1270, c1271, b1245, b1247, b1249, b1254, b1259, b1261, b1263, b1265, b1267⟩ := invM_0 hI
            have c1271 : S1242 0 = .inr (12, [.int v1243, .ref (ad 1), .ref (ad 2), .ref (ad 3), .ref (ad 4), .ref (ad 5), .int v1244, .int v1246, .int v1248, .int v1250, .int v1251, .long w1252, .int v1253, .int v1255, .int v1256, .int v1257, .ref (ad 6), .ref (ad 7), .ref (ad 8), .ref (ad 9), .ref (ad 10), .ref (ad 11), .ref (ad 12), .ref (ad 13), .ref (ad 14), .ref (ad 15), .int v1258, .int v1260, .ref (ad 16), .int v1262, .int v1264, .int v1266, .int v1268, .int v1269, .ref (ad 17), .ref (ad 18), .int v1270, .ref (ad 19)]) := c1271
            have q1272 : fld (S1242 0) 6 = v1244.toInt := fld_of c1271 rfl
            have q1273 : fld (S1242 0) 7 = v1246.toInt := fld_of c1271 rfl
            have q1274 : fld (S1195 0) 8 = v1166.toInt := fld_of c1239 rfl
            have q1275 : fld (S1242 0) 8 = v1248.toInt := fld_of c1271 rfl
            have c1276 : S1242 7 = .inl (g.2 0, 50, .inl f1198) := ((o1242 7 (by decide)).trans c1199)
            refine xcVv E hs hQ hml hl.1 0 (gX12_tells_3 l g ad hD S1242 hI r1242 (ib_wk b1242 (by decide) (by decide))) mX12_tells q1629 (by decide) c1271 rfl rfl ⟨(Nat.le_of_ble_eq_true rfl), (Nat.le_of_ble_eq_true rfl)⟩ ⟨(Nat.le_of_ble_eq_true rfl), (Nat.le_of_ble_eq_true rfl)⟩ (Nat.le_of_ble_eq_true rfl) rfl dX12_shore_100 (fun S1277 H locs hp1277 hQ _ => ?_)
            obtain ⟨hI, o1277, g1277_0, g1277_1, g1277_2, g1277_3, g1277_4, g1277_5, g1277_6, ef1277_7⟩ := hp1277
            have ef1278 : EFp (S1277 7) (S 7) 0 40 := ef_tt ef1277_7 (ef_tr ef1196 (o1242 7 (by decide)))
            obtain ⟨f1279, c1280, b1281⟩ := invM_7 hI
            obtain ⟨v1282, ee1283⟩ : ∃ z : Int32, f1279 43 = z := ⟨_, rfl⟩
            have b1284 : Bd v1282 (0) (12) := (by rw [← ee1283]; exact b1281.2.2.2.1 43 (by decide))
            have q1285 : elm (S1277 7) 43 = v1282.toInt := (elm_of c1280 43).trans (congrArg Int32.toInt (ee1283))
            have b1286 : Bd v1282 (1) (12) := ⟨by omega, (b1284).2⟩
            have q1287 : elm (S1242 7) 40 = v1201.toInt := (elm_of c1276 40).trans (congrArg Int32.toInt (ee1202))
            obtain ⟨v1288, ee1289⟩ : ∃ z : Int32, f1279 40 = z := ⟨_, rfl⟩
            have b1290 : Bd v1288 (0) (12) := (by rw [← ee1289]; exact b1281.1 40 (by decide))
            have q1291 : elm (S1277 7) 40 = v1288.toInt := (elm_of c1280 40).trans (congrArg Int32.toInt (ee1289))
            have b1292 : Bd v1288 (3) (12) := ⟨by omega, (b1290).2⟩
            have q1293 : elm (S1242 7) 41 = v1207.toInt := (elm_of c1276 41).trans (congrArg Int32.toInt (ee1208))
            obtain ⟨v1294, ee1295⟩ : ∃ z : Int32, f1279 41 = z := ⟨_, rfl⟩
            have b1296 : Bd v1294 (0) (12) := (by rw [← ee1295]; exact b1281.2.1 41 (by decide))
            have q1297 : elm (S1277 7) 41 = v1294.toInt := (elm_of c1280 41).trans (congrArg Int32.toInt (ee1295))
            have b1298 : Bd v1294 (1) (12) := ⟨by omega, (b1296).2⟩
            have q1299 : elm (S1242 7) 46 = v1218.toInt := (elm_of c1276 46).trans (congrArg Int32.toInt (ee1219))
            obtain ⟨v1300, ee1301⟩ : ∃ z : Int32, f1279 46 = z := ⟨_, rfl⟩
            have b1302 : Bd v1300 (0) (8) := (by rw [← ee1301]; exact b1281.2.2.2.2.1 46 (by decide))
            have q1303 : elm (S1277 7) 46 = v1300.toInt := (elm_of c1280 46).trans (congrArg Int32.toInt (ee1301))
            have b1304 : Bd v1300 (0) (0) := ⟨(b1302).1, by omega⟩
            have q1305 : elm (S1242 7) 47 = v1224.toInt := (elm_of c1276 47).trans (congrArg Int32.toInt (ee1225))
            obtain ⟨v1306, ee1307⟩ : ∃ z : Int32, f1279 47 = z := ⟨_, rfl⟩
            have b1308 : Bd v1306 (0) (6) := (by rw [← ee1307]; exact b1281.2.2.2.2.2.1 47 (by decide))
            have q1309 : elm (S1277 7) 47 = v1306.toInt := (elm_of c1280 47).trans (congrArg Int32.toInt (ee1307))
            have q1310 : elm (S1242 7) 48 = v1229.toInt := (elm_of c1276 48).trans (congrArg Int32.toInt (ee1230))
            obtain ⟨v1311, ee1312⟩ : ∃ z : Int32, f1279 48 = z := ⟨_, rfl⟩
            have b1313 : Bd v1311 (0) (3) := (by rw [← ee1312]; exact b1281.2.2.2.2.2.2.1 48 (by decide))
            have q1314 : elm (S1277 7) 48 = v1311.toInt := (elm_of c1280 48).trans (congrArg Int32.toInt (ee1312))
            have q1315 : elm (S1242 7) 49 = v1234.toInt := (elm_of c1276 49).trans (congrArg Int32.toInt (ee1235))
            obtain ⟨v1316, ee1317⟩ : ∃ z : Int32, f1279 49 = z := ⟨_, rfl⟩
            have b1318 : Bd v1316 (0) (40) := (by rw [← ee1317]; exact b1281.2.2.2.2.2.2.2 49 (by decide))
            have q1319 : elm (S1277 7) 49 = v1316.toInt := (elm_of c1280 49).trans (congrArg Int32.toInt (ee1317))
            have b1320 : Bd v1316 (0) (0) := ⟨(b1318).1, by omega⟩
            refine lv_aload_n hx hb dX12_shore_103 rfl (lv_at hl 0 rfl) ?_
            refine lv_iconst (v := 4) hx hb dX12_shore_104 (by decide) ?_
            refine lv_aload_n hx hb dX12_shore_105 rfl (lv_at hl 0 rfl) ?_
            refine lv_ldc2 (v := 298288) hx hb E.2.2.1 (E.2.2.2.1 _ q1683) dX12_shore_106 ?_
            refine lv_iconst (v := 0) hx hb dX12_shore_109 (by decide) ?_
            refine lv_bipush (v := 100) hx hb dX12_shore_110 (by decide) ?_
            have c1321 : S1277 0 = .inr (12, [.int v1243, .ref (ad 1), .ref (ad 2), .ref (ad 3), .ref (ad 4), .ref (ad 5), .int v1244, .int v1246, .int v1248, .int v1250, .int v1251, .long w1252, .int v1253, .int v1255, .int v1256, .int v1257, .ref (ad 6), .ref (ad 7), .ref (ad 8), .ref (ad 9), .ref (ad 10), .ref (ad 11), .ref (ad 12), .ref (ad 13), .ref (ad 14), .ref (ad 15), .int v1258, .int v1260, .ref (ad 16), .int v1262, .int v1264, .int v1266, .int v1268, .int v1269, .ref (ad 17), .ref (ad 18), .int v1270, .ref (ad 19)]) := ((o1277 0 (by decide)).trans c1271)
            have q1322 : fld (S1277 0) 6 = v1244.toInt := fld_of c1321 rfl
            have q1323 : fld (S1277 0) 7 = v1246.toInt := fld_of c1321 rfl
            refine xcVi E hs hQ hml hl.1 0 (gX12_numberw_3 l g ad hD S1277 hI 298288 0 100 (by decide : Bd 0 (0) (0)) (by decide : Bd 100 (100) (100)) (by omega)) mX12_number_ q1672 (by decide) c1321 rfl rfl ⟨(Nat.le_of_ble_eq_true rfl), (Nat.le_of_ble_eq_true rfl)⟩ ⟨(Nat.le_of_ble_eq_true rfl), (Nat.le_of_ble_eq_true rfl)⟩ (Nat.le_of_ble_eq_true rfl) rfl dX12_shore_112 (fun r1324 S1324 H locs hp1324 hQ _ => ?_)
            obtain ⟨hI, o1324, b1324, g1324_0, g1324_1, g1324_2⟩ := hp1324
            obtain ⟨v1325, v1326, v1328, v1330, v1332, v1333, w1334, v1335, v1337, v1338, v1339, v1340, v1342, v1344, v1346, v1348, v1350, v1351, v1352, c1353, b1327, b1329, b1331, b1336, b1341, b1343, b1345, b1347, b1349⟩ := invM_0 hI
            have c1353 : S1324 0 = .inr (12, [.int v1325, .ref (ad 1), .ref (ad 2), .ref (ad 3), .ref (ad 4), .ref (ad 5), .int v1326, .int v1328, .int v1330, .int v1332, .int v1333, .long w1334, .int v1335, .int v1337, .int v1338, .int v1339, .ref (ad 6), .ref (ad 7), .ref (ad 8), .ref (ad 9), .ref (ad 10), .ref (ad 11), .ref (ad 12), .ref (ad 13), .ref (ad 14), .ref (ad 15), .int v1340, .int v1342, .ref (ad 16), .int v1344, .int v1346, .int v1348, .int v1350, .int v1351, .ref (ad 17), .ref (ad 18), .int v1352, .ref (ad 19)]) := c1353
            have q1354 : fld (S1324 0) 6 = v1326.toInt := fld_of c1353 rfl
            have q1355 : fld (S1324 0) 7 = v1328.toInt := fld_of c1353 rfl
            have q1356 : fld (S1277 0) 8 = v1248.toInt := fld_of c1321 rfl
            have q1357 : fld (S1324 0) 8 = v1330.toInt := fld_of c1353 rfl
            have c1358 : S1324 7 = .inl (g.2 0, 50, .inl f1279) := ((o1324 7 (by decide)).trans c1280)
            refine xcVv E hs hQ hml hl.1 0 (gX12_tells_4 l g ad hD S1324 hI r1324) mX12_tells q1629 (by decide) c1353 rfl rfl ⟨(Nat.le_of_ble_eq_true rfl), (Nat.le_of_ble_eq_true rfl)⟩ ⟨(Nat.le_of_ble_eq_true rfl), (Nat.le_of_ble_eq_true rfl)⟩ (Nat.le_of_ble_eq_true rfl) rfl dX12_shore_115 (fun S1359 H locs hp1359 hQ _ => ?_)
            obtain ⟨hI, o1359, g1359_0, g1359_1, g1359_2, g1359_3, g1359_4, g1359_5, g1359_6, ef1359_7⟩ := hp1359
            have ef1360 : EFp (S1359 7) (S 7) 0 40 := ef_tt ef1359_7 (ef_tr ef1278 (o1324 7 (by decide)))
            have q1361 : elm (S1324 7) 40 = v1288.toInt := (elm_of c1358 40).trans (congrArg Int32.toInt (ee1289))
            obtain ⟨f1362, c1363, b1364⟩ := invM_7 hI
            obtain ⟨v1365, ee1366⟩ : ∃ z : Int32, f1362 40 = z := ⟨_, rfl⟩
            have b1367 : Bd v1365 (0) (12) := (by rw [← ee1366]; exact b1364.1 40 (by decide))
            have q1368 : elm (S1359 7) 40 = v1365.toInt := (elm_of c1363 40).trans (congrArg Int32.toInt (ee1366))
            have b1369 : Bd v1365 (3) (12) := ⟨by omega, (b1367).2⟩
            have q1370 : elm (S1324 7) 41 = v1294.toInt := (elm_of c1358 41).trans (congrArg Int32.toInt (ee1295))
            obtain ⟨v1371, ee1372⟩ : ∃ z : Int32, f1362 41 = z := ⟨_, rfl⟩
            have b1373 : Bd v1371 (0) (12) := (by rw [← ee1372]; exact b1364.2.1 41 (by decide))
            have q1374 : elm (S1359 7) 41 = v1371.toInt := (elm_of c1363 41).trans (congrArg Int32.toInt (ee1372))
            have b1375 : Bd v1371 (1) (12) := ⟨by omega, (b1373).2⟩
            have q1376 : elm (S1324 7) 43 = v1282.toInt := (elm_of c1358 43).trans (congrArg Int32.toInt (ee1283))
            obtain ⟨v1377, ee1378⟩ : ∃ z : Int32, f1362 43 = z := ⟨_, rfl⟩
            have b1379 : Bd v1377 (0) (12) := (by rw [← ee1378]; exact b1364.2.2.2.1 43 (by decide))
            have q1380 : elm (S1359 7) 43 = v1377.toInt := (elm_of c1363 43).trans (congrArg Int32.toInt (ee1378))
            have b1381 : Bd v1377 (1) (12) := ⟨by omega, (b1379).2⟩
            have q1382 : elm (S1324 7) 46 = v1300.toInt := (elm_of c1358 46).trans (congrArg Int32.toInt (ee1301))
            obtain ⟨v1383, ee1384⟩ : ∃ z : Int32, f1362 46 = z := ⟨_, rfl⟩
            have b1385 : Bd v1383 (0) (8) := (by rw [← ee1384]; exact b1364.2.2.2.2.1 46 (by decide))
            have q1386 : elm (S1359 7) 46 = v1383.toInt := (elm_of c1363 46).trans (congrArg Int32.toInt (ee1384))
            have b1387 : Bd v1383 (0) (0) := ⟨(b1385).1, by omega⟩
            have q1388 : elm (S1324 7) 47 = v1306.toInt := (elm_of c1358 47).trans (congrArg Int32.toInt (ee1307))
            obtain ⟨v1389, ee1390⟩ : ∃ z : Int32, f1362 47 = z := ⟨_, rfl⟩
            have b1391 : Bd v1389 (0) (6) := (by rw [← ee1390]; exact b1364.2.2.2.2.2.1 47 (by decide))
            have q1392 : elm (S1359 7) 47 = v1389.toInt := (elm_of c1363 47).trans (congrArg Int32.toInt (ee1390))
            have q1393 : elm (S1324 7) 48 = v1311.toInt := (elm_of c1358 48).trans (congrArg Int32.toInt (ee1312))
            obtain ⟨v1394, ee1395⟩ : ∃ z : Int32, f1362 48 = z := ⟨_, rfl⟩
            have b1396 : Bd v1394 (0) (3) := (by rw [← ee1395]; exact b1364.2.2.2.2.2.2.1 48 (by decide))
            have q1397 : elm (S1359 7) 48 = v1394.toInt := (elm_of c1363 48).trans (congrArg Int32.toInt (ee1395))
            have q1398 : elm (S1324 7) 49 = v1316.toInt := (elm_of c1358 49).trans (congrArg Int32.toInt (ee1317))
            obtain ⟨v1399, ee1400⟩ : ∃ z : Int32, f1362 49 = z := ⟨_, rfl⟩
            have b1401 : Bd v1399 (0) (40) := (by rw [← ee1400]; exact b1364.2.2.2.2.2.2.2 49 (by decide))
            have q1402 : elm (S1359 7) 49 = v1399.toInt := (elm_of c1363 49).trans (congrArg Int32.toInt (ee1400))
            have b1403 : Bd v1399 (0) (0) := ⟨(b1401).1, by omega⟩
            refine lv_goto (tgt := 125) hx hb dX12_shore_118 (by decide) ?_
            refine lv_aload_n hx hb dX12_shore_125 rfl (lv_at hl 0 rfl) ?_
            have c1404 : S1359 0 = .inr (12, [.int v1325, .ref (ad 1), .ref (ad 2), .ref (ad 3), .ref (ad 4), .ref (ad 5), .int v1326, .int v1328, .int v1330, .int v1332, .int v1333, .long w1334, .int v1335, .int v1337, .int v1338, .int v1339, .ref (ad 6), .ref (ad 7), .ref (ad 8), .ref (ad 9), .ref (ad 10), .ref (ad 11), .ref (ad 12), .ref (ad 13), .ref (ad 14), .ref (ad 15), .int v1340, .int v1342, .ref (ad 16), .int v1344, .int v1346, .int v1348, .int v1350, .int v1351, .ref (ad 17), .ref (ad 18), .int v1352, .ref (ad 19)]) := ((o1359 0 (by decide)).trans c1353)
            refine xcVi E hs hQ hml hl.1 0 (gX12_isGood_0 l g ad hD S1359 hI ) mX12_isGood q1650 (by decide) c1404 rfl rfl ⟨(Nat.le_of_ble_eq_true rfl), (Nat.le_of_ble_eq_true rfl)⟩ ⟨(Nat.le_of_ble_eq_true rfl), (Nat.le_of_ble_eq_true rfl)⟩ (Nat.le_of_ble_eq_true rfl) rfl dX12_shore_126 (fun r1405 S1405 H locs hp1405 hQ _ => ?_)
            obtain ⟨rfl, b1405, g1405_0, g1405_1⟩ := hp1405
            have q1406 : fld (S1359 0) 12 = v1335.toInt := fld_of c1404 rfl
            refine lv_if_eq (tgt := 136) hx hb dX12_shore_129 (by decide) (fun k1407 => ?_) (fun k1407 => ?_)
            · have h1408 := ib_eq k1407
              have b1409 : Bd r1405 (0) (0) := ⟨(b1405).1, ((rf_eq b1405 (by decide : Bd 0 (0) (0)) h1408).1).2⟩
              clear g1405_0
              have g1410 := g1405_1.resolve_left (by omega)
              clear g1405_1
              have b1411 : Bd v1335 (1) (3) := ⟨by omega, (b1336).2⟩
              refine lv_aload_n hx hb dX12_shore_136 rfl (lv_at hl 0 rfl) ?_
              refine xget E hQ 0 (by decide) c1404 rfl 16 (by decide) q1484 rfl dX12_shore_137 ?_
              refine lv_iconst (v := 4) hx hb dX12_shore_140 (by decide) ?_
              refine lv_dup2_11 hx hb dX12_shore_141 rfl rfl ?_
              have c1412 : S1359 6 = .inl (g.2 0, 5, .inl f784) := ((o1359 6 (by decide)).trans ((o1324 6 (by decide)).trans ((o1277 6 (by decide)).trans ((o1242 6 (by decide)).trans ((o1195 6 (by decide)).trans ((o1160 6 (by decide)).trans ((o1114 6 (by decide)).trans ((o1079 6 (by decide)).trans ((o1033 6 (by decide)).trans ((o991 6 (by decide)).trans ((o957 6 (by decide)).trans c785)))))))))))
              refine xiald E hQ 6 (by decide) c1412 (vp_in_lit 4 5 (by decide)) dX12_shore_142 ?_
              refine sb_at (P := fun z => W _ _ _ _ _ _ _ _ _ _ _ _ _ _ _ (F0 _ _ _ (.int z :: _))) (show f784 (4 : Int32).toNatClampNeg = ye13_6_4 from ee787) ?_
              refine lv_iconst (v := 1) hx hb dX12_shore_143 (by decide) ?_
              refine lv_iadd hx hb dX12_shore_144 ?_
              refine lv_topi (fun z1413 e1414 => ?_)
              have t1415 := ib_add e1414 b954 (by decide : Bd 1 (1) (1)) (by decide) (by decide)
              have b1416 : Bd z1413 (1) (1) := ib_addb t1415 b954 (by decide : Bd 1 (1) (1))
              have t1415 : z1413.toInt = ye13_6_4.toInt + 1 := fold_add t1415 rfl (by decide)
              refine xiast E hs hQ 6 (by decide) c1412 (vp_in_lit 4 5 (by decide)) dX12_shore_145 (fun H locs S1417 eS1417 hQ => ?_)
              have hI := invM_up_6 hI eS1417 ⟨_, rfl, upd_b b786 (ib_wk b1416 (by decide) (by decide))⟩
              have b1419 : ∀ j, Bd ((upd f784 (4 : Int32).toNatClampNeg z1413) j) (0) (40000) := upd_b b786 (ib_wk b1416 (by decide) (by decide))
              have c1418 : S1417 6 = .inl (g.2 0, 5, .inl (upd f784 (4 : Int32).toNatClampNeg z1413)) := up_at eS1417 rfl
              have ef1420 : EFp (S1417 6) (S 6) 0 4 := ef_up (ef_tr hE13_6 ((o1359 6 (by decide)).trans ((o1324 6 (by decide)).trans ((o1277 6 (by decide)).trans ((o1242 6 (by decide)).trans ((o1195 6 (by decide)).trans ((o1160 6 (by decide)).trans ((o1114 6 (by decide)).trans ((o1079 6 (by decide)).trans ((o1033 6 (by decide)).trans ((o991 6 (by decide)).trans (o957 6 (by decide))))))))))))) c1412 c1418 (by decide)
              refine lv_goto (tgt := 13) hx hb dX12_shore_146 (by decide) ?_
              have c1421 : S1417 7 = .inl (g.2 0, 50, .inl f1362) := (up_ne eS1417 (by decide) c1363)
              have c1422 : S1417 0 = .inr (12, [.int v1325, .ref (ad 1), .ref (ad 2), .ref (ad 3), .ref (ad 4), .ref (ad 5), .int v1326, .int v1328, .int v1330, .int v1332, .int v1333, .long w1334, .int v1335, .int v1337, .int v1338, .int v1339, .ref (ad 6), .ref (ad 7), .ref (ad 8), .ref (ad 9), .ref (ad 10), .ref (ad 11), .ref (ad 12), .ref (ad 13), .ref (ad 14), .ref (ad 15), .int v1340, .int v1342, .ref (ad 16), .int v1344, .int v1346, .int v1348, .int v1350, .int v1351, .ref (ad 17), .ref (ad 18), .int v1352, .ref (ad 19)]) := (up_ne eS1417 (by decide) c1404)
              have q1423 : elm (S1417 7) 46 = v1383.toInt := (elm_of c1421 46).trans (congrArg Int32.toInt (ee1384))
              exact ih13 _ _ _ _ v1325 v1326 v1328 v1330 v1332 v1333 w1334 v1335 v1337 v1338 v1339 v1340 v1342 v1344 v1346 v1348 v1350 v1351 v1352 v1365 v1371 v1377 v1383 v1389 v1394 v1399 z1413 b1327 b1329 b1331 (ib_wk b1411 (by decide) (by decide)) b1341 b1343 b1345 b1347 b1349 (ib_wk b1369 (by decide) (by decide)) (ib_wk b1375 (by decide) (by decide)) (ib_wk b1381 (by decide) (by decide)) (ib_wk b1387 (by decide) (by decide)) b1391 b1396 b1403 (ib_wk b1416 (by decide) (by decide)) (by omega) (by omega) (by omega) (by omega) (by omega) (by omega) (by omega) (by omega) (by omega) (by omega) (by omega) hI (up_o (o_trans (o_trans (o_trans (o_trans (o_trans (o_trans (o_trans (o_trans (o_trans (o_trans (o_trans hf13 o957 (by decide)) o991 (by decide)) o1033 (by decide)) o1079 (by decide)) o1114 (by decide)) o1160 (by decide)) o1195 (by decide)) o1242 (by decide)) o1277 (by decide)) o1324 (by decide)) o1359 (by decide)) eS1417 (by decide)) c1422 (ef_tr ef1360 (up_eq (j := 7) eS1417 (by decide))) ef1420 (ef_tr hE13_9 ((up_eq (j := 9) eS1417 (by decide)).trans ((o1359 9 (by decide)).trans ((o1324 9 (by decide)).trans ((o1277 9 (by decide)).trans ((o1242 9 (by decide)).trans ((o1195 9 (by decide)).trans ((o1160 9 (by decide)).trans ((o1114 9 (by decide)).trans ((o1079 9 (by decide)).trans ((o1033 9 (by decide)).trans ((o991 9 (by decide)).trans (o957 9 (by decide)))))))))))))) ((elm_of c1421 40).trans (congrArg Int32.toInt (ee1366))) ((elm_of c1421 41).trans (congrArg Int32.toInt (ee1372))) ((elm_of c1421 43).trans (congrArg Int32.toInt (ee1378))) ((elm_of c1421 46).trans (congrArg Int32.toInt (ee1384))) ((elm_of c1421 47).trans (congrArg Int32.toInt (ee1390))) ((elm_of c1421 48).trans (congrArg Int32.toInt (ee1395))) ((elm_of c1421 49).trans (congrArg Int32.toInt (ee1400))) ((elm_of c1418 4).trans (congrArg Int32.toInt ((upd_s)))) (ht_z (by show elm _ 46 ≤ 0; omega)) hQ (lv_sub hl [0] rfl)
            · have h1424 := ib_ne k1407
              have b1425 : Bd r1405 (1) (1) := rf_nlo b1405 (by decide : Bd 0 (0) (0)) h1424
              have g1426 := g1405_0.resolve_left (by omega)
              clear g1405_0
              have b1427 : Bd v1335 (0) (0) := ⟨(b1336).1, by omega⟩
              clear g1405_1
              refine lv_aload_n hx hb dX12_shore_132 rfl (lv_at hl 0 rfl) ?_
              have q1428 : fld (S1359 0) 6 = v1326.toInt := fld_of c1404 rfl
              have q1429 : fld (S1359 0) 7 = v1328.toInt := fld_of c1404 rfl
              refine xcVv E hs hQ hml hl.1 0 (gX12_ends_0 l g ad hD S1359 hI (by omega)) mX12_ends q1731 (by decide) c1404 rfl rfl ⟨(Nat.le_of_ble_eq_true rfl), (Nat.le_of_ble_eq_true rfl)⟩ ⟨(Nat.le_of_ble_eq_true rfl), (Nat.le_of_ble_eq_true rfl)⟩ (Nat.le_of_ble_eq_true rfl) rfl dX12_shore_133 (fun S1430 H locs hp1430 hQ _ => ?_)
              obtain ⟨hI, o1430, g1430_0, g1430_1, g1430_2, g1430_3⟩ := hp1430
              obtain ⟨v1431, v1432, v1434, v1436, v1438, v1439, w1440, v1441, v1443, v1444, v1445, v1446, v1448, v1450, v1452, v1454, v1456, v1457, v1458, c1459, b1433, b1435, b1437, b1442, b1447, b1449, b1451, b1453, b1455⟩ := invM_0 hI
              have c1459 : S1430 0 = .inr (12, [.int v1431, .ref (ad 1), .ref (ad 2), .ref (ad 3), .ref (ad 4), .ref (ad 5), .int v1432, .int v1434, .int v1436, .int v1438, .int v1439, .long w1440, .int v1441, .int v1443, .int v1444, .int v1445, .ref (ad 6), .ref (ad 7), .ref (ad 8), .ref (ad 9), .ref (ad 10), .ref (ad 11), .ref (ad 12), .ref (ad 13), .ref (ad 14), .ref (ad 15), .int v1446, .int v1448, .ref (ad 16), .int v1450, .int v1452, .int v1454, .int v1456, .int v1457, .ref (ad 17), .ref (ad 18), .int v1458, .ref (ad 19)]) := c1459
              have q1460 : fld (S1430 0) 6 = v1432.toInt := fld_of c1459 rfl
              have q1461 : fld (S1430 0) 7 = v1434.toInt := fld_of c1459 rfl
              have q1462 : fld (S1359 0) 8 = v1330.toInt := fld_of c1404 rfl
              have q1463 : fld (S1430 0) 8 = v1436.toInt := fld_of c1459 rfl
              have q1464 : fld (S1430 0) 12 = v1441.toInt := fld_of c1459 rfl
              refine lv_aload_n hx hb dX12_shore_136 rfl (lv_at hl 0 rfl) ?_
              refine xget E hQ 0 (by decide) c1459 rfl 16 (by decide) q1484 rfl dX12_shore_137 ?_
              refine lv_iconst (v := 4) hx hb dX12_shore_140 (by decide) ?_
              refine lv_dup2_11 hx hb dX12_shore_141 rfl rfl ?_
              have c1465 : S1430 6 = .inl (g.2 0, 5, .inl f784) := ((o1430 6 (by decide)).trans ((o1359 6 (by decide)).trans ((o1324 6 (by decide)).trans ((o1277 6 (by decide)).trans ((o1242 6 (by decide)).trans ((o1195 6 (by decide)).trans ((o1160 6 (by decide)).trans ((o1114 6 (by decide)).trans ((o1079 6 (by decide)).trans ((o1033 6 (by decide)).trans ((o991 6 (by decide)).trans ((o957 6 (by decide)).trans c785))))))))))))
              refine xiald E hQ 6 (by decide) c1465 (vp_in_lit 4 5 (by decide)) dX12_shore_142 ?_
              refine sb_at (P := fun z => W _ _ _ _ _ _ _ _ _ _ _ _ _ _ _ (F0 _ _ _ (.int z :: _))) (show f784 (4 : Int32).toNatClampNeg = ye13_6_4 from ee787) ?_
              refine lv_iconst (v := 1) hx hb dX12_shore_143 (by decide) ?_
              refine lv_iadd hx hb dX12_shore_144 ?_
              refine lv_topi (fun z1466 e1467 => ?_)
              have t1468 := ib_add e1467 b954 (by decide : Bd 1 (1) (1)) (by decide) (by decide)
              have b1469 : Bd z1466 (1) (1) := ib_addb t1468 b954 (by decide : Bd 1 (1) (1))
              have t1468 : z1466.toInt = ye13_6_4.toInt + 1 := fold_add t1468 rfl (by decide)
              refine xiast E hs hQ 6 (by decide) c1465 (vp_in_lit 4 5 (by decide)) dX12_shore_145 (fun H locs S1470 eS1470 hQ => ?_)
              have hI := invM_up_6 hI eS1470 ⟨_, rfl, upd_b b786 (ib_wk b1469 (by decide) (by decide))⟩
              have b1472 : ∀ j, Bd ((upd f784 (4 : Int32).toNatClampNeg z1466) j) (0) (40000) := upd_b b786 (ib_wk b1469 (by decide) (by decide))
              have c1471 : S1470 6 = .inl (g.2 0, 5, .inl (upd f784 (4 : Int32).toNatClampNeg z1466)) := up_at eS1470 rfl
              have ef1473 : EFp (S1470 6) (S 6) 0 4 := ef_up (ef_tr hE13_6 ((o1430 6 (by decide)).trans ((o1359 6 (by decide)).trans ((o1324 6 (by decide)).trans ((o1277 6 (by decide)).trans ((o1242 6 (by decide)).trans ((o1195 6 (by decide)).trans ((o1160 6 (by decide)).trans ((o1114 6 (by decide)).trans ((o1079 6 (by decide)).trans ((o1033 6 (by decide)).trans ((o991 6 (by decide)).trans (o957 6 (by decide)))))))))))))) c1465 c1471 (by decide)
              refine lv_goto (tgt := 13) hx hb dX12_shore_146 (by decide) ?_
              have c1474 : S1470 7 = .inl (g.2 0, 50, .inl f1362) := (up_ne eS1470 (by decide) ((o1430 7 (by decide)).trans c1363))
              have c1475 : S1470 0 = .inr (12, [.int v1431, .ref (ad 1), .ref (ad 2), .ref (ad 3), .ref (ad 4), .ref (ad 5), .int v1432, .int v1434, .int v1436, .int v1438, .int v1439, .long w1440, .int v1441, .int v1443, .int v1444, .int v1445, .ref (ad 6), .ref (ad 7), .ref (ad 8), .ref (ad 9), .ref (ad 10), .ref (ad 11), .ref (ad 12), .ref (ad 13), .ref (ad 14), .ref (ad 15), .int v1446, .int v1448, .ref (ad 16), .int v1450, .int v1452, .int v1454, .int v1456, .int v1457, .ref (ad 17), .ref (ad 18), .int v1458, .ref (ad 19)]) := (up_ne eS1470 (by decide) c1459)
              have q1476 : elm (S1470 7) 46 = v1383.toInt := (elm_of c1474 46).trans (congrArg Int32.toInt (ee1384))
              exact ih13 _ _ _ _ v1431 v1432 v1434 v1436 v1438 v1439 w1440 v1441 v1443 v1444 v1445 v1446 v1448 v1450 v1452 v1454 v1456 v1457 v1458 v1365 v1371 v1377 v1383 v1389 v1394 v1399 z1466 b1433 b1435 b1437 b1442 b1447 b1449 b1451 b1453 b1455 (ib_wk b1369 (by decide) (by decide)) (ib_wk b1375 (by decide) (by decide)) (ib_wk b1381 (by decide) (by decide)) (ib_wk b1387 (by decide) (by decide)) b1391 b1396 b1403 (ib_wk b1469 (by decide) (by decide)) (by omega) (by omega) (by omega) (by omega) (by omega) (by omega) (by omega) (by omega) (by omega) (by omega) (by omega) hI (up_o (o_trans (o_trans (o_trans (o_trans (o_trans (o_trans (o_trans (o_trans (o_trans (o_trans (o_trans (o_trans hf13 o957 (by decide)) o991 (by decide)) o1033 (by decide)) o1079 (by decide)) o1114 (by decide)) o1160 (by decide)) o1195 (by decide)) o1242 (by decide)) o1277 (by decide)) o1324 (by decide)) o1359 (by decide)) o1430 (by decide)) eS1470 (by decide)) c1475 (ef_tr ef1360 ((up_eq (j := 7) eS1470 (by decide)).trans (o1430 7 (by decide)))) ef1473 (ef_tr hE13_9 ((up_eq (j := 9) eS1470 (by decide)).trans ((o1430 9 (by decide)).trans ((o1359 9 (by decide)).trans ((o1324 9 (by decide)).trans ((o1277 9 (by decide)).trans ((o1242 9 (by decide)).trans ((o1195 9 (by decide)).trans ((o1160 9 (by decide)).trans ((o1114 9 (by decide)).trans ((o1079 9 (by decide)).trans ((o1033 9 (by decide)).trans ((o991 9 (by decide)).trans (o957 9 (by decide))))))))))))))) ((elm_of c1474 40).trans (congrArg Int32.toInt (ee1366))) ((elm_of c1474 41).trans (congrArg Int32.toInt (ee1372))) ((elm_of c1474 43).trans (congrArg Int32.toInt (ee1378))) ((elm_of c1474 46).trans (congrArg Int32.toInt (ee1384))) ((elm_of c1474 47).trans (congrArg Int32.toInt (ee1390))) ((elm_of c1474 48).trans (congrArg Int32.toInt (ee1395))) ((elm_of c1474 49).trans (congrArg Int32.toInt (ee1400))) ((elm_of c1471 4).trans (congrArg Int32.toInt ((upd_s)))) (ht_z (by show elm _ 46 ≤ 0; omega)) hQ (lv_sub hl [0] rfl)
  obtain ⟨n13, hn13⟩ := fu_n (4 * v208.toInt + (-4) * v210.toInt + v212.toInt + (-10000) * v217.toInt + 30000)
  have q1477 : elm (S206 7) 46 = v177.toInt := (elm_of c241 46).trans (congrArg Int32.toInt (ee178))
  exact loop13 n13 _ _ _ _ v207 v208 v210 v212 v214 v215 w216 v217 v219 v220 v221 v222 v224 v226 v228 v230 v232 v233 v234 v162 v167 v172 v177 v182 v187 v192 v200 b209 b211 b213 (ib_wk b240 (by decide) (by decide)) b223 b225 b227 b229 b231 (ib_wk b166 (by decide) (by decide)) (ib_wk b171 (by decide) (by decide)) (ib_wk b176 (by decide) (by decide)) (ib_wk b181 (by decide) (by decide)) (ib_wk b186 (by decide) (by decide)) (ib_wk b191 (by decide) (by decide)) b196 (ib_wk b204 (by decide) (by decide)) (by omega) (by omega) (by omega) (by omega) (by omega) (by omega) (by omega) (by omega) (by omega) (by omega) (by omega) hI o_refl c235 (ef_tr ef157 (o206 7 (by decide))) (ef_tr ef158 (o206 6 (by decide))) (ef_tr ef9_0 ((o206 9 (by decide)).trans ((o156 9 (by decide)).trans (up_eq (j := 9) eS154 (by decide))))) ((elm_of c241 40).trans (congrArg Int32.toInt (ee163))) ((elm_of c241 41).trans (congrArg Int32.toInt (ee168))) ((elm_of c241 43).trans (congrArg Int32.toInt (ee173))) ((elm_of c241 46).trans (congrArg Int32.toInt (ee178))) ((elm_of c241 47).trans (congrArg Int32.toInt (ee183))) ((elm_of c241 48).trans (congrArg Int32.toInt (ee188))) ((elm_of c241 49).trans (congrArg Int32.toInt (ee193))) ((elm_of c242 4).trans (congrArg Int32.toInt (ee201))) (ht_z (by show elm _ 46 ≤ 0; omega)) hQ (lv_sub hl [0] rfl)
