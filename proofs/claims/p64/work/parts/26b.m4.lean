set_option maxHeartbeats 4000000 in
set_option maxRecDepth 100000 in
theorem gX12_sit_0 (l : Launch) (g : GG) (ad : Nat → Nat) (hD : Dj ad 20) (S : SS) (hI : InvM g ad S) (a1 : Int32) (a2 : Int32) (hq1 : 0 ≤ 12 * elm (S 7) 1 + (-1) * elm (S 7) 0) (hq2 : 0 ≤ 12 * elm (S 7) 3 + (-1) * elm (S 7) 0) (hq3 : 0 ≤ 8 * elm (S 7) 0 + (-1) * elm (S 7) 6) (hq4 : 0 ≤ 3 * elm (S 7) 0 + (-1) * elm (S 7) 8) (hq5 : 0 ≤ 40000 * elm (S 7) 0 + (-1) * elm (S 6) 0) (hq6 : 0 ≤ 12 * elm (S 7) 11 + (-1) * elm (S 7) 10) (hq7 : 0 ≤ 12 * elm (S 7) 13 + (-1) * elm (S 7) 10) (hq8 : 0 ≤ 8 * elm (S 7) 10 + (-1) * elm (S 7) 16) (hq9 : 0 ≤ 3 * elm (S 7) 10 + (-1) * elm (S 7) 18) (hq10 : 0 ≤ 40000 * elm (S 7) 10 + (-1) * elm (S 6) 1) (hq11 : 0 ≤ 12 * elm (S 7) 21 + (-1) * elm (S 7) 20) (hq12 : 0 ≤ 12 * elm (S 7) 23 + (-1) * elm (S 7) 20) (hq13 : 0 ≤ 8 * elm (S 7) 20 + (-1) * elm (S 7) 26) (hq14 : 0 ≤ 3 * elm (S 7) 20 + (-1) * elm (S 7) 28) (hq15 : 0 ≤ 40000 * elm (S 7) 20 + (-1) * elm (S 6) 2) (hq16 : 0 ≤ 12 * elm (S 7) 31 + (-1) * elm (S 7) 30) (hq17 : 0 ≤ 12 * elm (S 7) 33 + (-1) * elm (S 7) 30) (hq18 : 0 ≤ 8 * elm (S 7) 30 + (-1) * elm (S 7) 36) (hq19 : 0 ≤ 3 * elm (S 7) 30 + (-1) * elm (S 7) 38) (hq20 : 0 ≤ 40000 * elm (S 7) 30 + (-1) * elm (S 6) 3) (hAT0 : ATp (S 7) (S 12) 0) (hAT1 : ATp (S 7) (S 12) 1) (hAT2 : ATp (S 7) (S 12) 2) (hAT3 : ATp (S 7) (S 12) 3) : Met l yX12_sit (wG (.code yX12_sit cX12_sit 3 (some .int))) (Rm 2) (XPre g ad 20 S [.ref (ad 0), .int a1, .int a2]) (va_Qi (fun r S' => InvM g ad S' ∧ (∀ j, j ∉ ([0, 7, 12, 14, 15] : List Nat) → S' j = S j) ∧ Bd r (-5) (11) ∧ (0 ≤ 12 * elm (S' 7) 1 + (-1) * elm (S' 7) 0) ∧ (0 ≤ 12 * elm (S' 7) 3 + (-1) * elm (S' 7) 0) ∧ (0 ≤ 8 * elm (S' 7) 0 + (-1) * elm (S' 7) 6) ∧ (0 ≤ 3 * elm (S' 7) 0 + (-1) * elm (S' 7) 8) ∧ (0 ≤ 40000 * elm (S' 7) 0 + (-1) * elm (S' 6) 0) ∧ (0 ≤ 12 * elm (S' 7) 11 + (-1) * elm (S' 7) 10) ∧ (0 ≤ 12 * elm (S' 7) 13 + (-1) * elm (S' 7) 10) ∧ (0 ≤ 8 * elm (S' 7) 10 + (-1) * elm (S' 7) 16) ∧ (0 ≤ 3 * elm (S' 7) 10 + (-1) * elm (S' 7) 18) ∧ (0 ≤ 40000 * elm (S' 7) 10 + (-1) * elm (S' 6) 1) ∧ (0 ≤ 12 * elm (S' 7) 21 + (-1) * elm (S' 7) 20) ∧ (0 ≤ 12 * elm (S' 7) 23 + (-1) * elm (S' 7) 20) ∧ (0 ≤ 8 * elm (S' 7) 20 + (-1) * elm (S' 7) 26) ∧ (0 ≤ 3 * elm (S' 7) 20 + (-1) * elm (S' 7) 28) ∧ (0 ≤ 40000 * elm (S' 7) 20 + (-1) * elm (S' 6) 2) ∧ (0 ≤ 12 * elm (S' 7) 31 + (-1) * elm (S' 7) 30) ∧ (0 ≤ 12 * elm (S' 7) 33 + (-1) * elm (S' 7) 30) ∧ (0 ≤ 8 * elm (S' 7) 30 + (-1) * elm (S' 7) 36) ∧ (0 ≤ 3 * elm (S' 7) 30 + (-1) * elm (S' 7) 38) ∧ (0 ≤ 40000 * elm (S' 7) 30 + (-1) * elm (S' 6) 3) ∧ (0 ≤ elm (S 7) 0 + (-1) * elm (S' 7) 0 ∧ 0 ≤ elm (S' 7) 0 + (-1) * elm (S 7) 0) ∧ (0 ≤ elm (S 7) 6 + (-1) * elm (S' 7) 6 ∧ 0 ≤ elm (S' 7) 6 + (-1) * elm (S 7) 6) ∧ (0 ≤ elm (S 7) 10 + (-1) * elm (S' 7) 10 ∧ 0 ≤ elm (S' 7) 10 + (-1) * elm (S 7) 10) ∧ (0 ≤ elm (S 7) 16 + (-1) * elm (S' 7) 16 ∧ 0 ≤ elm (S' 7) 16 + (-1) * elm (S 7) 16) ∧ (0 ≤ elm (S 7) 20 + (-1) * elm (S' 7) 20 ∧ 0 ≤ elm (S' 7) 20 + (-1) * elm (S 7) 20) ∧ (0 ≤ elm (S 7) 26 + (-1) * elm (S' 7) 26 ∧ 0 ≤ elm (S' 7) 26 + (-1) * elm (S 7) 26) ∧ (0 ≤ elm (S 7) 30 + (-1) * elm (S' 7) 30 ∧ 0 ≤ elm (S' 7) 30 + (-1) * elm (S 7) 30) ∧ (0 ≤ elm (S 7) 36 + (-1) * elm (S' 7) 36 ∧ 0 ≤ elm (S' 7) 36 + (-1) * elm (S 7) 36) ∧ (ATp (S' 7) (S' 12) 0) ∧ (ATp (S' 7) (S' 12) 1) ∧ (ATp (S' 7) (S' 12) 2) ∧ (ATp (S' 7) (S' 12) 3)) (QB g ad 20) (FA ad 20)) 0 0 (FA ad 20) := by
  refine xmet cX12_sit "EbbWreckModel" (by decide) rfl (Nat.le_of_ble_eq_true rfl) (fun p e s m below meth c E hr hlk hml hQ ls hl => ?_)
  have hx := E.1
  have hb := E.2.1
  have hs : Sp ad 20 (FA ad 20) := Sp.fa hD
  have hl : lv_has ls 3 [(0, .ref (ad 0)), (1, .int a1), (2, .int a2)] := hl
  obtain ⟨f1, c2, b3⟩ := invM_7 hI
  obtain ⟨v4, ee5⟩ : ∃ z : Int32, f1 1 = z := ⟨_, rfl⟩
  have b6 : Bd v4 (0) (12) := (by rw [← ee5]; exact b3.2.1 1 (by decide))
  obtain ⟨v7, ee8⟩ : ∃ z : Int32, f1 0 = z := ⟨_, rfl⟩
  have b9 : Bd v7 (0) (12) := (by rw [← ee8]; exact b3.1 0 (by decide))
  obtain ⟨v10, ee11⟩ : ∃ z : Int32, f1 3 = z := ⟨_, rfl⟩
  have b12 : Bd v10 (0) (12) := (by rw [← ee11]; exact b3.2.2.2.1 3 (by decide))
  obtain ⟨v13, ee14⟩ : ∃ z : Int32, f1 6 = z := ⟨_, rfl⟩
  have b15 : Bd v13 (0) (8) := (by rw [← ee14]; exact b3.2.2.2.2.1 6 (by decide))
  obtain ⟨v16, ee17⟩ : ∃ z : Int32, f1 8 = z := ⟨_, rfl⟩
  have b18 : Bd v16 (0) (3) := (by rw [← ee17]; exact b3.2.2.2.2.2.2.1 8 (by decide))
  obtain ⟨f19, c20, b21⟩ := invM_6 hI
  obtain ⟨v22, ee23⟩ : ∃ z : Int32, f19 0 = z := ⟨_, rfl⟩
  have b24 : Bd v22 (0) (40000) := (by rw [← ee23]; exact b21 0)
  obtain ⟨v25, ee26⟩ : ∃ z : Int32, f1 11 = z := ⟨_, rfl⟩
  have b27 : Bd v25 (0) (12) := (by rw [← ee26]; exact b3.2.1 11 (by decide))
  obtain ⟨v28, ee29⟩ : ∃ z : Int32, f1 10 = z := ⟨_, rfl⟩
  have b30 : Bd v28 (0) (12) := (by rw [← ee29]; exact b3.1 10 (by decide))
  obtain ⟨v31, ee32⟩ : ∃ z : Int32, f1 13 = z := ⟨_, rfl⟩
  have b33 : Bd v31 (0) (12) := (by rw [← ee32]; exact b3.2.2.2.1 13 (by decide))
  obtain ⟨v34, ee35⟩ : ∃ z : Int32, f1 16 = z := ⟨_, rfl⟩
  have b36 : Bd v34 (0) (8) := (by rw [← ee35]; exact b3.2.2.2.2.1 16 (by decide))
  obtain ⟨v37, ee38⟩ : ∃ z : Int32, f1 18 = z := ⟨_, rfl⟩
  have b39 : Bd v37 (0) (3) := (by rw [← ee38]; exact b3.2.2.2.2.2.2.1 18 (by decide))
  obtain ⟨v40, ee41⟩ : ∃ z : Int32, f19 1 = z := ⟨_, rfl⟩
  have b42 : Bd v40 (0) (40000) := (by rw [← ee41]; exact b21 1)
  obtain ⟨v43, ee44⟩ : ∃ z : Int32, f1 21 = z := ⟨_, rfl⟩
  have b45 : Bd v43 (0) (12) := (by rw [← ee44]; exact b3.2.1 21 (by decide))
  obtain ⟨v46, ee47⟩ : ∃ z : Int32, f1 20 = z := ⟨_, rfl⟩
  have b48 : Bd v46 (0) (12) := (by rw [← ee47]; exact b3.1 20 (by decide))
  obtain ⟨v49, ee50⟩ : ∃ z : Int32, f1 23 = z := ⟨_, rfl⟩
  have b51 : Bd v49 (0) (12) := (by rw [← ee50]; exact b3.2.2.2.1 23 (by decide))
  obtain ⟨v52, ee53⟩ : ∃ z : Int32, f1 26 = z := ⟨_, rfl⟩
  have b54 : Bd v52 (0) (8) := (by rw [← ee53]; exact b3.2.2.2.2.1 26 (by decide))
  obtain ⟨v55, ee56⟩ : ∃ z : Int32, f1 28 = z := ⟨_, rfl⟩
  have b57 : Bd v55 (0) (3) := (by rw [← ee56]; exact b3.2.2.2.2.2.2.1 28 (by decide))
  obtain ⟨v58, ee59⟩ : ∃ z : Int32, f19 2 = z := ⟨_, rfl⟩
  have b60 : Bd v58 (0) (40000) := (by rw [← ee59]; exact b21 2)
  obtain ⟨v61, ee62⟩ : ∃ z : Int32, f1 31 = z := ⟨_, rfl⟩
  have b63 : Bd v61 (0) (12) := (by rw [← ee62]; exact b3.2.1 31 (by decide))
  obtain ⟨v64, ee65⟩ : ∃ z : Int32, f1 30 = z := ⟨_, rfl⟩
  have b66 : Bd v64 (0) (12) := (by rw [← ee65]; exact b3.1 30 (by decide))
  obtain ⟨v67, ee68⟩ : ∃ z : Int32, f1 33 = z := ⟨_, rfl⟩
  have b69 : Bd v67 (0) (12) := (by rw [← ee68]; exact b3.2.2.2.1 33 (by decide))
  obtain ⟨v70, ee71⟩ : ∃ z : Int32, f1 36 = z := ⟨_, rfl⟩
  have b72 : Bd v70 (0) (8) := (by rw [← ee71]; exact b3.2.2.2.2.1 36 (by decide))
  obtain ⟨v73, ee74⟩ : ∃ z : Int32, f1 38 = z := ⟨_, rfl⟩
  have b75 : Bd v73 (0) (3) := (by rw [← ee74]; exact b3.2.2.2.2.2.2.1 38 (by decide))
  obtain ⟨v76, ee77⟩ : ∃ z : Int32, f19 3 = z := ⟨_, rfl⟩
  have b78 : Bd v76 (0) (40000) := (by rw [← ee77]; exact b21 3)
  have q79 : elm (S 7) 1 = v4.toInt := (elm_of c2 1).trans (congrArg Int32.toInt (ee5))
  have q80 : elm (S 7) 0 = v7.toInt := (elm_of c2 0).trans (congrArg Int32.toInt (ee8))
  have q81 : elm (S 7) 3 = v10.toInt := (elm_of c2 3).trans (congrArg Int32.toInt (ee11))
  have q82 : elm (S 7) 6 = v13.toInt := (elm_of c2 6).trans (congrArg Int32.toInt (ee14))
  have q83 : elm (S 7) 8 = v16.toInt := (elm_of c2 8).trans (congrArg Int32.toInt (ee17))
  have q84 : elm (S 6) 0 = v22.toInt := (elm_of c20 0).trans (congrArg Int32.toInt (ee23))
  have q85 : elm (S 7) 11 = v25.toInt := (elm_of c2 11).trans (congrArg Int32.toInt (ee26))
  have q86 : elm (S 7) 10 = v28.toInt := (elm_of c2 10).trans (congrArg Int32.toInt (ee29))
  have q87 : elm (S 7) 13 = v31.toInt := (elm_of c2 13).trans (congrArg Int32.toInt (ee32))
  have q88 : elm (S 7) 16 = v34.toInt := (elm_of c2 16).trans (congrArg Int32.toInt (ee35))
  have q89 : elm (S 7) 18 = v37.toInt := (elm_of c2 18).trans (congrArg Int32.toInt (ee38))
  have q90 : elm (S 6) 1 = v40.toInt := (elm_of c20 1).trans (congrArg Int32.toInt (ee41))
  have q91 : elm (S 7) 21 = v43.toInt := (elm_of c2 21).trans (congrArg Int32.toInt (ee44))
  have q92 : elm (S 7) 20 = v46.toInt := (elm_of c2 20).trans (congrArg Int32.toInt (ee47))
  have q93 : elm (S 7) 23 = v49.toInt := (elm_of c2 23).trans (congrArg Int32.toInt (ee50))
  have q94 : elm (S 7) 26 = v52.toInt := (elm_of c2 26).trans (congrArg Int32.toInt (ee53))
  have q95 : elm (S 7) 28 = v55.toInt := (elm_of c2 28).trans (congrArg Int32.toInt (ee56))
  have q96 : elm (S 6) 2 = v58.toInt := (elm_of c20 2).trans (congrArg Int32.toInt (ee59))
  have q97 : elm (S 7) 31 = v61.toInt := (elm_of c2 31).trans (congrArg Int32.toInt (ee62))
  have q98 : elm (S 7) 30 = v64.toInt := (elm_of c2 30).trans (congrArg Int32.toInt (ee65))
  have q99 : elm (S 7) 33 = v67.toInt := (elm_of c2 33).trans (congrArg Int32.toInt (ee68))
  have q100 : elm (S 7) 36 = v70.toInt := (elm_of c2 36).trans (congrArg Int32.toInt (ee71))
  have q101 : elm (S 7) 38 = v73.toInt := (elm_of c2 38).trans (congrArg Int32.toInt (ee74))
  have q102 : elm (S 6) 3 = v76.toInt := (elm_of c20 3).trans (congrArg Int32.toInt (ee77))
  obtain ⟨f103, c104, b105⟩ := invM_12 hI
  obtain ⟨f106, c107, b108⟩ := invM_9 hI
  obtain ⟨v109, ee110⟩ : ∃ z : Int32, f1 9 = z := ⟨_, rfl⟩
  have b111 : Bd v109 (0) (40) := (by rw [← ee110]; exact b3.2.2.2.2.2.2.2 9 (by decide))
  obtain ⟨v112, ee113⟩ : ∃ z : Int32, f1 19 = z := ⟨_, rfl⟩
  have b114 : Bd v112 (0) (40) := (by rw [← ee113]; exact b3.2.2.2.2.2.2.2 19 (by decide))
  obtain ⟨v115, ee116⟩ : ∃ z : Int32, f1 29 = z := ⟨_, rfl⟩
  have b117 : Bd v115 (0) (40) := (by rw [← ee116]; exact b3.2.2.2.2.2.2.2 29 (by decide))
  obtain ⟨v118, ee119⟩ : ∃ z : Int32, f1 39 = z := ⟨_, rfl⟩
  have b120 : Bd v118 (0) (40) := (by rw [← ee119]; exact b3.2.2.2.2.2.2.2 39 (by decide))
  refine lv_aload_n hx hb dX12_sit_0 rfl (lv_at hl 0 rfl) ?_
  refine lv_iconst (v := 0) hx hb dX12_sit_1 (by decide) ?_
  obtain ⟨v121, v122, v124, v126, v128, v129, w130, v131, v133, v134, v135, v136, v138, v140, v142, v144, v146, v147, v148, c149, b123, b125, b127, b132, b137, b139, b141, b143, b145⟩ := invM_0 hI
  have c149 : S 0 = .inr (12, [.int v121, .ref (ad 1), .ref (ad 2), .ref (ad 3), .ref (ad 4), .ref (ad 5), .int v122, .int v124, .int v126, .int v128, .int v129, .long w130, .int v131, .int v133, .int v134, .int v135, .ref (ad 6), .ref (ad 7), .ref (ad 8), .ref (ad 9), .ref (ad 10), .ref (ad 11), .ref (ad 12), .ref (ad 13), .ref (ad 14), .ref (ad 15), .int v136, .int v138, .ref (ad 16), .int v140, .int v142, .int v144, .int v146, .int v147, .ref (ad 17), .ref (ad 18), .int v148, .ref (ad 19)]) := c149
  refine xputi E hs hQ 0 (by decide) c149 rfl 0 (by decide) q1468 rfl rfl (Nat.le_of_ble_eq_true rfl) dX12_sit_2 (fun H locs S150 eS150 hQ => ?_)
  have hI := invM_up_0 hI eS150 ⟨0, v122, v124, v126, v128, v129, w130, v131, v133, v134, v135, v136, v138, v140, v142, v144, v146, v147, v148, rfl, b123, b125, b127, b132, b137, b139, b141, b143, b145⟩
  have c151 : S150 0 = .inr (12, [.int 0, .ref (ad 1), .ref (ad 2), .ref (ad 3), .ref (ad 4), .ref (ad 5), .int v122, .int v124, .int v126, .int v128, .int v129, .long w130, .int v131, .int v133, .int v134, .int v135, .ref (ad 6), .ref (ad 7), .ref (ad 8), .ref (ad 9), .ref (ad 10), .ref (ad 11), .ref (ad 12), .ref (ad 13), .ref (ad 14), .ref (ad 15), .int v136, .int v138, .ref (ad 16), .int v140, .int v142, .int v144, .int v146, .int v147, .ref (ad 17), .ref (ad 18), .int v148, .ref (ad 19)]) := up_at eS150 rfl
  refine lv_aload_n hx hb dX12_sit_5 rfl (lv_at hl 0 rfl) ?_
  refine lv_iload_n hx hb dX12_sit_6 rfl (lv_at hl 1 rfl) ?_
  have c152 : S150 7 = .inl (g.2 0, 50, .inl f1) := (up_ne eS150 (by decide) c2)
  refine xcVi E hs hQ hml hl.1 0 (gX12_isSitter_0 l g ad hD S150 hI a1) mX12_isSitter q1816 (by decide) c151 rfl rfl ⟨(Nat.le_of_ble_eq_true rfl), (Nat.le_of_ble_eq_true rfl)⟩ ⟨(Nat.le_of_ble_eq_true rfl), (Nat.le_of_ble_eq_true rfl)⟩ (Nat.le_of_ble_eq_true rfl) rfl dX12_sit_7 (fun r153 S153 H locs hp153 hQ _ => ?_)
  obtain ⟨rfl, b153, g153_0⟩ := hp153
  have q154 : elm (S150 7) 8 = v16.toInt := (elm_of c152 8).trans (congrArg Int32.toInt (ee17))
  refine lv_if_eq (tgt := 22) hx hb dX12_sit_10 (by decide) (fun k155 => ?_) (fun k155 => ?_)
  · have h156 := ib_eq k155
    have b157 : Bd r153 (0) (0) := ⟨(b153).1, ((rf_eq b153 (by decide : Bd 0 (0) (0)) h156).1).2⟩
    clear g153_0
    refine lv_bipush (v := (-2)) hx hb dX12_sit_22 (by decide) ?_
    have q158 : elm (S150 7) 1 = v4.toInt := (elm_of c152 1).trans (congrArg Int32.toInt (ee5))
    have q159 : elm (S150 7) 0 = v7.toInt := (elm_of c152 0).trans (congrArg Int32.toInt (ee8))
    have q160 : elm (S150 7) 3 = v10.toInt := (elm_of c152 3).trans (congrArg Int32.toInt (ee11))
    have q161 : elm (S150 7) 6 = v13.toInt := (elm_of c152 6).trans (congrArg Int32.toInt (ee14))
    have c162 : S150 6 = .inl (g.2 0, 5, .inl f19) := (up_ne eS150 (by decide) c20)
    have q163 : elm (S150 6) 0 = v22.toInt := (elm_of c162 0).trans (congrArg Int32.toInt (ee23))
    have q164 : elm (S150 7) 11 = v25.toInt := (elm_of c152 11).trans (congrArg Int32.toInt (ee26))
    have q165 : elm (S150 7) 10 = v28.toInt := (elm_of c152 10).trans (congrArg Int32.toInt (ee29))
    have q166 : elm (S150 7) 13 = v31.toInt := (elm_of c152 13).trans (congrArg Int32.toInt (ee32))
    have q167 : elm (S150 7) 16 = v34.toInt := (elm_of c152 16).trans (congrArg Int32.toInt (ee35))
    have q168 : elm (S150 7) 18 = v37.toInt := (elm_of c152 18).trans (congrArg Int32.toInt (ee38))
    have q169 : elm (S150 6) 1 = v40.toInt := (elm_of c162 1).trans (congrArg Int32.toInt (ee41))
    have q170 : elm (S150 7) 21 = v43.toInt := (elm_of c152 21).trans (congrArg Int32.toInt (ee44))
    have q171 : elm (S150 7) 20 = v46.toInt := (elm_of c152 20).trans (congrArg Int32.toInt (ee47))
    have q172 : elm (S150 7) 23 = v49.toInt := (elm_of c152 23).trans (congrArg Int32.toInt (ee50))
    have q173 : elm (S150 7) 26 = v52.toInt := (elm_of c152 26).trans (congrArg Int32.toInt (ee53))
    have q174 : elm (S150 7) 28 = v55.toInt := (elm_of c152 28).trans (congrArg Int32.toInt (ee56))
    have q175 : elm (S150 6) 2 = v58.toInt := (elm_of c162 2).trans (congrArg Int32.toInt (ee59))
    have q176 : elm (S150 7) 31 = v61.toInt := (elm_of c152 31).trans (congrArg Int32.toInt (ee62))
    have q177 : elm (S150 7) 30 = v64.toInt := (elm_of c152 30).trans (congrArg Int32.toInt (ee65))
    have q178 : elm (S150 7) 33 = v67.toInt := (elm_of c152 33).trans (congrArg Int32.toInt (ee68))
    have q179 : elm (S150 7) 36 = v70.toInt := (elm_of c152 36).trans (congrArg Int32.toInt (ee71))
    have q180 : elm (S150 7) 38 = v73.toInt := (elm_of c152 38).trans (congrArg Int32.toInt (ee74))
    have q181 : elm (S150 6) 3 = v76.toInt := (elm_of c162 3).trans (congrArg Int32.toInt (ee77))
    exact xri E hr hlk hQ (⟨hI, (up_o o_refl eS150 (by decide)), (ib_wk (by decide : Bd (-2) (-2) (-2)) (by decide) (by decide)), (by omega), (by omega), (by omega), (by omega), (by omega), (by omega), (by omega), (by omega), (by omega), (by omega), (by omega), (by omega), (by omega), (by omega), (by omega), (by omega), (by omega), (by omega), (by omega), (by omega), ⟨by omega, by omega⟩, ⟨by omega, by omega⟩, ⟨by omega, by omega⟩, ⟨by omega, by omega⟩, ⟨by omega, by omega⟩, ⟨by omega, by omega⟩, ⟨by omega, by omega⟩, ⟨by omega, by omega⟩, (at_tr hAT0 (up_eq (j := 7) eS150 (by decide)) (up_eq (j := 12) eS150 (by decide))), (at_tr hAT1 (up_eq (j := 7) eS150 (by decide)) (up_eq (j := 12) eS150 (by decide))), (at_tr hAT2 (up_eq (j := 7) eS150 (by decide)) (up_eq (j := 12) eS150 (by decide))), (at_tr hAT3 (up_eq (j := 7) eS150 (by decide)) (up_eq (j := 12) eS150 (by decide)))⟩) dX12_sit_24
  · have h182 := ib_ne k155
    have b183 : Bd r153 (1) (1) := rf_nlo b153 (by decide : Bd 0 (0) (0)) h182
    have g184 := g153_0.resolve_left (by omega)
    clear g153_0
    have b185 : Bd a1 (0) (2) := ⟨by omega, by omega⟩
    have b186 : Bd v16 (1) (3) := ⟨by omega, (b18).2⟩
    refine lv_aload_n hx hb dX12_sit_13 rfl (lv_at hl 0 rfl) ?_
    refine lv_iload_n hx hb dX12_sit_14 rfl (lv_at hl 2 rfl) ?_
    refine lv_i2l hx hb dX12_sit_15 rfl ?_
    refine lv_topl (fun w187 e188 => ?_)
    have t189 : w187.toInt = a2.toInt := by rw [e188]; exact i2l_i _
    have b190 : BdL w187 (-2147483648) (2147483647) := (by have h1 := ((ib_full a2)).1; have h2 := ((ib_full a2)).2; exact ⟨by omega, by omega⟩)
    refine xcVi E hs hQ hml hl.1 0 (gX12_isCell_0 l g ad hD S150 hI w187) mX12_isCell q1750 (by decide) c151 rfl rfl ⟨(Nat.le_of_ble_eq_true rfl), (Nat.le_of_ble_eq_true rfl)⟩ ⟨(Nat.le_of_ble_eq_true rfl), (Nat.le_of_ble_eq_true rfl)⟩ (Nat.le_of_ble_eq_true rfl) rfl dX12_sit_16 (fun r191 S191 H locs hp191 hQ _ => ?_)
    obtain ⟨rfl, b191, g191_0⟩ := hp191
    have q192 : elm (S150 7) 0 = v7.toInt := (elm_of c152 0).trans (congrArg Int32.toInt (ee8))
    refine lv_if_ne (tgt := 25) hx hb dX12_sit_19 (by decide) (fun k193 => ?_) (fun k193 => ?_)
    · have h194 := ib_ne k193
      have b195 : Bd r191 (1) (1) := rf_nlo b191 (by decide : Bd 0 (0) (0)) h194
      have g196 := g191_0.resolve_left (by omega)
      clear g191_0
      have b197 : BdL w187 (0) (11) := ⟨by omega, by omega⟩
      have b198 : Bd v7 (1) (12) := ⟨by omega, (b9).2⟩
      have b199 : Bd a2 (0) (11) := ⟨by omega, by omega⟩
      refine lv_aload_n hx hb dX12_sit_25 rfl (lv_at hl 0 rfl) ?_
      refine xcVi E hs hQ hml hl.1 0 (gX12_isFull_0 l g ad hD S150 hI ) mX12_isFull q2104 (by decide) c151 rfl rfl ⟨(Nat.le_of_ble_eq_true rfl), (Nat.le_of_ble_eq_true rfl)⟩ ⟨(Nat.le_of_ble_eq_true rfl), (Nat.le_of_ble_eq_true rfl)⟩ (Nat.le_of_ble_eq_true rfl) rfl dX12_sit_26 (fun r200 S200 H locs hp200 hQ _ => ?_)
      obtain ⟨rfl, b200, g200_0⟩ := hp200
      have q201 : elm (S150 7) 9 = v109.toInt := (elm_of c152 9).trans (congrArg Int32.toInt (ee110))
      refine lv_if_eq (tgt := 35) hx hb dX12_sit_29 (by decide) (fun k202 => ?_) (fun k202 => ?_)
      · have h203 := ib_eq k202
        have b204 : Bd r200 (0) (0) := ⟨(b200).1, ((rf_eq b200 (by decide : Bd 0 (0) (0)) h203).1).2⟩
        have g205 := g200_0.resolve_left (by omega)
        clear g200_0
        have b206 : Bd v109 (0) (39) := ⟨(b111).1, by omega⟩
        refine lv_aload_n hx hb dX12_sit_35 rfl (lv_at hl 0 rfl) ?_
        refine xcVv E hs hQ hml hl.1 0 (gX12_lays_0 l g ad hD S150 hI (at_tr hAT0 (up_eq (j := 7) eS150 (by decide)) (up_eq (j := 12) eS150 (by decide)))) mX12_lays q1820 (by decide) c151 rfl rfl ⟨(Nat.le_of_ble_eq_true rfl), (Nat.le_of_ble_eq_true rfl)⟩ ⟨(Nat.le_of_ble_eq_true rfl), (Nat.le_of_ble_eq_true rfl)⟩ (Nat.le_of_ble_eq_true rfl) rfl dX12_sit_36 (fun S207 H locs hp207 hQ _ => ?_)
        obtain ⟨hI, o207⟩ := hp207
        refine lv_aload_n hx hb dX12_sit_39 rfl (lv_at hl 0 rfl) ?_
        refine lv_iconst (v := 0) hx hb dX12_sit_40 (by decide) ?_
        refine lv_iload_n hx hb dX12_sit_41 rfl (lv_at hl 1 rfl) ?_
        refine lv_iload_n hx hb dX12_sit_42 rfl (lv_at hl 2 rfl) ?_
        refine lv_iconst (v := 0) hx hb dX12_sit_43 (by decide) ?_
        have c208 : S207 7 = .inl (g.2 0, 50, .inl f1) := ((o207 7 (by decide)).trans c152)
        have q209 : elm (S207 7) 9 = v109.toInt := (elm_of c208 9).trans (congrArg Int32.toInt (ee110))
        have q210 : (0 : Int32).toInt = 0 := by decide
        have c212 : S207 0 = .inr (12, [.int 0, .ref (ad 1), .ref (ad 2), .ref (ad 3), .ref (ad 4), .ref (ad 5), .int v122, .int v124, .int v126, .int v128, .int v129, .long w130, .int v131, .int v133, .int v134, .int v135, .ref (ad 6), .ref (ad 7), .ref (ad 8), .ref (ad 9), .ref (ad 10), .ref (ad 11), .ref (ad 12), .ref (ad 13), .ref (ad 14), .ref (ad 15), .int v136, .int v138, .ref (ad 16), .int v140, .int v142, .int v144, .int v146, .int v147, .ref (ad 17), .ref (ad 18), .int v148, .ref (ad 19)]) := ((o207 0 (by decide)).trans c151)
        refine xcVv E hs hQ hml hl.1 0 (gX12_acts_0 l g ad hD S207 hI 0 a1 a2 0 (ib_wk (by decide : Bd 0 (0) (0)) (by decide) (by decide)) (ib_wk b185 (by decide) (by decide)) (ib_wk b199 (by decide) (by decide)) (ib_wk (by decide : Bd 0 (0) (0)) (by decide) (by decide)) (by omega) (at_tr hAT0 ((o207 7 (by decide)).trans (up_eq (j := 7) eS150 (by decide))) ((o207 12 (by decide)).trans (up_eq (j := 12) eS150 (by decide)))) (at_tr hAT1 ((o207 7 (by decide)).trans (up_eq (j := 7) eS150 (by decide))) ((o207 12 (by decide)).trans (up_eq (j := 12) eS150 (by decide)))) (at_tr hAT2 ((o207 7 (by decide)).trans (up_eq (j := 7) eS150 (by decide))) ((o207 12 (by decide)).trans (up_eq (j := 12) eS150 (by decide)))) (at_tr hAT3 ((o207 7 (by decide)).trans (up_eq (j := 7) eS150 (by decide))) ((o207 12 (by decide)).trans (up_eq (j := 12) eS150 (by decide)))) (fun _ => ⟨by omega, by omega⟩)) mX12_acts q2108 (by decide) c212 rfl rfl ⟨(Nat.le_of_ble_eq_true rfl), (Nat.le_of_ble_eq_true rfl)⟩ ⟨(Nat.le_of_ble_eq_true rfl), (Nat.le_of_ble_eq_true rfl)⟩ (Nat.le_of_ble_eq_true rfl) rfl dX12_sit_44 (fun S211 H locs hp211 hQ _ => ?_)
        obtain ⟨hI, o211, g211_0, g211_1, g211_2, g211_3, g211_4, g211_5, g211_6, g211_7, g211_8, g211_9, g211_10, g211_11, g211_12, g211_13, g211_14, g211_15, g211_16, g211_17, g211_18, g211_19, g211_20, g211_21, g211_22, g211_23, u211_0, u211_1, u211_2, u211_3⟩ := hp211
        obtain ⟨f213, c214, b215⟩ := invM_7 hI
        obtain ⟨v216, ee217⟩ : ∃ z : Int32, f213 9 = z := ⟨_, rfl⟩
        have b218 : Bd v216 (0) (40) := (by rw [← ee217]; exact b215.2.2.2.2.2.2.2 9 (by decide))
        have q219 : elm (S211 7) 9 = v216.toInt := (elm_of c214 9).trans (congrArg Int32.toInt (ee217))
        have b220 : Bd v216 (1) (40) := ⟨by omega, (b218).2⟩
        have q221 : elm (S207 7) 0 = v7.toInt := (elm_of c208 0).trans (congrArg Int32.toInt (ee8))
        obtain ⟨v222, ee223⟩ : ∃ z : Int32, f213 0 = z := ⟨_, rfl⟩
        have b224 : Bd v222 (0) (12) := (by rw [← ee223]; exact b215.1 0 (by decide))
        have q225 : elm (S211 7) 0 = v222.toInt := (elm_of c214 0).trans (congrArg Int32.toInt (ee223))
        have b226 : Bd v222 (1) (12) := ⟨by omega, (b224).2⟩
        have q227 : elm (S207 7) 1 = v4.toInt := (elm_of c208 1).trans (congrArg Int32.toInt (ee5))
        obtain ⟨v228, ee229⟩ : ∃ z : Int32, f213 1 = z := ⟨_, rfl⟩
        have b230 : Bd v228 (0) (12) := (by rw [← ee229]; exact b215.2.1 1 (by decide))
        have q231 : elm (S211 7) 1 = v228.toInt := (elm_of c214 1).trans (congrArg Int32.toInt (ee229))
        have b232 : Bd v228 (1) (12) := ⟨by omega, (b230).2⟩
        have b233 : Bd v4 (1) (12) := ⟨by omega, (b6).2⟩
        have q234 : elm (S207 7) 3 = v10.toInt := (elm_of c208 3).trans (congrArg Int32.toInt (ee11))
        obtain ⟨v235, ee236⟩ : ∃ z : Int32, f213 3 = z := ⟨_, rfl⟩
        have b237 : Bd v235 (0) (12) := (by rw [← ee236]; exact b215.2.2.2.1 3 (by decide))
        have q238 : elm (S211 7) 3 = v235.toInt := (elm_of c214 3).trans (congrArg Int32.toInt (ee236))
        have b239 : Bd v10 (1) (12) := ⟨by omega, (b12).2⟩
        have b240 : Bd v235 (1) (12) := ⟨by omega, (b237).2⟩
        have q241 : elm (S207 7) 6 = v13.toInt := (elm_of c208 6).trans (congrArg Int32.toInt (ee14))
        obtain ⟨v242, ee243⟩ : ∃ z : Int32, f213 6 = z := ⟨_, rfl⟩
        have b244 : Bd v242 (0) (8) := (by rw [← ee243]; exact b215.2.2.2.2.1 6 (by decide))
        have q245 : elm (S211 7) 6 = v242.toInt := (elm_of c214 6).trans (congrArg Int32.toInt (ee243))
        have q246 : elm (S207 7) 8 = v16.toInt := (elm_of c208 8).trans (congrArg Int32.toInt (ee17))
        obtain ⟨v247, ee248⟩ : ∃ z : Int32, f213 8 = z := ⟨_, rfl⟩
        have b249 : Bd v247 (0) (3) := (by rw [← ee248]; exact b215.2.2.2.2.2.2.1 8 (by decide))
        have q250 : elm (S211 7) 8 = v247.toInt := (elm_of c214 8).trans (congrArg Int32.toInt (ee248))
        have b251 : Bd v247 (1) (3) := ⟨by omega, (b249).2⟩
        have q252 : elm (S207 7) 10 = v28.toInt := (elm_of c208 10).trans (congrArg Int32.toInt (ee29))
        obtain ⟨v253, ee254⟩ : ∃ z : Int32, f213 10 = z := ⟨_, rfl⟩
        have b255 : Bd v253 (0) (12) := (by rw [← ee254]; exact b215.1 10 (by decide))
        have q256 : elm (S211 7) 10 = v253.toInt := (elm_of c214 10).trans (congrArg Int32.toInt (ee254))
        have q257 : elm (S207 7) 11 = v25.toInt := (elm_of c208 11).trans (congrArg Int32.toInt (ee26))
        obtain ⟨v258, ee259⟩ : ∃ z : Int32, f213 11 = z := ⟨_, rfl⟩
        have b260 : Bd v258 (0) (12) := (by rw [← ee259]; exact b215.2.1 11 (by decide))
        have q261 : elm (S211 7) 11 = v258.toInt := (elm_of c214 11).trans (congrArg Int32.toInt (ee259))
        have q262 : elm (S207 7) 13 = v31.toInt := (elm_of c208 13).trans (congrArg Int32.toInt (ee32))
        obtain ⟨v263, ee264⟩ : ∃ z : Int32, f213 13 = z := ⟨_, rfl⟩
        have b265 : Bd v263 (0) (12) := (by rw [← ee264]; exact b215.2.2.2.1 13 (by decide))
        have q266 : elm (S211 7) 13 = v263.toInt := (elm_of c214 13).trans (congrArg Int32.toInt (ee264))
        have q267 : elm (S207 7) 16 = v34.toInt := (elm_of c208 16).trans (congrArg Int32.toInt (ee35))
        obtain ⟨v268, ee269⟩ : ∃ z : Int32, f213 16 = z := ⟨_, rfl⟩
        have b270 : Bd v268 (0) (8) := (by rw [← ee269]; exact b215.2.2.2.2.1 16 (by decide))
        have q271 : elm (S211 7) 16 = v268.toInt := (elm_of c214 16).trans (congrArg Int32.toInt (ee269))
        have q272 : elm (S207 7) 18 = v37.toInt := (elm_of c208 18).trans (congrArg Int32.toInt (ee38))
        obtain ⟨v273, ee274⟩ : ∃ z : Int32, f213 18 = z := ⟨_, rfl⟩
        have b275 : Bd v273 (0) (3) := (by rw [← ee274]; exact b215.2.2.2.2.2.2.1 18 (by decide))
        have q276 : elm (S211 7) 18 = v273.toInt := (elm_of c214 18).trans (congrArg Int32.toInt (ee274))
        have q277 : elm (S207 7) 19 = v112.toInt := (elm_of c208 19).trans (congrArg Int32.toInt (ee113))
        obtain ⟨v278, ee279⟩ : ∃ z : Int32, f213 19 = z := ⟨_, rfl⟩
        have b280 : Bd v278 (0) (40) := (by rw [← ee279]; exact b215.2.2.2.2.2.2.2 19 (by decide))
        have q281 : elm (S211 7) 19 = v278.toInt := (elm_of c214 19).trans (congrArg Int32.toInt (ee279))
        have q282 : elm (S207 7) 20 = v46.toInt := (elm_of c208 20).trans (congrArg Int32.toInt (ee47))
        obtain ⟨v283, ee284⟩ : ∃ z : Int32, f213 20 = z := ⟨_, rfl⟩
        have b285 : Bd v283 (0) (12) := (by rw [← ee284]; exact b215.1 20 (by decide))
        have q286 : elm (S211 7) 20 = v283.toInt := (elm_of c214 20).trans (congrArg Int32.toInt (ee284))
        have q287 : elm (S207 7) 21 = v43.toInt := (elm_of c208 21).trans (congrArg Int32.toInt (ee44))
        obtain ⟨v288, ee289⟩ : ∃ z : Int32, f213 21 = z := ⟨_, rfl⟩
        have b290 : Bd v288 (0) (12) := (by rw [← ee289]; exact b215.2.1 21 (by decide))
        have q291 : elm (S211 7) 21 = v288.toInt := (elm_of c214 21).trans (congrArg Int32.toInt (ee289))
        have q292 : elm (S207 7) 23 = v49.toInt := (elm_of c208 23).trans (congrArg Int32.toInt (ee50))
        obtain ⟨v293, ee294⟩ : ∃ z : Int32, f213 23 = z := ⟨_, rfl⟩
        have b295 : Bd v293 (0) (12) := (by rw [← ee294]; exact b215.2.2.2.1 23 (by decide))
        have q296 : elm (S211 7) 23 = v293.toInt := (elm_of c214 23).trans (congrArg Int32.toInt (ee294))
        have q297 : elm (S207 7) 26 = v52.toInt := (elm_of c208 26).trans (congrArg Int32.toInt (ee53))
        obtain ⟨v298, ee299⟩ : ∃ z : Int32, f213 26 = z := ⟨_, rfl⟩
        have b300 : Bd v298 (0) (8) := (by rw [← ee299]; exact b215.2.2.2.2.1 26 (by decide))
        have q301 : elm (S211 7) 26 = v298.toInt := (elm_of c214 26).trans (congrArg Int32.toInt (ee299))
        have q302 : elm (S207 7) 28 = v55.toInt := (elm_of c208 28).trans (congrArg Int32.toInt (ee56))
        obtain ⟨v303, ee304⟩ : ∃ z : Int32, f213 28 = z := ⟨_, rfl⟩
        have b305 : Bd v303 (0) (3) := (by rw [← ee304]; exact b215.2.2.2.2.2.2.1 28 (by decide))
        have q306 : elm (S211 7) 28 = v303.toInt := (elm_of c214 28).trans (congrArg Int32.toInt (ee304))
        have q307 : elm (S207 7) 29 = v115.toInt := (elm_of c208 29).trans (congrArg Int32.toInt (ee116))
        obtain ⟨v308, ee309⟩ : ∃ z : Int32, f213 29 = z := ⟨_, rfl⟩
        have b310 : Bd v308 (0) (40) := (by rw [← ee309]; exact b215.2.2.2.2.2.2.2 29 (by decide))
        have q311 : elm (S211 7) 29 = v308.toInt := (elm_of c214 29).trans (congrArg Int32.toInt (ee309))
        have q312 : elm (S207 7) 30 = v64.toInt := (elm_of c208 30).trans (congrArg Int32.toInt (ee65))
        obtain ⟨v313, ee314⟩ : ∃ z : Int32, f213 30 = z := ⟨_, rfl⟩
        have b315 : Bd v313 (0) (12) := (by rw [← ee314]; exact b215.1 30 (by decide))
        have q316 : elm (S211 7) 30 = v313.toInt := (elm_of c214 30).trans (congrArg Int32.toInt (ee314))
        have q317 : elm (S207 7) 31 = v61.toInt := (elm_of c208 31).trans (congrArg Int32.toInt (ee62))
        obtain ⟨v318, ee319⟩ : ∃ z : Int32, f213 31 = z := ⟨_, rfl⟩
        have b320 : Bd v318 (0) (12) := (by rw [← ee319]; exact b215.2.1 31 (by decide))
        have q321 : elm (S211 7) 31 = v318.toInt := (elm_of c214 31).trans (congrArg Int32.toInt (ee319))
        have q322 : elm (S207 7) 33 = v67.toInt := (elm_of c208 33).trans (congrArg Int32.toInt (ee68))
        obtain ⟨v323, ee324⟩ : ∃ z : Int32, f213 33 = z := ⟨_, rfl⟩
        have b325 : Bd v323 (0) (12) := (by rw [← ee324]; exact b215.2.2.2.1 33 (by decide))
        have q326 : elm (S211 7) 33 = v323.toInt := (elm_of c214 33).trans (congrArg Int32.toInt (ee324))
        have q327 : elm (S207 7) 36 = v70.toInt := (elm_of c208 36).trans (congrArg Int32.toInt (ee71))
        obtain ⟨v328, ee329⟩ : ∃ z : Int32, f213 36 = z := ⟨_, rfl⟩
        have b330 : Bd v328 (0) (8) := (by rw [← ee329]; exact b215.2.2.2.2.1 36 (by decide))
        have q331 : elm (S211 7) 36 = v328.toInt := (elm_of c214 36).trans (congrArg Int32.toInt (ee329))
        have q332 : elm (S207 7) 38 = v73.toInt := (elm_of c208 38).trans (congrArg Int32.toInt (ee74))
        obtain ⟨v333, ee334⟩ : ∃ z : Int32, f213 38 = z := ⟨_, rfl⟩
        have b335 : Bd v333 (0) (3) := (by rw [← ee334]; exact b215.2.2.2.2.2.2.1 38 (by decide))
        have q336 : elm (S211 7) 38 = v333.toInt := (elm_of c214 38).trans (congrArg Int32.toInt (ee334))
        have q337 : elm (S207 7) 39 = v118.toInt := (elm_of c208 39).trans (congrArg Int32.toInt (ee119))
        obtain ⟨v338, ee339⟩ : ∃ z : Int32, f213 39 = z := ⟨_, rfl⟩
        have b340 : Bd v338 (0) (40) := (by rw [← ee339]; exact b215.2.2.2.2.2.2.2 39 (by decide))
        have q341 : elm (S211 7) 39 = v338.toInt := (elm_of c214 39).trans (congrArg Int32.toInt (ee339))
        refine lv_aload_n hx hb dX12_sit_47 rfl (lv_at hl 0 rfl) ?_
        have c342 : S211 0 = .inr (12, [.int 0, .ref (ad 1), .ref (ad 2), .ref (ad 3), .ref (ad 4), .ref (ad 5), .int v122, .int v124, .int v126, .int v128, .int v129, .long w130, .int v131, .int v133, .int v134, .int v135, .ref (ad 6), .ref (ad 7), .ref (ad 8), .ref (ad 9), .ref (ad 10), .ref (ad 11), .ref (ad 12), .ref (ad 13), .ref (ad 14), .ref (ad 15), .int v136, .int v138, .ref (ad 16), .int v140, .int v142, .int v144, .int v146, .int v147, .ref (ad 17), .ref (ad 18), .int v148, .ref (ad 19)]) := ((o211 0 (by decide)).trans c212)
        refine xget E hQ 0 (by decide) c342 rfl 24 (by decide) q1492 rfl dX12_sit_48 ?_
        refine lv_iload_n hx hb dX12_sit_51 rfl (lv_at hl 1 rfl) ?_
        obtain ⟨f343, c344, b345⟩ := invM_14 hI
        refine xiald E hQ 14 (by decide) c344 (ib_in b185 (by decide) (by decide)) dX12_sit_52 ?_
        refine lv_topi (fun z346 e347 => ?_)
        have b348 : Bd z346 (0) (11) := (by rw [e347]; exact b345 _)
        have c349 : S211 6 = .inl (g.2 0, 5, .inl f19) := ((o211 6 (by decide)).trans ((o207 6 (by decide)).trans (up_ne eS150 (by decide) c20)))
        have q350 : elm (S211 6) 0 = v22.toInt := (elm_of c349 0).trans (congrArg Int32.toInt (ee23))
        have q351 : elm (S211 6) 1 = v40.toInt := (elm_of c349 1).trans (congrArg Int32.toInt (ee41))
        have q352 : elm (S211 6) 2 = v58.toInt := (elm_of c349 2).trans (congrArg Int32.toInt (ee59))
        have q353 : elm (S211 6) 3 = v76.toInt := (elm_of c349 3).trans (congrArg Int32.toInt (ee77))
        exact xri E hr hlk hQ (⟨hI, (o_trans (o_trans (up_o o_refl eS150 (by decide)) o207 (by decide)) o211 (by decide)), (ib_wk b348 (by decide) (by decide)), (by omega), (by omega), (by omega), (by omega), (by omega), (by omega), (by omega), (by omega), (by omega), (by omega), (by omega), (by omega), (by omega), (by omega), (by omega), (by omega), (by omega), (by omega), (by omega), (by omega), ⟨by omega, by omega⟩, ⟨by omega, by omega⟩, ⟨by omega, by omega⟩, ⟨by omega, by omega⟩, ⟨by omega, by omega⟩, ⟨by omega, by omega⟩, ⟨by omega, by omega⟩, ⟨by omega, by omega⟩, u211_0, u211_1, u211_2, u211_3⟩) dX12_sit_53
      · have h354 := ib_ne k202
        have b355 : Bd r200 (1) (1) := rf_nlo b200 (by decide : Bd 0 (0) (0)) h354
        clear g200_0
        refine lv_bipush (v := (-5)) hx hb dX12_sit_32 (by decide) ?_
        have q356 : elm (S150 7) 1 = v4.toInt := (elm_of c152 1).trans (congrArg Int32.toInt (ee5))
        have q357 : elm (S150 7) 3 = v10.toInt := (elm_of c152 3).trans (congrArg Int32.toInt (ee11))
        have q358 : elm (S150 7) 6 = v13.toInt := (elm_of c152 6).trans (congrArg Int32.toInt (ee14))
        have c359 : S150 6 = .inl (g.2 0, 5, .inl f19) := (up_ne eS150 (by decide) c20)
        have q360 : elm (S150 6) 0 = v22.toInt := (elm_of c359 0).trans (congrArg Int32.toInt (ee23))
        have q361 : elm (S150 7) 11 = v25.toInt := (elm_of c152 11).trans (congrArg Int32.toInt (ee26))
        have q362 : elm (S150 7) 10 = v28.toInt := (elm_of c152 10).trans (congrArg Int32.toInt (ee29))
        have q363 : elm (S150 7) 13 = v31.toInt := (elm_of c152 13).trans (congrArg Int32.toInt (ee32))
        have q364 : elm (S150 7) 16 = v34.toInt := (elm_of c152 16).trans (congrArg Int32.toInt (ee35))
        have q365 : elm (S150 7) 18 = v37.toInt := (elm_of c152 18).trans (congrArg Int32.toInt (ee38))
        have q366 : elm (S150 6) 1 = v40.toInt := (elm_of c359 1).trans (congrArg Int32.toInt (ee41))
        have q367 : elm (S150 7) 21 = v43.toInt := (elm_of c152 21).trans (congrArg Int32.toInt (ee44))
        have q368 : elm (S150 7) 20 = v46.toInt := (elm_of c152 20).trans (congrArg Int32.toInt (ee47))
        have q369 : elm (S150 7) 23 = v49.toInt := (elm_of c152 23).trans (congrArg Int32.toInt (ee50))
        have q370 : elm (S150 7) 26 = v52.toInt := (elm_of c152 26).trans (congrArg Int32.toInt (ee53))
        have q371 : elm (S150 7) 28 = v55.toInt := (elm_of c152 28).trans (congrArg Int32.toInt (ee56))
        have q372 : elm (S150 6) 2 = v58.toInt := (elm_of c359 2).trans (congrArg Int32.toInt (ee59))
        have q373 : elm (S150 7) 31 = v61.toInt := (elm_of c152 31).trans (congrArg Int32.toInt (ee62))
        have q374 : elm (S150 7) 30 = v64.toInt := (elm_of c152 30).trans (congrArg Int32.toInt (ee65))
        have q375 : elm (S150 7) 33 = v67.toInt := (elm_of c152 33).trans (congrArg Int32.toInt (ee68))
        have q376 : elm (S150 7) 36 = v70.toInt := (elm_of c152 36).trans (congrArg Int32.toInt (ee71))
        have q377 : elm (S150 7) 38 = v73.toInt := (elm_of c152 38).trans (congrArg Int32.toInt (ee74))
        have q378 : elm (S150 6) 3 = v76.toInt := (elm_of c359 3).trans (congrArg Int32.toInt (ee77))
        exact xri E hr hlk hQ (⟨hI, (up_o o_refl eS150 (by decide)), (ib_wk (by decide : Bd (-5) (-5) (-5)) (by decide) (by decide)), (by omega), (by omega), (by omega), (by omega), (by omega), (by omega), (by omega), (by omega), (by omega), (by omega), (by omega), (by omega), (by omega), (by omega), (by omega), (by omega), (by omega), (by omega), (by omega), (by omega), ⟨by omega, by omega⟩, ⟨by omega, by omega⟩, ⟨by omega, by omega⟩, ⟨by omega, by omega⟩, ⟨by omega, by omega⟩, ⟨by omega, by omega⟩, ⟨by omega, by omega⟩, ⟨by omega, by omega⟩, (at_tr hAT0 (up_eq (j := 7) eS150 (by decide)) (up_eq (j := 12) eS150 (by decide))), (at_tr hAT1 (up_eq (j := 7) eS150 (by decide)) (up_eq (j := 12) eS150 (by decide))), (at_tr hAT2 (up_eq (j := 7) eS150 (by decide)) (up_eq (j := 12) eS150 (by decide))), (at_tr hAT3 (up_eq (j := 7) eS150 (by decide)) (up_eq (j := 12) eS150 (by decide)))⟩) dX12_sit_34
    · have h379 := ib_eq k193
      have b380 : Bd r191 (0) (0) := ⟨(b191).1, ((rf_eq b191 (by decide : Bd 0 (0) (0)) h379).1).2⟩
      clear g191_0
      refine lv_bipush (v := (-2)) hx hb dX12_sit_22 (by decide) ?_
      have q381 : elm (S150 7) 1 = v4.toInt := (elm_of c152 1).trans (congrArg Int32.toInt (ee5))
      have q382 : elm (S150 7) 3 = v10.toInt := (elm_of c152 3).trans (congrArg Int32.toInt (ee11))
      have q383 : elm (S150 7) 6 = v13.toInt := (elm_of c152 6).trans (congrArg Int32.toInt (ee14))
      have c384 : S150 6 = .inl (g.2 0, 5, .inl f19) := (up_ne eS150 (by decide) c20)
      have q385 : elm (S150 6) 0 = v22.toInt := (elm_of c384 0).trans (congrArg Int32.toInt (ee23))
      have q386 : elm (S150 7) 11 = v25.toInt := (elm_of c152 11).trans (congrArg Int32.toInt (ee26))
      have q387 : elm (S150 7) 10 = v28.toInt := (elm_of c152 10).trans (congrArg Int32.toInt (ee29))
      have q388 : elm (S150 7) 13 = v31.toInt := (elm_of c152 13).trans (congrArg Int32.toInt (ee32))
      have q389 : elm (S150 7) 16 = v34.toInt := (elm_of c152 16).trans (congrArg Int32.toInt (ee35))
      have q390 : elm (S150 7) 18 = v37.toInt := (elm_of c152 18).trans (congrArg Int32.toInt (ee38))
      have q391 : elm (S150 6) 1 = v40.toInt := (elm_of c384 1).trans (congrArg Int32.toInt (ee41))
      have q392 : elm (S150 7) 21 = v43.toInt := (elm_of c152 21).trans (congrArg Int32.toInt (ee44))
      have q393 : elm (S150 7) 20 = v46.toInt := (elm_of c152 20).trans (congrArg Int32.toInt (ee47))
      have q394 : elm (S150 7) 23 = v49.toInt := (elm_of c152 23).trans (congrArg Int32.toInt (ee50))
      have q395 : elm (S150 7) 26 = v52.toInt := (elm_of c152 26).trans (congrArg Int32.toInt (ee53))
      have q396 : elm (S150 7) 28 = v55.toInt := (elm_of c152 28).trans (congrArg Int32.toInt (ee56))
      have q397 : elm (S150 6) 2 = v58.toInt := (elm_of c384 2).trans (congrArg Int32.toInt (ee59))
      have q398 : elm (S150 7) 31 = v61.toInt := (elm_of c152 31).trans (congrArg Int32.toInt (ee62))
      have q399 : elm (S150 7) 30 = v64.toInt := (elm_of c152 30).trans (congrArg Int32.toInt (ee65))
      have q400 : elm (S150 7) 33 = v67.toInt := (elm_of c152 33).trans (congrArg Int32.toInt (ee68))
      have q401 : elm (S150 7) 36 = v70.toInt := (elm_of c152 36).trans (congrArg Int32.toInt (ee71))
      have q402 : elm (S150 7) 38 = v73.toInt := (elm_of c152 38).trans (congrArg Int32.toInt (ee74))
      have q403 : elm (S150 6) 3 = v76.toInt := (elm_of c384 3).trans (congrArg Int32.toInt (ee77))
      exact xri E hr hlk hQ (⟨hI, (up_o o_refl eS150 (by decide)), (ib_wk (by decide : Bd (-2) (-2) (-2)) (by decide) (by decide)), (by omega), (by omega), (by omega), (by omega), (by omega), (by omega), (by omega), (by omega), (by omega), (by omega), (by omega), (by omega), (by omega), (by omega), (by omega), (by omega), (by omega), (by omega), (by omega), (by omega), ⟨by omega, by omega⟩, ⟨by omega, by omega⟩, ⟨by omega, by omega⟩, ⟨by omega, by omega⟩, ⟨by omega, by omega⟩, ⟨by omega, by omega⟩, ⟨by omega, by omega⟩, ⟨by omega, by omega⟩, (at_tr hAT0 (up_eq (j := 7) eS150 (by decide)) (up_eq (j := 12) eS150 (by decide))), (at_tr hAT1 (up_eq (j := 7) eS150 (by decide)) (up_eq (j := 12) eS150 (by decide))), (at_tr hAT2 (up_eq (j := 7) eS150 (by decide)) (up_eq (j := 12) eS150 (by decide))), (at_tr hAT3 (up_eq (j := 7) eS150 (by decide)) (up_eq (j := 12) eS150 (by decide)))⟩) dX12_sit_24
set_option maxHeartbeats 4000000 in
set_option maxRecDepth 100000 in
theorem gX12_shove_0 (l : Launch) (g : GG) (ad : Nat → Nat) (hD : Dj ad 20) (S : SS) (hI : InvM g ad S) (a1 : Int32) (a2 : Int32) (a3 : Int32) (hq1 : 0 ≤ 12 * elm (S 7) 1 + (-1) * elm (S 7) 0) (hq2 : 0 ≤ 12 * elm (S 7) 3 + (-1) * elm (S 7) 0) (hq3 : 0 ≤ 8 * elm (S 7) 0 + (-1) * elm (S 7) 6) (hq4 : 0 ≤ 3 * elm (S 7) 0 + (-1) * elm (S 7) 8) (hq5 : 0 ≤ 40000 * elm (S 7) 0 + (-1) * elm (S 6) 0) (hq6 : 0 ≤ 12 * elm (S 7) 11 + (-1) * elm (S 7) 10) (hq7 : 0 ≤ 12 * elm (S 7) 13 + (-1) * elm (S 7) 10) (hq8 : 0 ≤ 8 * elm (S 7) 10 + (-1) * elm (S 7) 16) (hq9 : 0 ≤ 3 * elm (S 7) 10 + (-1) * elm (S 7) 18) (hq10 : 0 ≤ 40000 * elm (S 7) 10 + (-1) * elm (S 6) 1) (hq11 : 0 ≤ 12 * elm (S 7) 21 + (-1) * elm (S 7) 20) (hq12 : 0 ≤ 12 * elm (S 7) 23 + (-1) * elm (S 7) 20) (hq13 : 0 ≤ 8 * elm (S 7) 20 + (-1) * elm (S 7) 26) (hq14 : 0 ≤ 3 * elm (S 7) 20 + (-1) * elm (S 7) 28) (hq15 : 0 ≤ 40000 * elm (S 7) 20 + (-1) * elm (S 6) 2) (hq16 : 0 ≤ 12 * elm (S 7) 31 + (-1) * elm (S 7) 30) (hq17 : 0 ≤ 12 * elm (S 7) 33 + (-1) * elm (S 7) 30) (hq18 : 0 ≤ 8 * elm (S 7) 30 + (-1) * elm (S 7) 36) (hq19 : 0 ≤ 3 * elm (S 7) 30 + (-1) * elm (S 7) 38) (hq20 : 0 ≤ 40000 * elm (S 7) 30 + (-1) * elm (S 6) 3) (hAT0 : ATp (S 7) (S 12) 0) (hAT1 : ATp (S 7) (S 12) 1) (hAT2 : ATp (S 7) (S 12) 2) (hAT3 : ATp (S 7) (S 12) 3) : Met l yX12_shove (wG (.code yX12_shove cX12_shove 6 (some .int))) (Rm 2) (XPre g ad 20 S [.ref (ad 0), .int a1, .int a2, .int a3]) (va_Qi (fun _ S' => InvM g ad S' ∧ (∀ j, j ∉ ([0, 7, 12, 14, 15] : List Nat) → S' j = S j) ∧ (0 ≤ 12 * elm (S' 7) 1 + (-1) * elm (S' 7) 0) ∧ (0 ≤ 12 * elm (S' 7) 3 + (-1) * elm (S' 7) 0) ∧ (0 ≤ 8 * elm (S' 7) 0 + (-1) * elm (S' 7) 6) ∧ (0 ≤ 3 * elm (S' 7) 0 + (-1) * elm (S' 7) 8) ∧ (0 ≤ 40000 * elm (S' 7) 0 + (-1) * elm (S' 6) 0) ∧ (0 ≤ 12 * elm (S' 7) 11 + (-1) * elm (S' 7) 10) ∧ (0 ≤ 12 * elm (S' 7) 13 + (-1) * elm (S' 7) 10) ∧ (0 ≤ 8 * elm (S' 7) 10 + (-1) * elm (S' 7) 16) ∧ (0 ≤ 3 * elm (S' 7) 10 + (-1) * elm (S' 7) 18) ∧ (0 ≤ 40000 * elm (S' 7) 10 + (-1) * elm (S' 6) 1) ∧ (0 ≤ 12 * elm (S' 7) 21 + (-1) * elm (S' 7) 20) ∧ (0 ≤ 12 * elm (S' 7) 23 + (-1) * elm (S' 7) 20) ∧ (0 ≤ 8 * elm (S' 7) 20 + (-1) * elm (S' 7) 26) ∧ (0 ≤ 3 * elm (S' 7) 20 + (-1) * elm (S' 7) 28) ∧ (0 ≤ 40000 * elm (S' 7) 20 + (-1) * elm (S' 6) 2) ∧ (0 ≤ 12 * elm (S' 7) 31 + (-1) * elm (S' 7) 30) ∧ (0 ≤ 12 * elm (S' 7) 33 + (-1) * elm (S' 7) 30) ∧ (0 ≤ 8 * elm (S' 7) 30 + (-1) * elm (S' 7) 36) ∧ (0 ≤ 3 * elm (S' 7) 30 + (-1) * elm (S' 7) 38) ∧ (0 ≤ 40000 * elm (S' 7) 30 + (-1) * elm (S' 6) 3) ∧ (0 ≤ elm (S 7) 0 + (-1) * elm (S' 7) 0 ∧ 0 ≤ elm (S' 7) 0 + (-1) * elm (S 7) 0) ∧ (0 ≤ elm (S 7) 6 + (-1) * elm (S' 7) 6 ∧ 0 ≤ elm (S' 7) 6 + (-1) * elm (S 7) 6) ∧ (0 ≤ elm (S 7) 10 + (-1) * elm (S' 7) 10 ∧ 0 ≤ elm (S' 7) 10 + (-1) * elm (S 7) 10) ∧ (0 ≤ elm (S 7) 16 + (-1) * elm (S' 7) 16 ∧ 0 ≤ elm (S' 7) 16 + (-1) * elm (S 7) 16) ∧ (0 ≤ elm (S 7) 20 + (-1) * elm (S' 7) 20 ∧ 0 ≤ elm (S' 7) 20 + (-1) * elm (S 7) 20) ∧ (0 ≤ elm (S 7) 26 + (-1) * elm (S' 7) 26 ∧ 0 ≤ elm (S' 7) 26 + (-1) * elm (S 7) 26) ∧ (0 ≤ elm (S 7) 30 + (-1) * elm (S' 7) 30 ∧ 0 ≤ elm (S' 7) 30 + (-1) * elm (S 7) 30) ∧ (0 ≤ elm (S 7) 36 + (-1) * elm (S' 7) 36 ∧ 0 ≤ elm (S' 7) 36 + (-1) * elm (S 7) 36) ∧ (ATp (S' 7) (S' 12) 0) ∧ (ATp (S' 7) (S' 12) 1) ∧ (ATp (S' 7) (S' 12) 2) ∧ (ATp (S' 7) (S' 12) 3)) (QB g ad 20) (FA ad 20)) 0 0 (FA ad 20) := by
  refine xmet cX12_shove "EbbWreckModel" (by decide) rfl (Nat.le_of_ble_eq_true rfl) (fun p e s m below meth c E hr hlk hml hQ ls hl => ?_)
  have hx := E.1
  have hb := E.2.1
  have hs : Sp ad 20 (FA ad 20) := Sp.fa hD
  have hl : lv_has ls 6 [(0, .ref (ad 0)), (1, .int a1), (2, .int a2), (3, .int a3)] := hl
  obtain ⟨f1, c2, b3⟩ := invM_7 hI
  obtain ⟨v4, ee5⟩ : ∃ z : Int32, f1 1 = z := ⟨_, rfl⟩
  have b6 : Bd v4 (0) (12) := (by rw [← ee5]; exact b3.2.1 1 (by decide))
  obtain ⟨v7, ee8⟩ : ∃ z : Int32, f1 0 = z := ⟨_, rfl⟩
  have b9 : Bd v7 (0) (12) := (by rw [← ee8]; exact b3.1 0 (by decide))
  obtain ⟨v10, ee11⟩ : ∃ z : Int32, f1 3 = z := ⟨_, rfl⟩
  have b12 : Bd v10 (0) (12) := (by rw [← ee11]; exact b3.2.2.2.1 3 (by decide))
  obtain ⟨v13, ee14⟩ : ∃ z : Int32, f1 6 = z := ⟨_, rfl⟩
  have b15 : Bd v13 (0) (8) := (by rw [← ee14]; exact b3.2.2.2.2.1 6 (by decide))
  obtain ⟨v16, ee17⟩ : ∃ z : Int32, f1 8 = z := ⟨_, rfl⟩
  have b18 : Bd v16 (0) (3) := (by rw [← ee17]; exact b3.2.2.2.2.2.2.1 8 (by decide))
  obtain ⟨f19, c20, b21⟩ := invM_6 hI
  obtain ⟨v22, ee23⟩ : ∃ z : Int32, f19 0 = z := ⟨_, rfl⟩
  have b24 : Bd v22 (0) (40000) := (by rw [← ee23]; exact b21 0)
  obtain ⟨v25, ee26⟩ : ∃ z : Int32, f1 11 = z := ⟨_, rfl⟩
  have b27 : Bd v25 (0) (12) := (by rw [← ee26]; exact b3.2.1 11 (by decide))
  obtain ⟨v28, ee29⟩ : ∃ z : Int32, f1 10 = z := ⟨_, rfl⟩
  have b30 : Bd v28 (0) (12) := (by rw [← ee29]; exact b3.1 10 (by decide))
  obtain ⟨v31, ee32⟩ : ∃ z : Int32, f1 13 = z := ⟨_, rfl⟩
  have b33 : Bd v31 (0) (12) := (by rw [← ee32]; exact b3.2.2.2.1 13 (by decide))
  obtain ⟨v34, ee35⟩ : ∃ z : Int32, f1 16 = z := ⟨_, rfl⟩
  have b36 : Bd v34 (0) (8) := (by rw [← ee35]; exact b3.2.2.2.2.1 16 (by decide))
  obtain ⟨v37, ee38⟩ : ∃ z : Int32, f1 18 = z := ⟨_, rfl⟩
  have b39 : Bd v37 (0) (3) := (by rw [← ee38]; exact b3.2.2.2.2.2.2.1 18 (by decide))
  obtain ⟨v40, ee41⟩ : ∃ z : Int32, f19 1 = z := ⟨_, rfl⟩
  have b42 : Bd v40 (0) (40000) := (by rw [← ee41]; exact b21 1)
  obtain ⟨v43, ee44⟩ : ∃ z : Int32, f1 21 = z := ⟨_, rfl⟩
  have b45 : Bd v43 (0) (12) := (by rw [← ee44]; exact b3.2.1 21 (by decide))
  obtain ⟨v46, ee47⟩ : ∃ z : Int32, f1 20 = z := ⟨_, rfl⟩
  have b48 : Bd v46 (0) (12) := (by rw [← ee47]; exact b3.1 20 (by decide))
  obtain ⟨v49, ee50⟩ : ∃ z : Int32, f1 23 = z := ⟨_, rfl⟩
  have b51 : Bd v49 (0) (12) := (by rw [← ee50]; exact b3.2.2.2.1 23 (by decide))
  obtain ⟨v52, ee53⟩ : ∃ z : Int32, f1 26 = z := ⟨_, rfl⟩
  have b54 : Bd v52 (0) (8) := (by rw [← ee53]; exact b3.2.2.2.2.1 26 (by decide))
  obtain ⟨v55, ee56⟩ : ∃ z : Int32, f1 28 = z := ⟨_, rfl⟩
  have b57 : Bd v55 (0) (3) := (by rw [← ee56]; exact b3.2.2.2.2.2.2.1 28 (by decide))
  obtain ⟨v58, ee59⟩ : ∃ z : Int32, f19 2 = z := ⟨_, rfl⟩
  have b60 : Bd v58 (0) (40000) := (by rw [← ee59]; exact b21 2)
  obtain ⟨v61, ee62⟩ : ∃ z : Int32, f1 31 = z := ⟨_, rfl⟩
  have b63 : Bd v61 (0) (12) := (by rw [← ee62]; exact b3.2.1 31 (by decide))
  obtain ⟨v64, ee65⟩ : ∃ z : Int32, f1 30 = z := ⟨_, rfl⟩
  have b66 : Bd v64 (0) (12) := (by rw [← ee65]; exact b3.1 30 (by decide))
  obtain ⟨v67, ee68⟩ : ∃ z : Int32, f1 33 = z := ⟨_, rfl⟩
  have b69 : Bd v67 (0) (12) := (by rw [← ee68]; exact b3.2.2.2.1 33 (by decide))
  obtain ⟨v70, ee71⟩ : ∃ z : Int32, f1 36 = z := ⟨_, rfl⟩
  have b72 : Bd v70 (0) (8) := (by rw [← ee71]; exact b3.2.2.2.2.1 36 (by decide))
  obtain ⟨v73, ee74⟩ : ∃ z : Int32, f1 38 = z := ⟨_, rfl⟩
  have b75 : Bd v73 (0) (3) := (by rw [← ee74]; exact b3.2.2.2.2.2.2.1 38 (by decide))
  obtain ⟨v76, ee77⟩ : ∃ z : Int32, f19 3 = z := ⟨_, rfl⟩
  have b78 : Bd v76 (0) (40000) := (by rw [← ee77]; exact b21 3)
  have q79 : elm (S 7) 1 = v4.toInt := (elm_of c2 1).trans (congrArg Int32.toInt (ee5))
  have q80 : elm (S 7) 0 = v7.toInt := (elm_of c2 0).trans (congrArg Int32.toInt (ee8))
  have q81 : elm (S 7) 3 = v10.toInt := (elm_of c2 3).trans (congrArg Int32.toInt (ee11))
  have q82 : elm (S 7) 6 = v13.toInt := (elm_of c2 6).trans (congrArg Int32.toInt (ee14))
  have q83 : elm (S 7) 8 = v16.toInt := (elm_of c2 8).trans (congrArg Int32.toInt (ee17))
  have q84 : elm (S 6) 0 = v22.toInt := (elm_of c20 0).trans (congrArg Int32.toInt (ee23))
  have q85 : elm (S 7) 11 = v25.toInt := (elm_of c2 11).trans (congrArg Int32.toInt (ee26))
  have q86 : elm (S 7) 10 = v28.toInt := (elm_of c2 10).trans (congrArg Int32.toInt (ee29))
  have q87 : elm (S 7) 13 = v31.toInt := (elm_of c2 13).trans (congrArg Int32.toInt (ee32))
  have q88 : elm (S 7) 16 = v34.toInt := (elm_of c2 16).trans (congrArg Int32.toInt (ee35))
  have q89 : elm (S 7) 18 = v37.toInt := (elm_of c2 18).trans (congrArg Int32.toInt (ee38))
  have q90 : elm (S 6) 1 = v40.toInt := (elm_of c20 1).trans (congrArg Int32.toInt (ee41))
  have q91 : elm (S 7) 21 = v43.toInt := (elm_of c2 21).trans (congrArg Int32.toInt (ee44))
  have q92 : elm (S 7) 20 = v46.toInt := (elm_of c2 20).trans (congrArg Int32.toInt (ee47))
  have q93 : elm (S 7) 23 = v49.toInt := (elm_of c2 23).trans (congrArg Int32.toInt (ee50))
  have q94 : elm (S 7) 26 = v52.toInt := (elm_of c2 26).trans (congrArg Int32.toInt (ee53))
  have q95 : elm (S 7) 28 = v55.toInt := (elm_of c2 28).trans (congrArg Int32.toInt (ee56))
  have q96 : elm (S 6) 2 = v58.toInt := (elm_of c20 2).trans (congrArg Int32.toInt (ee59))
  have q97 : elm (S 7) 31 = v61.toInt := (elm_of c2 31).trans (congrArg Int32.toInt (ee62))
  have q98 : elm (S 7) 30 = v64.toInt := (elm_of c2 30).trans (congrArg Int32.toInt (ee65))
  have q99 : elm (S 7) 33 = v67.toInt := (elm_of c2 33).trans (congrArg Int32.toInt (ee68))
  have q100 : elm (S 7) 36 = v70.toInt := (elm_of c2 36).trans (congrArg Int32.toInt (ee71))
  have q101 : elm (S 7) 38 = v73.toInt := (elm_of c2 38).trans (congrArg Int32.toInt (ee74))
  have q102 : elm (S 6) 3 = v76.toInt := (elm_of c20 3).trans (congrArg Int32.toInt (ee77))
  obtain ⟨f103, c104, b105⟩ := invM_12 hI
  obtain ⟨f106, c107, b108⟩ := invM_9 hI
  obtain ⟨v109, ee110⟩ : ∃ z : Int32, f1 9 = z := ⟨_, rfl⟩
  have b111 : Bd v109 (0) (40) := (by rw [← ee110]; exact b3.2.2.2.2.2.2.2 9 (by decide))
  obtain ⟨v112, ee113⟩ : ∃ z : Int32, f1 19 = z := ⟨_, rfl⟩
  have b114 : Bd v112 (0) (40) := (by rw [← ee113]; exact b3.2.2.2.2.2.2.2 19 (by decide))
  obtain ⟨v115, ee116⟩ : ∃ z : Int32, f1 29 = z := ⟨_, rfl⟩
  have b117 : Bd v115 (0) (40) := (by rw [← ee116]; exact b3.2.2.2.2.2.2.2 29 (by decide))
  obtain ⟨v118, ee119⟩ : ∃ z : Int32, f1 39 = z := ⟨_, rfl⟩
  have b120 : Bd v118 (0) (40) := (by rw [← ee119]; exact b3.2.2.2.2.2.2.2 39 (by decide))
  refine lv_aload_n hx hb dX12_shove_0 rfl (lv_at hl 0 rfl) ?_
  refine lv_iconst (v := 0) hx hb dX12_shove_1 (by decide) ?_
  obtain ⟨v121, v122, v124, v126, v128, v129, w130, v131, v133, v134, v135, v136, v138, v140, v142, v144, v146, v147, v148, c149, b123, b125, b127, b132, b137, b139, b141, b143, b145⟩ := invM_0 hI
  have c149 : S 0 = .inr (12, [.int v121, .ref (ad 1), .ref (ad 2), .ref (ad 3), .ref (ad 4), .ref (ad 5), .int v122, .int v124, .int v126, .int v128, .int v129, .long w130, .int v131, .int v133, .int v134, .int v135, .ref (ad 6), .ref (ad 7), .ref (ad 8), .ref (ad 9), .ref (ad 10), .ref (ad 11), .ref (ad 12), .ref (ad 13), .ref (ad 14), .ref (ad 15), .int v136, .int v138, .ref (ad 16), .int v140, .int v142, .int v144, .int v146, .int v147, .ref (ad 17), .ref (ad 18), .int v148, .ref (ad 19)]) := c149
  refine xputi E hs hQ 0 (by decide) c149 rfl 0 (by decide) q1468 rfl rfl (Nat.le_of_ble_eq_true rfl) dX12_shove_2 (fun H locs S150 eS150 hQ => ?_)
  have hI := invM_up_0 hI eS150 ⟨0, v122, v124, v126, v128, v129, w130, v131, v133, v134, v135, v136, v138, v140, v142, v144, v146, v147, v148, rfl, b123, b125, b127, b132, b137, b139, b141, b143, b145⟩
  have c151 : S150 0 = .inr (12, [.int 0, .ref (ad 1), .ref (ad 2), .ref (ad 3), .ref (ad 4), .ref (ad 5), .int v122, .int v124, .int v126, .int v128, .int v129, .long w130, .int v131, .int v133, .int v134, .int v135, .ref (ad 6), .ref (ad 7), .ref (ad 8), .ref (ad 9), .ref (ad 10), .ref (ad 11), .ref (ad 12), .ref (ad 13), .ref (ad 14), .ref (ad 15), .int v136, .int v138, .ref (ad 16), .int v140, .int v142, .int v144, .int v146, .int v147, .ref (ad 17), .ref (ad 18), .int v148, .ref (ad 19)]) := up_at eS150 rfl
  refine lv_aload_n hx hb dX12_shove_5 rfl (lv_at hl 0 rfl) ?_
  refine lv_iload_n hx hb dX12_shove_6 rfl (lv_at hl 1 rfl) ?_
  have c152 : S150 7 = .inl (g.2 0, 50, .inl f1) := (up_ne eS150 (by decide) c2)
  refine xcVi E hs hQ hml hl.1 0 (gX12_isThing_0 l g ad hD S150 hI a1) mX12_isThing q1766 (by decide) c151 rfl rfl ⟨(Nat.le_of_ble_eq_true rfl), (Nat.le_of_ble_eq_true rfl)⟩ ⟨(Nat.le_of_ble_eq_true rfl), (Nat.le_of_ble_eq_true rfl)⟩ (Nat.le_of_ble_eq_true rfl) rfl dX12_shove_7 (fun r153 S153 H locs hp153 hQ _ => ?_)
  obtain ⟨rfl, b153, g153_0⟩ := hp153
  have q154 : elm (S150 7) 6 = v13.toInt := (elm_of c152 6).trans (congrArg Int32.toInt (ee14))
  refine lv_if_eq (tgt := 35) hx hb dX12_shove_10 (by decide) (fun k155 => ?_) (fun k155 => ?_)
  · have h156 := ib_eq k155
    have b157 : Bd r153 (0) (0) := ⟨(b153).1, ((rf_eq b153 (by decide : Bd 0 (0) (0)) h156).1).2⟩
    clear g153_0
    refine lv_bipush (v := (-2)) hx hb dX12_shove_35 (by decide) ?_
    have q158 : elm (S150 7) 1 = v4.toInt := (elm_of c152 1).trans (congrArg Int32.toInt (ee5))
    have q159 : elm (S150 7) 0 = v7.toInt := (elm_of c152 0).trans (congrArg Int32.toInt (ee8))
    have q160 : elm (S150 7) 3 = v10.toInt := (elm_of c152 3).trans (congrArg Int32.toInt (ee11))
    have q161 : elm (S150 7) 8 = v16.toInt := (elm_of c152 8).trans (congrArg Int32.toInt (ee17))
    have c162 : S150 6 = .inl (g.2 0, 5, .inl f19) := (up_ne eS150 (by decide) c20)
    have q163 : elm (S150 6) 0 = v22.toInt := (elm_of c162 0).trans (congrArg Int32.toInt (ee23))
    have q164 : elm (S150 7) 11 = v25.toInt := (elm_of c152 11).trans (congrArg Int32.toInt (ee26))
    have q165 : elm (S150 7) 10 = v28.toInt := (elm_of c152 10).trans (congrArg Int32.toInt (ee29))
    have q166 : elm (S150 7) 13 = v31.toInt := (elm_of c152 13).trans (congrArg Int32.toInt (ee32))
    have q167 : elm (S150 7) 16 = v34.toInt := (elm_of c152 16).trans (congrArg Int32.toInt (ee35))
    have q168 : elm (S150 7) 18 = v37.toInt := (elm_of c152 18).trans (congrArg Int32.toInt (ee38))
    have q169 : elm (S150 6) 1 = v40.toInt := (elm_of c162 1).trans (congrArg Int32.toInt (ee41))
    have q170 : elm (S150 7) 21 = v43.toInt := (elm_of c152 21).trans (congrArg Int32.toInt (ee44))
    have q171 : elm (S150 7) 20 = v46.toInt := (elm_of c152 20).trans (congrArg Int32.toInt (ee47))
    have q172 : elm (S150 7) 23 = v49.toInt := (elm_of c152 23).trans (congrArg Int32.toInt (ee50))
    have q173 : elm (S150 7) 26 = v52.toInt := (elm_of c152 26).trans (congrArg Int32.toInt (ee53))
    have q174 : elm (S150 7) 28 = v55.toInt := (elm_of c152 28).trans (congrArg Int32.toInt (ee56))
    have q175 : elm (S150 6) 2 = v58.toInt := (elm_of c162 2).trans (congrArg Int32.toInt (ee59))
    have q176 : elm (S150 7) 31 = v61.toInt := (elm_of c152 31).trans (congrArg Int32.toInt (ee62))
    have q177 : elm (S150 7) 30 = v64.toInt := (elm_of c152 30).trans (congrArg Int32.toInt (ee65))
    have q178 : elm (S150 7) 33 = v67.toInt := (elm_of c152 33).trans (congrArg Int32.toInt (ee68))
    have q179 : elm (S150 7) 36 = v70.toInt := (elm_of c152 36).trans (congrArg Int32.toInt (ee71))
    have q180 : elm (S150 7) 38 = v73.toInt := (elm_of c152 38).trans (congrArg Int32.toInt (ee74))
    have q181 : elm (S150 6) 3 = v76.toInt := (elm_of c162 3).trans (congrArg Int32.toInt (ee77))
    exact xri E hr hlk hQ (⟨hI, (up_o o_refl eS150 (by decide)), (by omega), (by omega), (by omega), (by omega), (by omega), (by omega), (by omega), (by omega), (by omega), (by omega), (by omega), (by omega), (by omega), (by omega), (by omega), (by omega), (by omega), (by omega), (by omega), (by omega), ⟨by omega, by omega⟩, ⟨by omega, by omega⟩, ⟨by omega, by omega⟩, ⟨by omega, by omega⟩, ⟨by omega, by omega⟩, ⟨by omega, by omega⟩, ⟨by omega, by omega⟩, ⟨by omega, by omega⟩, (at_tr hAT0 (up_eq (j := 7) eS150 (by decide)) (up_eq (j := 12) eS150 (by decide))), (at_tr hAT1 (up_eq (j := 7) eS150 (by decide)) (up_eq (j := 12) eS150 (by decide))), (at_tr hAT2 (up_eq (j := 7) eS150 (by decide)) (up_eq (j := 12) eS150 (by decide))), (at_tr hAT3 (up_eq (j := 7) eS150 (by decide)) (up_eq (j := 12) eS150 (by decide)))⟩) dX12_shove_37
  · have h182 := ib_ne k155
    have b183 : Bd r153 (1) (1) := rf_nlo b153 (by decide : Bd 0 (0) (0)) h182
    have g184 := g153_0.resolve_left (by omega)
    clear g153_0
    have b185 : Bd a1 (0) (7) := ⟨by omega, by omega⟩
    have b186 : Bd v13 (1) (8) := ⟨by omega, (b15).2⟩
    refine lv_iload_n hx hb dX12_shove_13 rfl (lv_at hl 2 rfl) ?_
    refine lv_i2l hx hb dX12_shove_14 rfl ?_
    refine lv_topl (fun w187 e188 => ?_)
    have t189 : w187.toInt = a2.toInt := by rw [e188]; exact i2l_i _
    have b190 : BdL w187 (-2147483648) (2147483647) := (by have h1 := ((ib_full a2)).1; have h2 := ((ib_full a2)).2; exact ⟨by omega, by omega⟩)
    refine lv_lconst (v := 0) hx hb dX12_shove_15 (by decide) ?_
    refine lv_ldc2 (v := 400) hx hb E.2.2.1 (E.2.2.2.1 _ q1828) dX12_shove_16 ?_
    have q191 : (0 : Int64).toInt = 0 := by decide
    have q192 : (400 : Int64).toInt = 400 := by decide
    refine xcSi E hs hQ hml hl.1 (gX12_in l g ad hD S150 hI w187 0 400) mX12_in q1591 rfl ⟨(Nat.le_of_ble_eq_true rfl), (Nat.le_of_ble_eq_true rfl)⟩ ⟨(Nat.le_of_ble_eq_true rfl), (Nat.le_of_ble_eq_true rfl)⟩ (Nat.le_of_ble_eq_true rfl) rfl dX12_shove_19 (fun r193 S193 H locs hp193 hQ => ?_)
    obtain ⟨rfl, b193, g193_0, u193_0⟩ := hp193
    refine lv_if_eq (tgt := 35) hx hb dX12_shove_22 (by decide) (fun k194 => ?_) (fun k194 => ?_)
    · have h195 := ib_eq k194
      have b196 : Bd r193 (0) (0) := ⟨(b193).1, ((rf_eq b193 (by decide : Bd 0 (0) (0)) h195).1).2⟩
      clear g193_0
      refine lv_bipush (v := (-2)) hx hb dX12_shove_35 (by decide) ?_
      have q197 : elm (S150 7) 1 = v4.toInt := (elm_of c152 1).trans (congrArg Int32.toInt (ee5))
      have q198 : elm (S150 7) 0 = v7.toInt := (elm_of c152 0).trans (congrArg Int32.toInt (ee8))
      have q199 : elm (S150 7) 3 = v10.toInt := (elm_of c152 3).trans (congrArg Int32.toInt (ee11))
      have q200 : elm (S150 7) 8 = v16.toInt := (elm_of c152 8).trans (congrArg Int32.toInt (ee17))
      have c201 : S150 6 = .inl (g.2 0, 5, .inl f19) := (up_ne eS150 (by decide) c20)
      have q202 : elm (S150 6) 0 = v22.toInt := (elm_of c201 0).trans (congrArg Int32.toInt (ee23))
      have q203 : elm (S150 7) 11 = v25.toInt := (elm_of c152 11).trans (congrArg Int32.toInt (ee26))
      have q204 : elm (S150 7) 10 = v28.toInt := (elm_of c152 10).trans (congrArg Int32.toInt (ee29))
      have q205 : elm (S150 7) 13 = v31.toInt := (elm_of c152 13).trans (congrArg Int32.toInt (ee32))
      have q206 : elm (S150 7) 16 = v34.toInt := (elm_of c152 16).trans (congrArg Int32.toInt (ee35))
      have q207 : elm (S150 7) 18 = v37.toInt := (elm_of c152 18).trans (congrArg Int32.toInt (ee38))
      have q208 : elm (S150 6) 1 = v40.toInt := (elm_of c201 1).trans (congrArg Int32.toInt (ee41))
      have q209 : elm (S150 7) 21 = v43.toInt := (elm_of c152 21).trans (congrArg Int32.toInt (ee44))
      have q210 : elm (S150 7) 20 = v46.toInt := (elm_of c152 20).trans (congrArg Int32.toInt (ee47))
      have q211 : elm (S150 7) 23 = v49.toInt := (elm_of c152 23).trans (congrArg Int32.toInt (ee50))
      have q212 : elm (S150 7) 26 = v52.toInt := (elm_of c152 26).trans (congrArg Int32.toInt (ee53))
      have q213 : elm (S150 7) 28 = v55.toInt := (elm_of c152 28).trans (congrArg Int32.toInt (ee56))
      have q214 : elm (S150 6) 2 = v58.toInt := (elm_of c201 2).trans (congrArg Int32.toInt (ee59))
      have q215 : elm (S150 7) 31 = v61.toInt := (elm_of c152 31).trans (congrArg Int32.toInt (ee62))
      have q216 : elm (S150 7) 30 = v64.toInt := (elm_of c152 30).trans (congrArg Int32.toInt (ee65))
      have q217 : elm (S150 7) 33 = v67.toInt := (elm_of c152 33).trans (congrArg Int32.toInt (ee68))
      have q218 : elm (S150 7) 36 = v70.toInt := (elm_of c152 36).trans (congrArg Int32.toInt (ee71))
      have q219 : elm (S150 7) 38 = v73.toInt := (elm_of c152 38).trans (congrArg Int32.toInt (ee74))
      have q220 : elm (S150 6) 3 = v76.toInt := (elm_of c201 3).trans (congrArg Int32.toInt (ee77))
      exact xri E hr hlk hQ (⟨hI, (up_o o_refl eS150 (by decide)), (by omega), (by omega), (by omega), (by omega), (by omega), (by omega), (by omega), (by omega), (by omega), (by omega), (by omega), (by omega), (by omega), (by omega), (by omega), (by omega), (by omega), (by omega), (by omega), (by omega), ⟨by omega, by omega⟩, ⟨by omega, by omega⟩, ⟨by omega, by omega⟩, ⟨by omega, by omega⟩, ⟨by omega, by omega⟩, ⟨by omega, by omega⟩, ⟨by omega, by omega⟩, ⟨by omega, by omega⟩, (at_tr hAT0 (up_eq (j := 7) eS150 (by decide)) (up_eq (j := 12) eS150 (by decide))), (at_tr hAT1 (up_eq (j := 7) eS150 (by decide)) (up_eq (j := 12) eS150 (by decide))), (at_tr hAT2 (up_eq (j := 7) eS150 (by decide)) (up_eq (j := 12) eS150 (by decide))), (at_tr hAT3 (up_eq (j := 7) eS150 (by decide)) (up_eq (j := 12) eS150 (by decide)))⟩) dX12_shove_37
    · have h221 := ib_ne k194
      have b222 : Bd r193 (1) (1) := rf_nlo b193 (by decide : Bd 0 (0) (0)) h221
      have g223 := g193_0.resolve_left (by omega)
      clear g193_0
      have b224 : BdL w187 (0) (400) := ⟨by omega, by omega⟩
      have b225 : Bd a2 (0) (400) := ⟨by omega, by omega⟩
      refine lv_iload_n hx hb dX12_shove_25 rfl (lv_at hl 3 rfl) ?_
      refine lv_i2l hx hb dX12_shove_26 rfl ?_
      refine lv_topl (fun w226 e227 => ?_)
      have t228 : w226.toInt = a3.toInt := by rw [e227]; exact i2l_i _
      have b229 : BdL w226 (-2147483648) (2147483647) := (by have h1 := ((ib_full a3)).1; have h2 := ((ib_full a3)).2; exact ⟨by omega, by omega⟩)
      refine lv_lconst (v := 0) hx hb dX12_shove_27 (by decide) ?_
      refine lv_lconst (v := 1) hx hb dX12_shove_28 (by decide) ?_
      have q230 : (1 : Int64).toInt = 1 := by decide
      refine xcSi E hs hQ hml hl.1 (gX12_in l g ad hD S150 hI w226 0 1) mX12_in q1591 rfl ⟨(Nat.le_of_ble_eq_true rfl), (Nat.le_of_ble_eq_true rfl)⟩ ⟨(Nat.le_of_ble_eq_true rfl), (Nat.le_of_ble_eq_true rfl)⟩ (Nat.le_of_ble_eq_true rfl) rfl dX12_shove_29 (fun r231 S231 H locs hp231 hQ => ?_)
      obtain ⟨rfl, b231, g231_0, u231_0⟩ := hp231
      refine lv_if_ne (tgt := 38) hx hb dX12_shove_32 (by decide) (fun k232 => ?_) (fun k232 => ?_)
      · have h233 := ib_ne k232
        have b234 : Bd r231 (1) (1) := rf_nlo b231 (by decide : Bd 0 (0) (0)) h233
        have g235 := g231_0.resolve_left (by omega)
        clear g231_0
        have b236 : BdL w226 (0) (1) := ⟨by omega, by omega⟩
        have b237 : Bd a3 (0) (1) := ⟨by omega, by omega⟩
        refine lv_aload_n hx hb dX12_shove_38 rfl (lv_at hl 0 rfl) ?_
        refine xcVv E hs hQ hml hl.1 0 (gX12_lays_0 l g ad hD S150 hI (at_tr hAT0 (up_eq (j := 7) eS150 (by decide)) (up_eq (j := 12) eS150 (by decide)))) mX12_lays q1820 (by decide) c151 rfl rfl ⟨(Nat.le_of_ble_eq_true rfl), (Nat.le_of_ble_eq_true rfl)⟩ ⟨(Nat.le_of_ble_eq_true rfl), (Nat.le_of_ble_eq_true rfl)⟩ (Nat.le_of_ble_eq_true rfl) rfl dX12_shove_39 (fun S238 H locs hp238 hQ _ => ?_)
        obtain ⟨hI, o238⟩ := hp238
        refine lv_aload_n hx hb dX12_shove_42 rfl (lv_at hl 0 rfl) ?_
        have c239 : S238 7 = .inl (g.2 0, 50, .inl f1) := ((o238 7 (by decide)).trans c152)
        have c241 : S238 0 = .inr (12, [.int 0, .ref (ad 1), .ref (ad 2), .ref (ad 3), .ref (ad 4), .ref (ad 5), .int v122, .int v124, .int v126, .int v128, .int v129, .long w130, .int v131, .int v133, .int v134, .int v135, .ref (ad 6), .ref (ad 7), .ref (ad 8), .ref (ad 9), .ref (ad 10), .ref (ad 11), .ref (ad 12), .ref (ad 13), .ref (ad 14), .ref (ad 15), .int v136, .int v138, .ref (ad 16), .int v140, .int v142, .int v144, .int v146, .int v147, .ref (ad 17), .ref (ad 18), .int v148, .ref (ad 19)]) := ((o238 0 (by decide)).trans c151)
        refine xcVi E hs hQ hml hl.1 0 (gX12_isFull_0 l g ad hD S238 hI ) mX12_isFull q2104 (by decide) c241 rfl rfl ⟨(Nat.le_of_ble_eq_true rfl), (Nat.le_of_ble_eq_true rfl)⟩ ⟨(Nat.le_of_ble_eq_true rfl), (Nat.le_of_ble_eq_true rfl)⟩ (Nat.le_of_ble_eq_true rfl) rfl dX12_shove_43 (fun r240 S240 H locs hp240 hQ _ => ?_)
        obtain ⟨rfl, b240, g240_0⟩ := hp240
        have q242 : elm (S238 7) 9 = v109.toInt := (elm_of c239 9).trans (congrArg Int32.toInt (ee110))
        refine lv_if_ne (tgt := 64) hx hb dX12_shove_46 (by decide) (fun k243 => ?_) (fun k243 => ?_)
        · have h244 := ib_ne k243
          have b245 : Bd r240 (1) (1) := rf_nlo b240 (by decide : Bd 0 (0) (0)) h244
          clear g240_0
          refine lv_bipush (v := (-5)) hx hb dX12_shove_64 (by decide) ?_
          have q246 : elm (S238 7) 1 = v4.toInt := (elm_of c239 1).trans (congrArg Int32.toInt (ee5))
          have q247 : elm (S238 7) 0 = v7.toInt := (elm_of c239 0).trans (congrArg Int32.toInt (ee8))
          have q248 : elm (S238 7) 3 = v10.toInt := (elm_of c239 3).trans (congrArg Int32.toInt (ee11))
          have q249 : elm (S238 7) 6 = v13.toInt := (elm_of c239 6).trans (congrArg Int32.toInt (ee14))
          have q250 : elm (S238 7) 8 = v16.toInt := (elm_of c239 8).trans (congrArg Int32.toInt (ee17))
          have c251 : S238 6 = .inl (g.2 0, 5, .inl f19) := ((o238 6 (by decide)).trans (up_ne eS150 (by decide) c20))
          have q252 : elm (S238 6) 0 = v22.toInt := (elm_of c251 0).trans (congrArg Int32.toInt (ee23))
          have q253 : elm (S238 7) 11 = v25.toInt := (elm_of c239 11).trans (congrArg Int32.toInt (ee26))
          have q254 : elm (S238 7) 10 = v28.toInt := (elm_of c239 10).trans (congrArg Int32.toInt (ee29))
          have q255 : elm (S238 7) 13 = v31.toInt := (elm_of c239 13).trans (congrArg Int32.toInt (ee32))
          have q256 : elm (S238 7) 16 = v34.toInt := (elm_of c239 16).trans (congrArg Int32.toInt (ee35))
          have q257 : elm (S238 7) 18 = v37.toInt := (elm_of c239 18).trans (congrArg Int32.toInt (ee38))
          have q258 : elm (S238 6) 1 = v40.toInt := (elm_of c251 1).trans (congrArg Int32.toInt (ee41))
          have q259 : elm (S238 7) 21 = v43.toInt := (elm_of c239 21).trans (congrArg Int32.toInt (ee44))
          have q260 : elm (S238 7) 20 = v46.toInt := (elm_of c239 20).trans (congrArg Int32.toInt (ee47))
          have q261 : elm (S238 7) 23 = v49.toInt := (elm_of c239 23).trans (congrArg Int32.toInt (ee50))
          have q262 : elm (S238 7) 26 = v52.toInt := (elm_of c239 26).trans (congrArg Int32.toInt (ee53))
          have q263 : elm (S238 7) 28 = v55.toInt := (elm_of c239 28).trans (congrArg Int32.toInt (ee56))
          have q264 : elm (S238 6) 2 = v58.toInt := (elm_of c251 2).trans (congrArg Int32.toInt (ee59))
          have q265 : elm (S238 7) 31 = v61.toInt := (elm_of c239 31).trans (congrArg Int32.toInt (ee62))
          have q266 : elm (S238 7) 30 = v64.toInt := (elm_of c239 30).trans (congrArg Int32.toInt (ee65))
          have q267 : elm (S238 7) 33 = v67.toInt := (elm_of c239 33).trans (congrArg Int32.toInt (ee68))
          have q268 : elm (S238 7) 36 = v70.toInt := (elm_of c239 36).trans (congrArg Int32.toInt (ee71))
          have q269 : elm (S238 7) 38 = v73.toInt := (elm_of c239 38).trans (congrArg Int32.toInt (ee74))
          have q270 : elm (S238 6) 3 = v76.toInt := (elm_of c251 3).trans (congrArg Int32.toInt (ee77))
          exact xri E hr hlk hQ (⟨hI, (o_trans (up_o o_refl eS150 (by decide)) o238 (by decide)), (by omega), (by omega), (by omega), (by omega), (by omega), (by omega), (by omega), (by omega), (by omega), (by omega), (by omega), (by omega), (by omega), (by omega), (by omega), (by omega), (by omega), (by omega), (by omega), (by omega), ⟨by omega, by omega⟩, ⟨by omega, by omega⟩, ⟨by omega, by omega⟩, ⟨by omega, by omega⟩, ⟨by omega, by omega⟩, ⟨by omega, by omega⟩, ⟨by omega, by omega⟩, ⟨by omega, by omega⟩, (at_tr hAT0 ((o238 7 (by decide)).trans (up_eq (j := 7) eS150 (by decide))) ((o238 12 (by decide)).trans (up_eq (j := 12) eS150 (by decide)))), (at_tr hAT1 ((o238 7 (by decide)).trans (up_eq (j := 7) eS150 (by decide))) ((o238 12 (by decide)).trans (up_eq (j := 12) eS150 (by decide)))), (at_tr hAT2 ((o238 7 (by decide)).trans (up_eq (j := 7) eS150 (by decide))) ((o238 12 (by decide)).trans (up_eq (j := 12) eS150 (by decide)))), (at_tr hAT3 ((o238 7 (by decide)).trans (up_eq (j := 7) eS150 (by decide))) ((o238 12 (by decide)).trans (up_eq (j := 12) eS150 (by decide))))⟩) dX12_shove_66
        · have h271 := ib_eq k243
          have b272 : Bd r240 (0) (0) := ⟨(b240).1, ((rf_eq b240 (by decide : Bd 0 (0) (0)) h271).1).2⟩
          have g273 := g240_0.resolve_left (by omega)
          clear g240_0
          have b274 : Bd v109 (0) (39) := ⟨(b111).1, by omega⟩
          refine lv_aload_n hx hb dX12_shove_49 rfl (lv_at hl 0 rfl) ?_
          refine xget E hQ 0 (by decide) c241 rfl 25 (by decide) q1493 rfl dX12_shove_50 ?_
          refine lv_sipush (v := 401) hx hb dX12_shove_53 (by decide) ?_
          refine lv_iload_n hx hb dX12_shove_56 rfl (lv_at hl 1 rfl) ?_
          refine lv_imul hx hb dX12_shove_57 ?_
          refine lv_topi (fun z275 e276 => ?_)
          have t277 := ib_cmul (q := 401) e276 (by decide) (by decide) b185 (by decide) (by decide)
          have b278 : Bd z275 (0) (2807) := ib_mulb t277 (by decide) b185
          refine lv_iload_n hx hb dX12_shove_58 rfl (lv_at hl 2 rfl) ?_
          refine lv_iadd hx hb dX12_shove_59 ?_
          refine lv_topi (fun z279 e280 => ?_)
          have t281 := ib_add e280 b278 b225 (by decide) (by decide)
          have b282 : Bd z279 (0) (3207) := ib_addb t281 b278 b225
          obtain ⟨f283, c284⟩ := invM_15 hI
          refine xiald E hQ 15 (by decide) c284 (ib_in b282 (by decide) (by decide)) dX12_shove_60 ?_
          refine lv_topi (fun z286 e287 => ?_)
          refine lv_if_eq (tgt := 67) hx hb dX12_shove_61 (by decide) (fun k288 => ?_) (fun k288 => ?_)
          · have h289 := ib_eq k288
            have b290 : Bd z286 (0) (0) := ⟨((rf_eq (ib_full z286) (by decide : Bd 0 (0) (0)) h289).1).1, ((rf_eq (ib_full z286) (by decide : Bd 0 (0) (0)) h289).1).2⟩
            refine lv_aload_n hx hb dX12_shove_67 rfl (lv_at hl 0 rfl) ?_
            refine lv_iconst (v := 1) hx hb dX12_shove_68 (by decide) ?_
            refine lv_iload_n hx hb dX12_shove_69 rfl (lv_at hl 1 rfl) ?_
            refine lv_iload_n hx hb dX12_shove_70 rfl (lv_at hl 2 rfl) ?_
            refine lv_iload_n hx hb dX12_shove_71 rfl (lv_at hl 3 rfl) ?_
            have q291 : (1 : Int32).toInt = 1 := by decide
            refine xcVv E hs hQ hml hl.1 0 (gX12_acts_0 l g ad hD S238 hI 1 a1 a2 a3 (ib_wk (by decide : Bd 1 (1) (1)) (by decide) (by decide)) b185 b225 b237 (by omega) (at_tr hAT0 ((o238 7 (by decide)).trans (up_eq (j := 7) eS150 (by decide))) ((o238 12 (by decide)).trans (up_eq (j := 12) eS150 (by decide)))) (at_tr hAT1 ((o238 7 (by decide)).trans (up_eq (j := 7) eS150 (by decide))) ((o238 12 (by decide)).trans (up_eq (j := 12) eS150 (by decide)))) (at_tr hAT2 ((o238 7 (by decide)).trans (up_eq (j := 7) eS150 (by decide))) ((o238 12 (by decide)).trans (up_eq (j := 12) eS150 (by decide)))) (at_tr hAT3 ((o238 7 (by decide)).trans (up_eq (j := 7) eS150 (by decide))) ((o238 12 (by decide)).trans (up_eq (j := 12) eS150 (by decide)))) (fun h => absurd h (by decide))) mX12_acts q2108 (by decide) c241 rfl rfl ⟨(Nat.le_of_ble_eq_true rfl), (Nat.le_of_ble_eq_true rfl)⟩ ⟨(Nat.le_of_ble_eq_true rfl), (Nat.le_of_ble_eq_true rfl)⟩ (Nat.le_of_ble_eq_true rfl) rfl dX12_shove_72 (fun S292 H locs hp292 hQ _ => ?_)
            obtain ⟨hI, o292, g292_0, g292_1, g292_2, g292_3, g292_4, g292_5, g292_6, g292_7, g292_8, g292_9, g292_10, g292_11, g292_12, g292_13, g292_14, g292_15, g292_16, g292_17, g292_18, g292_19, g292_20, g292_21, g292_22, g292_23, u292_0, u292_1, u292_2, u292_3⟩ := hp292
            obtain ⟨f293, c294, b295⟩ := invM_7 hI
            obtain ⟨v296, ee297⟩ : ∃ z : Int32, f293 9 = z := ⟨_, rfl⟩
            have b298 : Bd v296 (0) (40) := (by rw [← ee297]; exact b295.2.2.2.2.2.2.2 9 (by decide))
            have q299 : elm (S292 7) 9 = v296.toInt := (elm_of c294 9).trans (congrArg Int32.toInt (ee297))
            have b300 : Bd v296 (1) (40) := ⟨by omega, (b298).2⟩
            have q301 : elm (S238 7) 0 = v7.toInt := (elm_of c239 0).trans (congrArg Int32.toInt (ee8))
            obtain ⟨v302, ee303⟩ : ∃ z : Int32, f293 0 = z := ⟨_, rfl⟩
            have b304 : Bd v302 (0) (12) := (by rw [← ee303]; exact b295.1 0 (by decide))
            have q305 : elm (S292 7) 0 = v302.toInt := (elm_of c294 0).trans (congrArg Int32.toInt (ee303))
            have b306 : Bd v302 (1) (12) := ⟨by omega, (b304).2⟩
            have b307 : Bd v7 (1) (12) := ⟨by omega, (b9).2⟩
            have q308 : elm (S238 7) 1 = v4.toInt := (elm_of c239 1).trans (congrArg Int32.toInt (ee5))
            obtain ⟨v309, ee310⟩ : ∃ z : Int32, f293 1 = z := ⟨_, rfl⟩
            have b311 : Bd v309 (0) (12) := (by rw [← ee310]; exact b295.2.1 1 (by decide))
            have q312 : elm (S292 7) 1 = v309.toInt := (elm_of c294 1).trans (congrArg Int32.toInt (ee310))
            have b313 : Bd v309 (1) (12) := ⟨by omega, (b311).2⟩
            have b314 : Bd v4 (1) (12) := ⟨by omega, (b6).2⟩
            have q315 : elm (S238 7) 3 = v10.toInt := (elm_of c239 3).trans (congrArg Int32.toInt (ee11))
            obtain ⟨v316, ee317⟩ : ∃ z : Int32, f293 3 = z := ⟨_, rfl⟩
            have b318 : Bd v316 (0) (12) := (by rw [← ee317]; exact b295.2.2.2.1 3 (by decide))
            have q319 : elm (S292 7) 3 = v316.toInt := (elm_of c294 3).trans (congrArg Int32.toInt (ee317))
            have b320 : Bd v10 (1) (12) := ⟨by omega, (b12).2⟩
            have b321 : Bd v316 (1) (12) := ⟨by omega, (b318).2⟩
            have q322 : elm (S238 7) 6 = v13.toInt := (elm_of c239 6).trans (congrArg Int32.toInt (ee14))
            obtain ⟨v323, ee324⟩ : ∃ z : Int32, f293 6 = z := ⟨_, rfl⟩
            have b325 : Bd v323 (0) (8) := (by rw [← ee324]; exact b295.2.2.2.2.1 6 (by decide))
            have q326 : elm (S292 7) 6 = v323.toInt := (elm_of c294 6).trans (congrArg Int32.toInt (ee324))
            have b327 : Bd v323 (1) (8) := ⟨by omega, (b325).2⟩
            have q328 : elm (S238 7) 8 = v16.toInt := (elm_of c239 8).trans (congrArg Int32.toInt (ee17))
            obtain ⟨v329, ee330⟩ : ∃ z : Int32, f293 8 = z := ⟨_, rfl⟩
            have b331 : Bd v329 (0) (3) := (by rw [← ee330]; exact b295.2.2.2.2.2.2.1 8 (by decide))
            have q332 : elm (S292 7) 8 = v329.toInt := (elm_of c294 8).trans (congrArg Int32.toInt (ee330))
            have q333 : elm (S238 7) 10 = v28.toInt := (elm_of c239 10).trans (congrArg Int32.toInt (ee29))
            obtain ⟨v334, ee335⟩ : ∃ z : Int32, f293 10 = z := ⟨_, rfl⟩
            have b336 : Bd v334 (0) (12) := (by rw [← ee335]; exact b295.1 10 (by decide))
            have q337 : elm (S292 7) 10 = v334.toInt := (elm_of c294 10).trans (congrArg Int32.toInt (ee335))
            have q338 : elm (S238 7) 11 = v25.toInt := (elm_of c239 11).trans (congrArg Int32.toInt (ee26))
            obtain ⟨v339, ee340⟩ : ∃ z : Int32, f293 11 = z := ⟨_, rfl⟩
            have b341 : Bd v339 (0) (12) := (by rw [← ee340]; exact b295.2.1 11 (by decide))
            have q342 : elm (S292 7) 11 = v339.toInt := (elm_of c294 11).trans (congrArg Int32.toInt (ee340))
            have q343 : elm (S238 7) 13 = v31.toInt := (elm_of c239 13).trans (congrArg Int32.toInt (ee32))
            obtain ⟨v344, ee345⟩ : ∃ z : Int32, f293 13 = z := ⟨_, rfl⟩
            have b346 : Bd v344 (0) (12) := (by rw [← ee345]; exact b295.2.2.2.1 13 (by decide))
            have q347 : elm (S292 7) 13 = v344.toInt := (elm_of c294 13).trans (congrArg Int32.toInt (ee345))
            have q348 : elm (S238 7) 16 = v34.toInt := (elm_of c239 16).trans (congrArg Int32.toInt (ee35))
            obtain ⟨v349, ee350⟩ : ∃ z : Int32, f293 16 = z := ⟨_, rfl⟩
            have b351 : Bd v349 (0) (8) := (by rw [← ee350]; exact b295.2.2.2.2.1 16 (by decide))
            have q352 : elm (S292 7) 16 = v349.toInt := (elm_of c294 16).trans (congrArg Int32.toInt (ee350))
            have q353 : elm (S238 7) 18 = v37.toInt := (elm_of c239 18).trans (congrArg Int32.toInt (ee38))
            obtain ⟨v354, ee355⟩ : ∃ z : Int32, f293 18 = z := ⟨_, rfl⟩
            have b356 : Bd v354 (0) (3) := (by rw [← ee355]; exact b295.2.2.2.2.2.2.1 18 (by decide))
            have q357 : elm (S292 7) 18 = v354.toInt := (elm_of c294 18).trans (congrArg Int32.toInt (ee355))
            have q358 : elm (S238 7) 19 = v112.toInt := (elm_of c239 19).trans (congrArg Int32.toInt (ee113))
            obtain ⟨v359, ee360⟩ : ∃ z : Int32, f293 19 = z := ⟨_, rfl⟩
            have b361 : Bd v359 (0) (40) := (by rw [← ee360]; exact b295.2.2.2.2.2.2.2 19 (by decide))
            have q362 : elm (S292 7) 19 = v359.toInt := (elm_of c294 19).trans (congrArg Int32.toInt (ee360))
            have q363 : elm (S238 7) 20 = v46.toInt := (elm_of c239 20).trans (congrArg Int32.toInt (ee47))
            obtain ⟨v364, ee365⟩ : ∃ z : Int32, f293 20 = z := ⟨_, rfl⟩
            have b366 : Bd v364 (0) (12) := (by rw [← ee365]; exact b295.1 20 (by decide))
            have q367 : elm (S292 7) 20 = v364.toInt := (elm_of c294 20).trans (congrArg Int32.toInt (ee365))
            have q368 : elm (S238 7) 21 = v43.toInt := (elm_of c239 21).trans (congrArg Int32.toInt (ee44))
            obtain ⟨v369, ee370⟩ : ∃ z : Int32, f293 21 = z := ⟨_, rfl⟩
            have b371 : Bd v369 (0) (12) := (by rw [← ee370]; exact b295.2.1 21 (by decide))
            have q372 : elm (S292 7) 21 = v369.toInt := (elm_of c294 21).trans (congrArg Int32.toInt (ee370))
            have q373 : elm (S238 7) 23 = v49.toInt := (elm_of c239 23).trans (congrArg Int32.toInt (ee50))
            obtain ⟨v374, ee375⟩ : ∃ z : Int32, f293 23 = z := ⟨_, rfl⟩
            have b376 : Bd v374 (0) (12) := (by rw [← ee375]; exact b295.2.2.2.1 23 (by decide))
            have q377 : elm (S292 7) 23 = v374.toInt := (elm_of c294 23).trans (congrArg Int32.toInt (ee375))
            have q378 : elm (S238 7) 26 = v52.toInt := (elm_of c239 26).trans (congrArg Int32.toInt (ee53))
            obtain ⟨v379, ee380⟩ : ∃ z : Int32, f293 26 = z := ⟨_, rfl⟩
            have b381 : Bd v379 (0) (8) := (by rw [← ee380]; exact b295.2.2.2.2.1 26 (by decide))
            have q382 : elm (S292 7) 26 = v379.toInt := (elm_of c294 26).trans (congrArg Int32.toInt (ee380))
            have q383 : elm (S238 7) 28 = v55.toInt := (elm_of c239 28).trans (congrArg Int32.toInt (ee56))
            obtain ⟨v384, ee385⟩ : ∃ z : Int32, f293 28 = z := ⟨_, rfl⟩
            have b386 : Bd v384 (0) (3) := (by rw [← ee385]; exact b295.2.2.2.2.2.2.1 28 (by decide))
            have q387 : elm (S292 7) 28 = v384.toInt := (elm_of c294 28).trans (congrArg Int32.toInt (ee385))
            have q388 : elm (S238 7) 29 = v115.toInt := (elm_of c239 29).trans (congrArg Int32.toInt (ee116))
            obtain ⟨v389, ee390⟩ : ∃ z : Int32, f293 29 = z := ⟨_, rfl⟩
            have b391 : Bd v389 (0) (40) := (by rw [← ee390]; exact b295.2.2.2.2.2.2.2 29 (by decide))
            have q392 : elm (S292 7) 29 = v389.toInt := (elm_of c294 29).trans (congrArg Int32.toInt (ee390))
            have q393 : elm (S238 7) 30 = v64.toInt := (elm_of c239 30).trans (congrArg Int32.toInt (ee65))
            obtain ⟨v394, ee395⟩ : ∃ z : Int32, f293 30 = z := ⟨_, rfl⟩
            have b396 : Bd v394 (0) (12) := (by rw [← ee395]; exact b295.1 30 (by decide))
            have q397 : elm (S292 7) 30 = v394.toInt := (elm_of c294 30).trans (congrArg Int32.toInt (ee395))
            have q398 : elm (S238 7) 31 = v61.toInt := (elm_of c239 31).trans (congrArg Int32.toInt (ee62))
            obtain ⟨v399, ee400⟩ : ∃ z : Int32, f293 31 = z := ⟨_, rfl⟩
            have b401 : Bd v399 (0) (12) := (by rw [← ee400]; exact b295.2.1 31 (by decide))
            have q402 : elm (S292 7) 31 = v399.toInt := (elm_of c294 31).trans (congrArg Int32.toInt (ee400))
            have q403 : elm (S238 7) 33 = v67.toInt := (elm_of c239 33).trans (congrArg Int32.toInt (ee68))
            obtain ⟨v404, ee405⟩ : ∃ z : Int32, f293 33 = z := ⟨_, rfl⟩
            have b406 : Bd v404 (0) (12) := (by rw [← ee405]; exact b295.2.2.2.1 33 (by decide))
            have q407 : elm (S292 7) 33 = v404.toInt := (elm_of c294 33).trans (congrArg Int32.toInt (ee405))
            have q408 : elm (S238 7) 36 = v70.toInt := (elm_of c239 36).trans (congrArg Int32.toInt (ee71))
            obtain ⟨v409, ee410⟩ : ∃ z : Int32, f293 36 = z := ⟨_, rfl⟩
            have b411 : Bd v409 (0) (8) := (by rw [← ee410]; exact b295.2.2.2.2.1 36 (by decide))
            have q412 : elm (S292 7) 36 = v409.toInt := (elm_of c294 36).trans (congrArg Int32.toInt (ee410))
            have q413 : elm (S238 7) 38 = v73.toInt := (elm_of c239 38).trans (congrArg Int32.toInt (ee74))
            obtain ⟨v414, ee415⟩ : ∃ z : Int32, f293 38 = z := ⟨_, rfl⟩
            have b416 : Bd v414 (0) (3) := (by rw [← ee415]; exact b295.2.2.2.2.2.2.1 38 (by decide))
            have q417 : elm (S292 7) 38 = v414.toInt := (elm_of c294 38).trans (congrArg Int32.toInt (ee415))
            have q418 : elm (S238 7) 39 = v118.toInt := (elm_of c239 39).trans (congrArg Int32.toInt (ee119))
            obtain ⟨v419, ee420⟩ : ∃ z : Int32, f293 39 = z := ⟨_, rfl⟩
            have b421 : Bd v419 (0) (40) := (by rw [← ee420]; exact b295.2.2.2.2.2.2.2 39 (by decide))
            have q422 : elm (S292 7) 39 = v419.toInt := (elm_of c294 39).trans (congrArg Int32.toInt (ee420))
            refine lv_iconst (v := 1) hx hb dX12_shove_75 (by decide) ?_
            refine lv_istore (lv' := [(4, .int 1), (0, .ref (ad 0)), (1, .int a1), (2, .int a2), (3, .int a3)]) hx hb dX12_shove_76 hl (by decide) rfl (fun ls hl => ?_)
            refine lv_iconst (v := 0) hx hb dX12_shove_78 (by decide) ?_
            refine lv_istore (lv' := [(5, .int 0), (4, .int 1), (0, .ref (ad 0)), (1, .int a1), (2, .int a2), (3, .int a3)]) hx hb dX12_shove_79 hl (by decide) rfl (fun ls hl => ?_)
            have loop81 : ∀ (n : Nat) (H : Heap) (locs : List Loc) (ls : Array Slot) (x81_4 : Int32) (x81_5 : Int32), Bd x81_5 (0) (401) → (-1) * x81_5.toInt + 401 < ((n : Nat) : Int) → Hp g ad 20 S292 (FA ad 20) s.heap H locs → lv_has ls 6 [(5, .int x81_5), (4, .int x81_4), (0, .ref (ad 0)), (1, .int a1), (2, .int a2), (3, .int a3)] → W p l e (Rm 2) s m [.ref (ad 0), .int a1, .int a2, .int a3].toArray below meth c H locs 0 0 (MQ below (va_Qi (fun _ S' => InvM g ad S' ∧ (∀ j, j ∉ ([0, 7, 12, 14, 15] : List Nat) → S' j = S j) ∧ (0 ≤ 12 * elm (S' 7) 1 + (-1) * elm (S' 7) 0) ∧ (0 ≤ 12 * elm (S' 7) 3 + (-1) * elm (S' 7) 0) ∧ (0 ≤ 8 * elm (S' 7) 0 + (-1) * elm (S' 7) 6) ∧ (0 ≤ 3 * elm (S' 7) 0 + (-1) * elm (S' 7) 8) ∧ (0 ≤ 40000 * elm (S' 7) 0 + (-1) * elm (S' 6) 0) ∧ (0 ≤ 12 * elm (S' 7) 11 + (-1) * elm (S' 7) 10) ∧ (0 ≤ 12 * elm (S' 7) 13 + (-1) * elm (S' 7) 10) ∧ (0 ≤ 8 * elm (S' 7) 10 + (-1) * elm (S' 7) 16) ∧ (0 ≤ 3 * elm (S' 7) 10 + (-1) * elm (S' 7) 18) ∧ (0 ≤ 40000 * elm (S' 7) 10 + (-1) * elm (S' 6) 1) ∧ (0 ≤ 12 * elm (S' 7) 21 + (-1) * elm (S' 7) 20) ∧ (0 ≤ 12 * elm (S' 7) 23 + (-1) * elm (S' 7) 20) ∧ (0 ≤ 8 * elm (S' 7) 20 + (-1) * elm (S' 7) 26) ∧ (0 ≤ 3 * elm (S' 7) 20 + (-1) * elm (S' 7) 28) ∧ (0 ≤ 40000 * elm (S' 7) 20 + (-1) * elm (S' 6) 2) ∧ (0 ≤ 12 * elm (S' 7) 31 + (-1) * elm (S' 7) 30) ∧ (0 ≤ 12 * elm (S' 7) 33 + (-1) * elm (S' 7) 30) ∧ (0 ≤ 8 * elm (S' 7) 30 + (-1) * elm (S' 7) 36) ∧ (0 ≤ 3 * elm (S' 7) 30 + (-1) * elm (S' 7) 38) ∧ (0 ≤ 40000 * elm (S' 7) 30 + (-1) * elm (S' 6) 3) ∧ (0 ≤ elm (S 7) 0 + (-1) * elm (S' 7) 0 ∧ 0 ≤ elm (S' 7) 0 + (-1) * elm (S 7) 0) ∧ (0 ≤ elm (S 7) 6 + (-1) * elm (S' 7) 6 ∧ 0 ≤ elm (S' 7) 6 + (-1) * elm (S 7) 6) ∧ (0 ≤ elm (S 7) 10 + (-1) * elm (S' 7) 10 ∧ 0 ≤ elm (S' 7) 10 + (-1) * elm (S 7) 10) ∧ (0 ≤ elm (S 7) 16 + (-1) * elm (S' 7) 16 ∧ 0 ≤ elm (S' 7) 16 + (-1) * elm (S 7) 16) ∧ (0 ≤ elm (S 7) 20 + (-1) * elm (S' 7) 20 ∧ 0 ≤ elm (S' 7) 20 + (-1) * elm (S 7) 20) ∧ (0 ≤ elm (S 7) 26 + (-1) * elm (S' 7) 26 ∧ 0 ≤ elm (S' 7) 26 + (-1) * elm (S 7) 26) ∧ (0 ≤ elm (S 7) 30 + (-1) * elm (S' 7) 30 ∧ 0 ≤ elm (S' 7) 30 + (-1) * elm (S 7) 30) ∧ (0 ≤ elm (S 7) 36 + (-1) * elm (S' 7) 36 ∧ 0 ≤ elm (S' 7) 36 + (-1) * elm (S 7) 36) ∧ (ATp (S' 7) (S' 12) 0) ∧ (ATp (S' 7) (S' 12) 1) ∧ (ATp (S' 7) (S' 12) 2) ∧ (ATp (S' 7) (S' 12) 3)) (QB g ad 20) (FA ad 20)) [.ref (ad 0), .int a1, .int a2, .int a3].toArray s 0 0 (FA ad 20)) (F0 m 81 ls []) := by
              intro n
              induction n with
              | zero => intro H locs ls x81_4 x81_5 Bx81_5 hn81_ hQ hl; exfalso; have := (Bx81_5).2; omega
              | succ n81_ ih81 =>
                intro H locs ls x81_4 x81_5 Bx81_5 hn81_ hQ hl
                refine lv_iload hx hb dX12_shove_81 (lv_at hl 0 rfl) ?_
                refine lv_sipush (v := 400) hx hb dX12_shove_83 (by decide) ?_
                refine lv_icmp_gt (tgt := 121) hx hb dX12_shove_86 (by decide) (fun k423 => ?_) (fun k423 => ?_)
                · have h424 := ib_lt k423
                  have b425 : Bd x81_5 (401) (401) := ⟨((rf_lt (by decide : Bd 400 (400) (400)) Bx81_5 h424).2).1, (Bx81_5).2⟩
                  refine lv_iload hx hb dX12_shove_121 (lv_at hl 1 rfl) ?_
                  have c426 : S292 6 = .inl (g.2 0, 5, .inl f19) := ((o292 6 (by decide)).trans ((o238 6 (by decide)).trans (up_ne eS150 (by decide) c20)))
                  have q427 : elm (S292 6) 0 = v22.toInt := (elm_of c426 0).trans (congrArg Int32.toInt (ee23))
                  have q428 : elm (S292 6) 1 = v40.toInt := (elm_of c426 1).trans (congrArg Int32.toInt (ee41))
                  have q429 : elm (S292 6) 2 = v58.toInt := (elm_of c426 2).trans (congrArg Int32.toInt (ee59))
                  have q430 : elm (S292 6) 3 = v76.toInt := (elm_of c426 3).trans (congrArg Int32.toInt (ee77))
                  exact xri E hr hlk hQ (⟨hI, (o_trans (o_trans (up_o o_refl eS150 (by decide)) o238 (by decide)) o292 (by decide)), (by omega), (by omega), (by omega), (by omega), (by omega), (by omega), (by omega), (by omega), (by omega), (by omega), (by omega), (by omega), (by omega), (by omega), (by omega), (by omega), (by omega), (by omega), (by omega), (by omega), ⟨by omega, by omega⟩, ⟨by omega, by omega⟩, ⟨by omega, by omega⟩, ⟨by omega, by omega⟩, ⟨by omega, by omega⟩, ⟨by omega, by omega⟩, ⟨by omega, by omega⟩, ⟨by omega, by omega⟩, u292_0, u292_1, u292_2, u292_3⟩) dX12_shove_123
                · have h431 := ib_nlt k423
                  have b432 : Bd x81_5 (0) (400) := ⟨(Bx81_5).1, ((rf_le Bx81_5 (by decide : Bd 400 (400) (400)) h431).1).2⟩
                  refine lv_iload hx hb dX12_shove_89 (lv_at hl 1 rfl) ?_
                  refine lv_aload_n hx hb dX12_shove_91 rfl (lv_at hl 2 rfl) ?_
                  have c433 : S292 0 = .inr (12, [.int 0, .ref (ad 1), .ref (ad 2), .ref (ad 3), .ref (ad 4), .ref (ad 5), .int v122, .int v124, .int v126, .int v128, .int v129, .long w130, .int v131, .int v133, .int v134, .int v135, .ref (ad 6), .ref (ad 7), .ref (ad 8), .ref (ad 9), .ref (ad 10), .ref (ad 11), .ref (ad 12), .ref (ad 13), .ref (ad 14), .ref (ad 15), .int v136, .int v138, .ref (ad 16), .int v140, .int v142, .int v144, .int v146, .int v147, .ref (ad 17), .ref (ad 18), .int v148, .ref (ad 19)]) := ((o292 0 (by decide)).trans c241)
                  refine xget E hQ 0 (by decide) c433 rfl 25 (by decide) q1493 rfl dX12_shove_92 ?_
                  refine lv_sipush (v := 401) hx hb dX12_shove_95 (by decide) ?_
                  refine lv_iload_n hx hb dX12_shove_98 rfl (lv_at hl 3 rfl) ?_
                  refine lv_imul hx hb dX12_shove_99 ?_
                  refine lv_topi (fun z434 e435 => ?_)
                  have t436 := ib_cmul (q := 401) e435 (by decide) (by decide) b185 (by decide) (by decide)
                  have b437 : Bd z434 (0) (2807) := ib_mulb t436 (by decide) b185
                  refine lv_iload hx hb dX12_shove_100 (lv_at hl 0 rfl) ?_
                  refine lv_iadd hx hb dX12_shove_102 ?_
                  refine lv_topi (fun z438 e439 => ?_)
                  have t440 := ib_add e439 b437 b432 (by decide) (by decide)
                  have b441 : Bd z438 (0) (3207) := ib_addb t440 b437 b432
                  have c442 : S292 15 = .inl (g.2 0, 3208, .inl f283) := ((o292 15 (by decide)).trans c284)
                  refine xiald E hQ 15 (by decide) c442 (ib_in b441 (by decide) (by decide)) dX12_shove_103 ?_
                  refine lv_topi (fun z443 e444 => ?_)
                  refine lv_if_eq (tgt := 111) hx hb dX12_shove_104 (by decide) (fun k445 => ?_) (fun k445 => ?_)
                  · have h446 := ib_eq k445
                    have b447 : Bd z443 (0) (0) := ⟨((rf_eq (ib_full z443) (by decide : Bd 0 (0) (0)) h446).1).1, ((rf_eq (ib_full z443) (by decide : Bd 0 (0) (0)) h446).1).2⟩
                    refine lv_iconst (v := 0) hx hb dX12_shove_111 (by decide) ?_
                    refine lv_iadd hx hb dX12_shove_112 ?_
                    refine lv_topi (fun z448 e449 => ?_)
                    have t450 := ib_add e449 (ib_full x81_4) (by decide : Bd 0 (0) (0)) (by decide) (by decide)
                    have b451 : Bd z448 (-2147483648) (2147483647) := ib_addb t450 (ib_full x81_4) (by decide : Bd 0 (0) (0))
                    have t450 : z448.toInt = x81_4.toInt + 0 := fold_add t450 rfl (by decide)
                    refine lv_istore (lv' := [(4, .int z448), (5, .int x81_5), (0, .ref (ad 0)), (1, .int a1), (2, .int a2), (3, .int a3)]) hx hb dX12_shove_113 hl (by decide) rfl (fun ls hl => ?_)
                    obtain ⟨z452, e453⟩ : ∃ z : Int32, z = x81_5 + 1 := ⟨_, rfl⟩
                    have t454 := ib_add e453 b432 (by decide : Bd 1 (1) (1)) (by decide) (by decide)
                    have b455 : Bd z452 (1) (401) := ib_addb t454 b432 (by decide : Bd 1 (1) (1))
                    have t454 : z452.toInt = x81_5.toInt + 1 := fold_add t454 rfl (by decide)
                    refine lv_iinc (v := z452) (lv' := [(5, .int z452), (4, .int z448), (0, .ref (ad 0)), (1, .int a1), (2, .int a2), (3, .int a3)]) hx hb dX12_shove_115 hl (k := 1) rfl (by rw [e453]; rfl) (by decide) rfl (fun ls hl => ?_)
                    refine lv_goto (tgt := 81) hx hb dX12_shove_118 (by decide) ?_
                    exact ih81 _ _ _ z448 z452 (ib_wk b455 (by decide) (by decide)) (by omega) hQ (lv_sub hl [0, 1, 2, 3, 4, 5] rfl)
                  · have h456 := ib_ne k445
                    refine lv_iconst (v := 1) hx hb dX12_shove_107 (by decide) ?_
                    refine lv_goto (tgt := 112) hx hb dX12_shove_108 (by decide) ?_
                    refine lv_iadd hx hb dX12_shove_112 ?_
                    refine lv_topi (fun z457 e458 => ?_)
                    refine lv_istore (lv' := [(4, .int z457), (5, .int x81_5), (0, .ref (ad 0)), (1, .int a1), (2, .int a2), (3, .int a3)]) hx hb dX12_shove_113 hl (by decide) rfl (fun ls hl => ?_)
                    obtain ⟨z459, e460⟩ : ∃ z : Int32, z = x81_5 + 1 := ⟨_, rfl⟩
                    have t461 := ib_add e460 b432 (by decide : Bd 1 (1) (1)) (by decide) (by decide)
                    have b462 : Bd z459 (1) (401) := ib_addb t461 b432 (by decide : Bd 1 (1) (1))
                    have t461 : z459.toInt = x81_5.toInt + 1 := fold_add t461 rfl (by decide)
                    refine lv_iinc (v := z459) (lv' := [(5, .int z459), (4, .int z457), (0, .ref (ad 0)), (1, .int a1), (2, .int a2), (3, .int a3)]) hx hb dX12_shove_115 hl (k := 1) rfl (by rw [e460]; rfl) (by decide) rfl (fun ls hl => ?_)
                    refine lv_goto (tgt := 81) hx hb dX12_shove_118 (by decide) ?_
                    exact ih81 _ _ _ z457 z459 (ib_wk b462 (by decide) (by decide)) (by omega) hQ (lv_sub hl [0, 1, 2, 3, 4, 5] rfl)
            obtain ⟨n81, hn81⟩ := fu_n (401)
            exact loop81 n81 _ _ _ 1 0 (ib_wk (by decide : Bd 0 (0) (0)) (by decide) (by decide)) (by have : (1 : Int32).toInt = 1 := (by decide); have : (0 : Int32).toInt = 0 := (by decide); omega) hQ (lv_sub hl [0, 1, 2, 3, 4, 5] rfl)
          · have h463 := ib_ne k288
            refine lv_bipush (v := (-5)) hx hb dX12_shove_64 (by decide) ?_
            have q464 : elm (S238 7) 1 = v4.toInt := (elm_of c239 1).trans (congrArg Int32.toInt (ee5))
            have q465 : elm (S238 7) 0 = v7.toInt := (elm_of c239 0).trans (congrArg Int32.toInt (ee8))
            have q466 : elm (S238 7) 3 = v10.toInt := (elm_of c239 3).trans (congrArg Int32.toInt (ee11))
            have q467 : elm (S238 7) 6 = v13.toInt := (elm_of c239 6).trans (congrArg Int32.toInt (ee14))
            have q468 : elm (S238 7) 8 = v16.toInt := (elm_of c239 8).trans (congrArg Int32.toInt (ee17))
            have c469 : S238 6 = .inl (g.2 0, 5, .inl f19) := ((o238 6 (by decide)).trans (up_ne eS150 (by decide) c20))
            have q470 : elm (S238 6) 0 = v22.toInt := (elm_of c469 0).trans (congrArg Int32.toInt (ee23))
            have q471 : elm (S238 7) 11 = v25.toInt := (elm_of c239 11).trans (congrArg Int32.toInt (ee26))
            have q472 : elm (S238 7) 10 = v28.toInt := (elm_of c239 10).trans (congrArg Int32.toInt (ee29))
            have q473 : elm (S238 7) 13 = v31.toInt := (elm_of c239 13).trans (congrArg Int32.toInt (ee32))
            have q474 : elm (S238 7) 16 = v34.toInt := (elm_of c239 16).trans (congrArg Int32.toInt (ee35))
            have q475 : elm (S238 7) 18 = v37.toInt := (elm_of c239 18).trans (congrArg Int32.toInt (ee38))
            have q476 : elm (S238 6) 1 = v40.toInt := (elm_of c469 1).trans (congrArg Int32.toInt (ee41))
            have q477 : elm (S238 7) 21 = v43.toInt := (elm_of c239 21).trans (congrArg Int32.toInt (ee44))
            have q478 : elm (S238 7) 20 = v46.toInt := (elm_of c239 20).trans (congrArg Int32.toInt (ee47))
            have q479 : elm (S238 7) 23 = v49.toInt := (elm_of c239 23).trans (congrArg Int32.toInt (ee50))
            have q480 : elm (S238 7) 26 = v52.toInt := (elm_of c239 26).trans (congrArg Int32.toInt (ee53))
            have q481 : elm (S238 7) 28 = v55.toInt := (elm_of c239 28).trans (congrArg Int32.toInt (ee56))
            have q482 : elm (S238 6) 2 = v58.toInt := (elm_of c469 2).trans (congrArg Int32.toInt (ee59))
            have q483 : elm (S238 7) 31 = v61.toInt := (elm_of c239 31).trans (congrArg Int32.toInt (ee62))
            have q484 : elm (S238 7) 30 = v64.toInt := (elm_of c239 30).trans (congrArg Int32.toInt (ee65))
            have q485 : elm (S238 7) 33 = v67.toInt := (elm_of c239 33).trans (congrArg Int32.toInt (ee68))
            have q486 : elm (S238 7) 36 = v70.toInt := (elm_of c239 36).trans (congrArg Int32.toInt (ee71))
            have q487 : elm (S238 7) 38 = v73.toInt := (elm_of c239 38).trans (congrArg Int32.toInt (ee74))
            have q488 : elm (S238 6) 3 = v76.toInt := (elm_of c469 3).trans (congrArg Int32.toInt (ee77))
            exact xri E hr hlk hQ (⟨hI, (o_trans (up_o o_refl eS150 (by decide)) o238 (by decide)), (by omega), (by omega), (by omega), (by omega), (by omega), (by omega), (by omega), (by omega), (by omega), (by omega), (by omega), (by omega), (by omega), (by omega), (by omega), (by omega), (by omega), (by omega), (by omega), (by omega), ⟨by omega, by omega⟩, ⟨by omega, by omega⟩, ⟨by omega, by omega⟩, ⟨by omega, by omega⟩, ⟨by omega, by omega⟩, ⟨by omega, by omega⟩, ⟨by omega, by omega⟩, ⟨by omega, by omega⟩, (at_tr hAT0 ((o238 7 (by decide)).trans (up_eq (j := 7) eS150 (by decide))) ((o238 12 (by decide)).trans (up_eq (j := 12) eS150 (by decide)))), (at_tr hAT1 ((o238 7 (by decide)).trans (up_eq (j := 7) eS150 (by decide))) ((o238 12 (by decide)).trans (up_eq (j := 12) eS150 (by decide)))), (at_tr hAT2 ((o238 7 (by decide)).trans (up_eq (j := 7) eS150 (by decide))) ((o238 12 (by decide)).trans (up_eq (j := 12) eS150 (by decide)))), (at_tr hAT3 ((o238 7 (by decide)).trans (up_eq (j := 7) eS150 (by decide))) ((o238 12 (by decide)).trans (up_eq (j := 12) eS150 (by decide))))⟩) dX12_shove_66
      · have h489 := ib_eq k232
        have b490 : Bd r231 (0) (0) := ⟨(b231).1, ((rf_eq b231 (by decide : Bd 0 (0) (0)) h489).1).2⟩
        clear g231_0
        refine lv_bipush (v := (-2)) hx hb dX12_shove_35 (by decide) ?_
        have q491 : elm (S150 7) 1 = v4.toInt := (elm_of c152 1).trans (congrArg Int32.toInt (ee5))
        have q492 : elm (S150 7) 0 = v7.toInt := (elm_of c152 0).trans (congrArg Int32.toInt (ee8))
        have q493 : elm (S150 7) 3 = v10.toInt := (elm_of c152 3).trans (congrArg Int32.toInt (ee11))
        have q494 : elm (S150 7) 8 = v16.toInt := (elm_of c152 8).trans (congrArg Int32.toInt (ee17))
        have c495 : S150 6 = .inl (g.2 0, 5, .inl f19) := (up_ne eS150 (by decide) c20)
        have q496 : elm (S150 6) 0 = v22.toInt := (elm_of c495 0).trans (congrArg Int32.toInt (ee23))
        have q497 : elm (S150 7) 11 = v25.toInt := (elm_of c152 11).trans (congrArg Int32.toInt (ee26))
        have q498 : elm (S150 7) 10 = v28.toInt := (elm_of c152 10).trans (congrArg Int32.toInt (ee29))
        have q499 : elm (S150 7) 13 = v31.toInt := (elm_of c152 13).trans (congrArg Int32.toInt (ee32))
        have q500 : elm (S150 7) 16 = v34.toInt := (elm_of c152 16).trans (congrArg Int32.toInt (ee35))
        have q501 : elm (S150 7) 18 = v37.toInt := (elm_of c152 18).trans (congrArg Int32.toInt (ee38))
        have q502 : elm (S150 6) 1 = v40.toInt := (elm_of c495 1).trans (congrArg Int32.toInt (ee41))
        have q503 : elm (S150 7) 21 = v43.toInt := (elm_of c152 21).trans (congrArg Int32.toInt (ee44))
        have q504 : elm (S150 7) 20 = v46.toInt := (elm_of c152 20).trans (congrArg Int32.toInt (ee47))
        have q505 : elm (S150 7) 23 = v49.toInt := (elm_of c152 23).trans (congrArg Int32.toInt (ee50))
        have q506 : elm (S150 7) 26 = v52.toInt := (elm_of c152 26).trans (congrArg Int32.toInt (ee53))
        have q507 : elm (S150 7) 28 = v55.toInt := (elm_of c152 28).trans (congrArg Int32.toInt (ee56))
        have q508 : elm (S150 6) 2 = v58.toInt := (elm_of c495 2).trans (congrArg Int32.toInt (ee59))
        have q509 : elm (S150 7) 31 = v61.toInt := (elm_of c152 31).trans (congrArg Int32.toInt (ee62))
        have q510 : elm (S150 7) 30 = v64.toInt := (elm_of c152 30).trans (congrArg Int32.toInt (ee65))
        have q511 : elm (S150 7) 33 = v67.toInt := (elm_of c152 33).trans (congrArg Int32.toInt (ee68))
        have q512 : elm (S150 7) 36 = v70.toInt := (elm_of c152 36).trans (congrArg Int32.toInt (ee71))
        have q513 : elm (S150 7) 38 = v73.toInt := (elm_of c152 38).trans (congrArg Int32.toInt (ee74))
        have q514 : elm (S150 6) 3 = v76.toInt := (elm_of c495 3).trans (congrArg Int32.toInt (ee77))
        exact xri E hr hlk hQ (⟨hI, (up_o o_refl eS150 (by decide)), (by omega), (by omega), (by omega), (by omega), (by omega), (by omega), (by omega), (by omega), (by omega), (by omega), (by omega), (by omega), (by omega), (by omega), (by omega), (by omega), (by omega), (by omega), (by omega), (by omega), ⟨by omega, by omega⟩, ⟨by omega, by omega⟩, ⟨by omega, by omega⟩, ⟨by omega, by omega⟩, ⟨by omega, by omega⟩, ⟨by omega, by omega⟩, ⟨by omega, by omega⟩, ⟨by omega, by omega⟩, (at_tr hAT0 (up_eq (j := 7) eS150 (by decide)) (up_eq (j := 12) eS150 (by decide))), (at_tr hAT1 (up_eq (j := 7) eS150 (by decide)) (up_eq (j := 12) eS150 (by decide))), (at_tr hAT2 (up_eq (j := 7) eS150 (by decide)) (up_eq (j := 12) eS150 (by decide))), (at_tr hAT3 (up_eq (j := 7) eS150 (by decide)) (up_eq (j := 12) eS150 (by decide)))⟩) dX12_shove_37
set_option maxHeartbeats 4000000 in
set_option maxRecDepth 100000 in
theorem gX12_undo_0 (l : Launch) (g : GG) (ad : Nat → Nat) (hD : Dj ad 20) (S : SS) (hI : InvM g ad S) (hq1 : 0 ≤ 12 * elm (S 7) 1 + (-1) * elm (S 7) 0) (hq2 : 0 ≤ 12 * elm (S 7) 3 + (-1) * elm (S 7) 0) (hq3 : 0 ≤ 8 * elm (S 7) 0 + (-1) * elm (S 7) 6) (hq4 : 0 ≤ 3 * elm (S 7) 0 + (-1) * elm (S 7) 8) (hq5 : 0 ≤ 40000 * elm (S 7) 0 + (-1) * elm (S 6) 0) (hq6 : 0 ≤ 12 * elm (S 7) 11 + (-1) * elm (S 7) 10) (hq7 : 0 ≤ 12 * elm (S 7) 13 + (-1) * elm (S 7) 10) (hq8 : 0 ≤ 8 * elm (S 7) 10 + (-1) * elm (S 7) 16) (hq9 : 0 ≤ 3 * elm (S 7) 10 + (-1) * elm (S 7) 18) (hq10 : 0 ≤ 40000 * elm (S 7) 10 + (-1) * elm (S 6) 1) (hq11 : 0 ≤ 12 * elm (S 7) 21 + (-1) * elm (S 7) 20) (hq12 : 0 ≤ 12 * elm (S 7) 23 + (-1) * elm (S 7) 20) (hq13 : 0 ≤ 8 * elm (S 7) 20 + (-1) * elm (S 7) 26) (hq14 : 0 ≤ 3 * elm (S 7) 20 + (-1) * elm (S 7) 28) (hq15 : 0 ≤ 40000 * elm (S 7) 20 + (-1) * elm (S 6) 2) (hq16 : 0 ≤ 12 * elm (S 7) 31 + (-1) * elm (S 7) 30) (hq17 : 0 ≤ 12 * elm (S 7) 33 + (-1) * elm (S 7) 30) (hq18 : 0 ≤ 8 * elm (S 7) 30 + (-1) * elm (S 7) 36) (hq19 : 0 ≤ 3 * elm (S 7) 30 + (-1) * elm (S 7) 38) (hq20 : 0 ≤ 40000 * elm (S 7) 30 + (-1) * elm (S 6) 3) (hq21 : 0 ≤ (-1) * elm (S 7) 9 + 40) (hq22 : 0 ≤ (-1) * elm (S 7) 19 + 40) (hq23 : 0 ≤ (-1) * elm (S 7) 29 + 40) (hq24 : 0 ≤ (-1) * elm (S 7) 39 + 40) (hAT0 : ATp (S 7) (S 12) 0) (hAT1 : ATp (S 7) (S 12) 1) (hAT2 : ATp (S 7) (S 12) 2) (hAT3 : ATp (S 7) (S 12) 3) : Met l yX12_undo (wG (.code yX12_undo cX12_undo 1 (some .int))) (Rm 1) (XPre g ad 20 S [.ref (ad 0)]) (va_Qi (fun r S' => InvM g ad S' ∧ (∀ j, j ∉ ([0, 7] : List Nat) → S' j = S j) ∧ Bd r (-5) (39) ∧ (0 ≤ 12 * elm (S' 7) 1 + (-1) * elm (S' 7) 0) ∧ (0 ≤ 12 * elm (S' 7) 3 + (-1) * elm (S' 7) 0) ∧ (0 ≤ 8 * elm (S' 7) 0 + (-1) * elm (S' 7) 6) ∧ (0 ≤ 3 * elm (S' 7) 0 + (-1) * elm (S' 7) 8) ∧ (0 ≤ 40000 * elm (S' 7) 0 + (-1) * elm (S' 6) 0) ∧ (0 ≤ 12 * elm (S' 7) 11 + (-1) * elm (S' 7) 10) ∧ (0 ≤ 12 * elm (S' 7) 13 + (-1) * elm (S' 7) 10) ∧ (0 ≤ 8 * elm (S' 7) 10 + (-1) * elm (S' 7) 16) ∧ (0 ≤ 3 * elm (S' 7) 10 + (-1) * elm (S' 7) 18) ∧ (0 ≤ 40000 * elm (S' 7) 10 + (-1) * elm (S' 6) 1) ∧ (0 ≤ 12 * elm (S' 7) 21 + (-1) * elm (S' 7) 20) ∧ (0 ≤ 12 * elm (S' 7) 23 + (-1) * elm (S' 7) 20) ∧ (0 ≤ 8 * elm (S' 7) 20 + (-1) * elm (S' 7) 26) ∧ (0 ≤ 3 * elm (S' 7) 20 + (-1) * elm (S' 7) 28) ∧ (0 ≤ 40000 * elm (S' 7) 20 + (-1) * elm (S' 6) 2) ∧ (0 ≤ 12 * elm (S' 7) 31 + (-1) * elm (S' 7) 30) ∧ (0 ≤ 12 * elm (S' 7) 33 + (-1) * elm (S' 7) 30) ∧ (0 ≤ 8 * elm (S' 7) 30 + (-1) * elm (S' 7) 36) ∧ (0 ≤ 3 * elm (S' 7) 30 + (-1) * elm (S' 7) 38) ∧ (0 ≤ 40000 * elm (S' 7) 30 + (-1) * elm (S' 6) 3) ∧ (0 ≤ elm (S 7) 0 + (-1) * elm (S' 7) 0 ∧ 0 ≤ elm (S' 7) 0 + (-1) * elm (S 7) 0) ∧ (0 ≤ elm (S 7) 6 + (-1) * elm (S' 7) 6 ∧ 0 ≤ elm (S' 7) 6 + (-1) * elm (S 7) 6) ∧ (0 ≤ elm (S 7) 10 + (-1) * elm (S' 7) 10 ∧ 0 ≤ elm (S' 7) 10 + (-1) * elm (S 7) 10) ∧ (0 ≤ elm (S 7) 16 + (-1) * elm (S' 7) 16 ∧ 0 ≤ elm (S' 7) 16 + (-1) * elm (S 7) 16) ∧ (0 ≤ elm (S 7) 20 + (-1) * elm (S' 7) 20 ∧ 0 ≤ elm (S' 7) 20 + (-1) * elm (S 7) 20) ∧ (0 ≤ elm (S 7) 26 + (-1) * elm (S' 7) 26 ∧ 0 ≤ elm (S' 7) 26 + (-1) * elm (S 7) 26) ∧ (0 ≤ elm (S 7) 30 + (-1) * elm (S' 7) 30 ∧ 0 ≤ elm (S' 7) 30 + (-1) * elm (S 7) 30) ∧ (0 ≤ elm (S 7) 36 + (-1) * elm (S' 7) 36 ∧ 0 ≤ elm (S' 7) 36 + (-1) * elm (S 7) 36) ∧ (ATp (S' 7) (S' 12) 0) ∧ (ATp (S' 7) (S' 12) 1) ∧ (ATp (S' 7) (S' 12) 2) ∧ (ATp (S' 7) (S' 12) 3)) (QB g ad 20) (FA ad 20)) 0 0 (FA ad 20) := by
  refine xmet cX12_undo "EbbWreckModel" (by decide) rfl (Nat.le_of_ble_eq_true rfl) (fun p e s m below meth c E hr hlk hml hQ ls hl => ?_)
  have hx := E.1
  have hb := E.2.1
  have hs : Sp ad 20 (FA ad 20) := Sp.fa hD
  have hl : lv_has ls 1 [(0, .ref (ad 0))] := hl
  obtain ⟨f1, c2, b3⟩ := invM_7 hI
  obtain ⟨v4, ee5⟩ : ∃ z : Int32, f1 1 = z := ⟨_, rfl⟩
  have b6 : Bd v4 (0) (12) := (by rw [← ee5]; exact b3.2.1 1 (by decide))
  obtain ⟨v7, ee8⟩ : ∃ z : Int32, f1 0 = z := ⟨_, rfl⟩
  have b9 : Bd v7 (0) (12) := (by rw [← ee8]; exact b3.1 0 (by decide))
  obtain ⟨v10, ee11⟩ : ∃ z : Int32, f1 3 = z := ⟨_, rfl⟩
  have b12 : Bd v10 (0) (12) := (by rw [← ee11]; exact b3.2.2.2.1 3 (by decide))
  obtain ⟨v13, ee14⟩ : ∃ z : Int32, f1 6 = z := ⟨_, rfl⟩
  have b15 : Bd v13 (0) (8) := (by rw [← ee14]; exact b3.2.2.2.2.1 6 (by decide))
  obtain ⟨v16, ee17⟩ : ∃ z : Int32, f1 8 = z := ⟨_, rfl⟩
  have b18 : Bd v16 (0) (3) := (by rw [← ee17]; exact b3.2.2.2.2.2.2.1 8 (by decide))
  obtain ⟨f19, c20, b21⟩ := invM_6 hI
  obtain ⟨v22, ee23⟩ : ∃ z : Int32, f19 0 = z := ⟨_, rfl⟩
  have b24 : Bd v22 (0) (40000) := (by rw [← ee23]; exact b21 0)
  obtain ⟨v25, ee26⟩ : ∃ z : Int32, f1 11 = z := ⟨_, rfl⟩
  have b27 : Bd v25 (0) (12) := (by rw [← ee26]; exact b3.2.1 11 (by decide))
  obtain ⟨v28, ee29⟩ : ∃ z : Int32, f1 10 = z := ⟨_, rfl⟩
  have b30 : Bd v28 (0) (12) := (by rw [← ee29]; exact b3.1 10 (by decide))
  obtain ⟨v31, ee32⟩ : ∃ z : Int32, f1 13 = z := ⟨_, rfl⟩
  have b33 : Bd v31 (0) (12) := (by rw [← ee32]; exact b3.2.2.2.1 13 (by decide))
  obtain ⟨v34, ee35⟩ : ∃ z : Int32, f1 16 = z := ⟨_, rfl⟩
  have b36 : Bd v34 (0) (8) := (by rw [← ee35]; exact b3.2.2.2.2.1 16 (by decide))
  obtain ⟨v37, ee38⟩ : ∃ z : Int32, f1 18 = z := ⟨_, rfl⟩
  have b39 : Bd v37 (0) (3) := (by rw [← ee38]; exact b3.2.2.2.2.2.2.1 18 (by decide))
  obtain ⟨v40, ee41⟩ : ∃ z : Int32, f19 1 = z := ⟨_, rfl⟩
  have b42 : Bd v40 (0) (40000) := (by rw [← ee41]; exact b21 1)
  obtain ⟨v43, ee44⟩ : ∃ z : Int32, f1 21 = z := ⟨_, rfl⟩
  have b45 : Bd v43 (0) (12) := (by rw [← ee44]; exact b3.2.1 21 (by decide))
  obtain ⟨v46, ee47⟩ : ∃ z : Int32, f1 20 = z := ⟨_, rfl⟩
  have b48 : Bd v46 (0) (12) := (by rw [← ee47]; exact b3.1 20 (by decide))
  obtain ⟨v49, ee50⟩ : ∃ z : Int32, f1 23 = z := ⟨_, rfl⟩
  have b51 : Bd v49 (0) (12) := (by rw [← ee50]; exact b3.2.2.2.1 23 (by decide))
  obtain ⟨v52, ee53⟩ : ∃ z : Int32, f1 26 = z := ⟨_, rfl⟩
  have b54 : Bd v52 (0) (8) := (by rw [← ee53]; exact b3.2.2.2.2.1 26 (by decide))
  obtain ⟨v55, ee56⟩ : ∃ z : Int32, f1 28 = z := ⟨_, rfl⟩
  have b57 : Bd v55 (0) (3) := (by rw [← ee56]; exact b3.2.2.2.2.2.2.1 28 (by decide))
  obtain ⟨v58, ee59⟩ : ∃ z : Int32, f19 2 = z := ⟨_, rfl⟩
  have b60 : Bd v58 (0) (40000) := (by rw [← ee59]; exact b21 2)
  obtain ⟨v61, ee62⟩ : ∃ z : Int32, f1 31 = z := ⟨_, rfl⟩
  have b63 : Bd v61 (0) (12) := (by rw [← ee62]; exact b3.2.1 31 (by decide))
  obtain ⟨v64, ee65⟩ : ∃ z : Int32, f1 30 = z := ⟨_, rfl⟩
  have b66 : Bd v64 (0) (12) := (by rw [← ee65]; exact b3.1 30 (by decide))
  obtain ⟨v67, ee68⟩ : ∃ z : Int32, f1 33 = z := ⟨_, rfl⟩
  have b69 : Bd v67 (0) (12) := (by rw [← ee68]; exact b3.2.2.2.1 33 (by decide))
  obtain ⟨v70, ee71⟩ : ∃ z : Int32, f1 36 = z := ⟨_, rfl⟩
  have b72 : Bd v70 (0) (8) := (by rw [← ee71]; exact b3.2.2.2.2.1 36 (by decide))
  obtain ⟨v73, ee74⟩ : ∃ z : Int32, f1 38 = z := ⟨_, rfl⟩
  have b75 : Bd v73 (0) (3) := (by rw [← ee74]; exact b3.2.2.2.2.2.2.1 38 (by decide))
  obtain ⟨v76, ee77⟩ : ∃ z : Int32, f19 3 = z := ⟨_, rfl⟩
  have b78 : Bd v76 (0) (40000) := (by rw [← ee77]; exact b21 3)
  obtain ⟨v79, ee80⟩ : ∃ z : Int32, f1 9 = z := ⟨_, rfl⟩
  have b81 : Bd v79 (0) (40) := (by rw [← ee80]; exact b3.2.2.2.2.2.2.2 9 (by decide))
  obtain ⟨v82, ee83⟩ : ∃ z : Int32, f1 19 = z := ⟨_, rfl⟩
  have b84 : Bd v82 (0) (40) := (by rw [← ee83]; exact b3.2.2.2.2.2.2.2 19 (by decide))
  obtain ⟨v85, ee86⟩ : ∃ z : Int32, f1 29 = z := ⟨_, rfl⟩
  have b87 : Bd v85 (0) (40) := (by rw [← ee86]; exact b3.2.2.2.2.2.2.2 29 (by decide))
  obtain ⟨v88, ee89⟩ : ∃ z : Int32, f1 39 = z := ⟨_, rfl⟩
  have b90 : Bd v88 (0) (40) := (by rw [← ee89]; exact b3.2.2.2.2.2.2.2 39 (by decide))
  have q91 : elm (S 7) 1 = v4.toInt := (elm_of c2 1).trans (congrArg Int32.toInt (ee5))
  have q92 : elm (S 7) 0 = v7.toInt := (elm_of c2 0).trans (congrArg Int32.toInt (ee8))
  have q93 : elm (S 7) 3 = v10.toInt := (elm_of c2 3).trans (congrArg Int32.toInt (ee11))
  have q94 : elm (S 7) 6 = v13.toInt := (elm_of c2 6).trans (congrArg Int32.toInt (ee14))
  have q95 : elm (S 7) 8 = v16.toInt := (elm_of c2 8).trans (congrArg Int32.toInt (ee17))
  have q96 : elm (S 6) 0 = v22.toInt := (elm_of c20 0).trans (congrArg Int32.toInt (ee23))
  have q97 : elm (S 7) 11 = v25.toInt := (elm_of c2 11).trans (congrArg Int32.toInt (ee26))
  have q98 : elm (S 7) 10 = v28.toInt := (elm_of c2 10).trans (congrArg Int32.toInt (ee29))
  have q99 : elm (S 7) 13 = v31.toInt := (elm_of c2 13).trans (congrArg Int32.toInt (ee32))
  have q100 : elm (S 7) 16 = v34.toInt := (elm_of c2 16).trans (congrArg Int32.toInt (ee35))
  have q101 : elm (S 7) 18 = v37.toInt := (elm_of c2 18).trans (congrArg Int32.toInt (ee38))
  have q102 : elm (S 6) 1 = v40.toInt := (elm_of c20 1).trans (congrArg Int32.toInt (ee41))
  have q103 : elm (S 7) 21 = v43.toInt := (elm_of c2 21).trans (congrArg Int32.toInt (ee44))
  have q104 : elm (S 7) 20 = v46.toInt := (elm_of c2 20).trans (congrArg Int32.toInt (ee47))
  have q105 : elm (S 7) 23 = v49.toInt := (elm_of c2 23).trans (congrArg Int32.toInt (ee50))
  have q106 : elm (S 7) 26 = v52.toInt := (elm_of c2 26).trans (congrArg Int32.toInt (ee53))
  have q107 : elm (S 7) 28 = v55.toInt := (elm_of c2 28).trans (congrArg Int32.toInt (ee56))
  have q108 : elm (S 6) 2 = v58.toInt := (elm_of c20 2).trans (congrArg Int32.toInt (ee59))
  have q109 : elm (S 7) 31 = v61.toInt := (elm_of c2 31).trans (congrArg Int32.toInt (ee62))
  have q110 : elm (S 7) 30 = v64.toInt := (elm_of c2 30).trans (congrArg Int32.toInt (ee65))
  have q111 : elm (S 7) 33 = v67.toInt := (elm_of c2 33).trans (congrArg Int32.toInt (ee68))
  have q112 : elm (S 7) 36 = v70.toInt := (elm_of c2 36).trans (congrArg Int32.toInt (ee71))
  have q113 : elm (S 7) 38 = v73.toInt := (elm_of c2 38).trans (congrArg Int32.toInt (ee74))
  have q114 : elm (S 6) 3 = v76.toInt := (elm_of c20 3).trans (congrArg Int32.toInt (ee77))
  have q115 : elm (S 7) 9 = v79.toInt := (elm_of c2 9).trans (congrArg Int32.toInt (ee80))
  have q116 : elm (S 7) 19 = v82.toInt := (elm_of c2 19).trans (congrArg Int32.toInt (ee83))
  have q117 : elm (S 7) 29 = v85.toInt := (elm_of c2 29).trans (congrArg Int32.toInt (ee86))
  have q118 : elm (S 7) 39 = v88.toInt := (elm_of c2 39).trans (congrArg Int32.toInt (ee89))
  obtain ⟨f119, c120, b121⟩ := invM_12 hI
  obtain ⟨f122, c123, b124⟩ := invM_9 hI
  refine lv_aload_n hx hb dX12_undo_0 rfl (lv_at hl 0 rfl) ?_
  refine lv_iconst (v := 0) hx hb dX12_undo_1 (by decide) ?_
  obtain ⟨v125, v126, v128, v130, v132, v133, w134, v135, v137, v138, v139, v140, v142, v144, v146, v148, v150, v151, v152, c153, b127, b129, b131, b136, b141, b143, b145, b147, b149⟩ := invM_0 hI
  have c153 : S 0 = .inr (12, [.int v125, .ref (ad 1), .ref (ad 2), .ref (ad 3), .ref (ad 4), .ref (ad 5), .int v126, .int v128, .int v130, .int v132, .int v133, .long w134, .int v135, .int v137, .int v138, .int v139, .ref (ad 6), .ref (ad 7), .ref (ad 8), .ref (ad 9), .ref (ad 10), .ref (ad 11), .ref (ad 12), .ref (ad 13), .ref (ad 14), .ref (ad 15), .int v140, .int v142, .ref (ad 16), .int v144, .int v146, .int v148, .int v150, .int v151, .ref (ad 17), .ref (ad 18), .int v152, .ref (ad 19)]) := c153
  refine xputi E hs hQ 0 (by decide) c153 rfl 0 (by decide) q1468 rfl rfl (Nat.le_of_ble_eq_true rfl) dX12_undo_2 (fun H locs S154 eS154 hQ => ?_)
  have hI := invM_up_0 hI eS154 ⟨0, v126, v128, v130, v132, v133, w134, v135, v137, v138, v139, v140, v142, v144, v146, v148, v150, v151, v152, rfl, b127, b129, b131, b136, b141, b143, b145, b147, b149⟩
  have c155 : S154 0 = .inr (12, [.int 0, .ref (ad 1), .ref (ad 2), .ref (ad 3), .ref (ad 4), .ref (ad 5), .int v126, .int v128, .int v130, .int v132, .int v133, .long w134, .int v135, .int v137, .int v138, .int v139, .ref (ad 6), .ref (ad 7), .ref (ad 8), .ref (ad 9), .ref (ad 10), .ref (ad 11), .ref (ad 12), .ref (ad 13), .ref (ad 14), .ref (ad 15), .int v140, .int v142, .ref (ad 16), .int v144, .int v146, .int v148, .int v150, .int v151, .ref (ad 17), .ref (ad 18), .int v152, .ref (ad 19)]) := up_at eS154 rfl
  refine lv_aload_n hx hb dX12_undo_5 rfl (lv_at hl 0 rfl) ?_
  have c156 : S154 6 = .inl (g.2 0, 5, .inl f19) := (up_ne eS154 (by decide) c20)
  refine xcVi E hs hQ hml hl.1 0 (gX12_isShore_0 l g ad hD S154 hI ) mX12_isShore q1782 (by decide) c155 rfl rfl ⟨(Nat.le_of_ble_eq_true rfl), (Nat.le_of_ble_eq_true rfl)⟩ ⟨(Nat.le_of_ble_eq_true rfl), (Nat.le_of_ble_eq_true rfl)⟩ (Nat.le_of_ble_eq_true rfl) rfl dX12_undo_6 (fun r157 S157 H locs hp157 hQ _ => ?_)
  obtain ⟨rfl, b157, g157_0⟩ := hp157
  have q158 : elm (S154 6) 0 = v22.toInt := (elm_of c156 0).trans (congrArg Int32.toInt (ee23))
  refine lv_if_ne (tgt := 15) hx hb dX12_undo_9 (by decide) (fun k159 => ?_) (fun k159 => ?_)
  · have h160 := ib_ne k159
    have b161 : Bd r157 (1) (1) := rf_nlo b157 (by decide : Bd 0 (0) (0)) h160
    have g162 := g157_0.resolve_left (by omega)
    clear g157_0
    have b163 : Bd v22 (1) (40000) := ⟨by omega, (b24).2⟩
    refine lv_aload_n hx hb dX12_undo_15 rfl (lv_at hl 0 rfl) ?_
    refine xget E hQ 0 (by decide) c155 rfl 17 (by decide) q1485 rfl dX12_undo_16 ?_
    refine lv_bipush (v := 9) hx hb dX12_undo_19 (by decide) ?_
    have c164 : S154 7 = .inl (g.2 0, 50, .inl f1) := (up_ne eS154 (by decide) c2)
    refine xiald E hQ 7 (by decide) c164 (vp_in_lit 9 50 (by decide)) dX12_undo_21 ?_
    refine sb_at (P := fun z => W _ _ _ _ _ _ _ _ _ _ _ _ _ _ _ (F0 _ _ _ (.int z :: _))) (show f1 (9 : Int32).toNatClampNeg = v79 from ee80) ?_
    refine lv_if_ne (tgt := 28) hx hb dX12_undo_22 (by decide) (fun k165 => ?_) (fun k165 => ?_)
    · have h166 := ib_ne k165
      have b167 : Bd v79 (1) (40) := rf_nlo b81 (by decide : Bd 0 (0) (0)) h166
      refine lv_aload_n hx hb dX12_undo_28 rfl (lv_at hl 0 rfl) ?_
      refine xget E hQ 0 (by decide) c155 rfl 17 (by decide) q1485 rfl dX12_undo_29 ?_
      refine lv_bipush (v := 9) hx hb dX12_undo_32 (by decide) ?_
      refine lv_dup2_11 hx hb dX12_undo_34 rfl rfl ?_
      refine xiald E hQ 7 (by decide) c164 (vp_in_lit 9 50 (by decide)) dX12_undo_35 ?_
      refine sb_at (P := fun z => W _ _ _ _ _ _ _ _ _ _ _ _ _ _ _ (F0 _ _ _ (.int z :: _))) (show f1 (9 : Int32).toNatClampNeg = v79 from ee80) ?_
      refine lv_iconst (v := 1) hx hb dX12_undo_36 (by decide) ?_
      refine lv_isub hx hb dX12_undo_37 ?_
      refine lv_topi (fun z168 e169 => ?_)
      have t170 := ib_sub e169 b167 (by decide : Bd 1 (1) (1)) (by decide) (by decide)
      have b171 : Bd z168 (0) (39) := ib_subb t170 b167 (by decide : Bd 1 (1) (1))
      have t170 : z168.toInt = v79.toInt - 1 := fold_sub t170 rfl (by decide)
      refine xiast E hs hQ 7 (by decide) c164 (vp_in_lit 9 50 (by decide)) dX12_undo_38 (fun H locs S172 eS172 hQ => ?_)
      have hI := invM_up_7 hI eS172 ⟨_, rfl, ⟨upd_mn b3.1 (by decide), upd_mn b3.2.1 (by decide), upd_mn b3.2.2.1 (by decide), upd_mn b3.2.2.2.1 (by decide), upd_mn b3.2.2.2.2.1 (by decide), upd_mn b3.2.2.2.2.2.1 (by decide), upd_mn b3.2.2.2.2.2.2.1 (by decide), upd_m b3.2.2.2.2.2.2.2 (ib_wk b171 (by decide) (by decide))⟩⟩
      have b174 : (∀ j, j % 10 = 0 → Bd ((upd f1 (9 : Int32).toNatClampNeg z168) j) (0) (12)) ∧ (∀ j, j % 10 = 1 → Bd ((upd f1 (9 : Int32).toNatClampNeg z168) j) (0) (12)) ∧ (∀ j, j % 10 = 2 → Bd ((upd f1 (9 : Int32).toNatClampNeg z168) j) (0) (6)) ∧ (∀ j, j % 10 = 3 → Bd ((upd f1 (9 : Int32).toNatClampNeg z168) j) (0) (12)) ∧ (∀ j, j % 10 = 6 → Bd ((upd f1 (9 : Int32).toNatClampNeg z168) j) (0) (8)) ∧ (∀ j, j % 10 = 7 → Bd ((upd f1 (9 : Int32).toNatClampNeg z168) j) (0) (6)) ∧ (∀ j, j % 10 = 8 → Bd ((upd f1 (9 : Int32).toNatClampNeg z168) j) (0) (3)) ∧ (∀ j, j % 10 = 9 → Bd ((upd f1 (9 : Int32).toNatClampNeg z168) j) (0) (40)) := ⟨upd_mn b3.1 (by decide), upd_mn b3.2.1 (by decide), upd_mn b3.2.2.1 (by decide), upd_mn b3.2.2.2.1 (by decide), upd_mn b3.2.2.2.2.1 (by decide), upd_mn b3.2.2.2.2.2.1 (by decide), upd_mn b3.2.2.2.2.2.2.1 (by decide), upd_m b3.2.2.2.2.2.2.2 (ib_wk b171 (by decide) (by decide))⟩
      have c173 : S172 7 = .inl (g.2 0, 50, .inl (upd f1 (9 : Int32).toNatClampNeg z168)) := up_at eS172 rfl
      refine lv_aload_n hx hb dX12_undo_39 rfl (lv_at hl 0 rfl) ?_
      have c175 : S172 0 = .inr (12, [.int 0, .ref (ad 1), .ref (ad 2), .ref (ad 3), .ref (ad 4), .ref (ad 5), .int v126, .int v128, .int v130, .int v132, .int v133, .long w134, .int v135, .int v137, .int v138, .int v139, .ref (ad 6), .ref (ad 7), .ref (ad 8), .ref (ad 9), .ref (ad 10), .ref (ad 11), .ref (ad 12), .ref (ad 13), .ref (ad 14), .ref (ad 15), .int v140, .int v142, .ref (ad 16), .int v144, .int v146, .int v148, .int v150, .int v151, .ref (ad 17), .ref (ad 18), .int v152, .ref (ad 19)]) := (up_ne eS172 (by decide) c155)
      refine xget E hQ 0 (by decide) c175 rfl 17 (by decide) q1485 rfl dX12_undo_40 ?_
      refine lv_bipush (v := 9) hx hb dX12_undo_43 (by decide) ?_
      refine xiald E hQ 7 (by decide) c173 (vp_in_lit 9 50 (by decide)) dX12_undo_45 ?_
      refine sb_at (P := fun z => W _ _ _ _ _ _ _ _ _ _ _ _ _ _ _ (F0 _ _ _ (.int z :: _))) (show (upd f1 (9 : Int32).toNatClampNeg z168) (9 : Int32).toNatClampNeg = z168 from (upd_s)) ?_
      have q176 : elm (S172 7) 1 = v4.toInt := (elm_of c173 1).trans (congrArg Int32.toInt (((upd_o (by decide)).trans (ee5))))
      have q177 : elm (S172 7) 0 = v7.toInt := (elm_of c173 0).trans (congrArg Int32.toInt (((upd_o (by decide)).trans (ee8))))
      have q178 : elm (S172 7) 3 = v10.toInt := (elm_of c173 3).trans (congrArg Int32.toInt (((upd_o (by decide)).trans (ee11))))
      have q179 : elm (S172 7) 6 = v13.toInt := (elm_of c173 6).trans (congrArg Int32.toInt (((upd_o (by decide)).trans (ee14))))
      have q180 : elm (S172 7) 8 = v16.toInt := (elm_of c173 8).trans (congrArg Int32.toInt (((upd_o (by decide)).trans (ee17))))
      have c181 : S172 6 = .inl (g.2 0, 5, .inl f19) := (up_ne eS172 (by decide) c156)
      have q182 : elm (S172 6) 0 = v22.toInt := (elm_of c181 0).trans (congrArg Int32.toInt (ee23))
      have q183 : elm (S172 7) 11 = v25.toInt := (elm_of c173 11).trans (congrArg Int32.toInt (((upd_o (by decide)).trans (ee26))))
      have q184 : elm (S172 7) 10 = v28.toInt := (elm_of c173 10).trans (congrArg Int32.toInt (((upd_o (by decide)).trans (ee29))))
      have q185 : elm (S172 7) 13 = v31.toInt := (elm_of c173 13).trans (congrArg Int32.toInt (((upd_o (by decide)).trans (ee32))))
      have q186 : elm (S172 7) 16 = v34.toInt := (elm_of c173 16).trans (congrArg Int32.toInt (((upd_o (by decide)).trans (ee35))))
      have q187 : elm (S172 7) 18 = v37.toInt := (elm_of c173 18).trans (congrArg Int32.toInt (((upd_o (by decide)).trans (ee38))))
      have q188 : elm (S172 6) 1 = v40.toInt := (elm_of c181 1).trans (congrArg Int32.toInt (ee41))
      have q189 : elm (S172 7) 21 = v43.toInt := (elm_of c173 21).trans (congrArg Int32.toInt (((upd_o (by decide)).trans (ee44))))
      have q190 : elm (S172 7) 20 = v46.toInt := (elm_of c173 20).trans (congrArg Int32.toInt (((upd_o (by decide)).trans (ee47))))
      have q191 : elm (S172 7) 23 = v49.toInt := (elm_of c173 23).trans (congrArg Int32.toInt (((upd_o (by decide)).trans (ee50))))
      have q192 : elm (S172 7) 26 = v52.toInt := (elm_of c173 26).trans (congrArg Int32.toInt (((upd_o (by decide)).trans (ee53))))
      have q193 : elm (S172 7) 28 = v55.toInt := (elm_of c173 28).trans (congrArg Int32.toInt (((upd_o (by decide)).trans (ee56))))
      have q194 : elm (S172 6) 2 = v58.toInt := (elm_of c181 2).trans (congrArg Int32.toInt (ee59))
      have q195 : elm (S172 7) 31 = v61.toInt := (elm_of c173 31).trans (congrArg Int32.toInt (((upd_o (by decide)).trans (ee62))))
      have q196 : elm (S172 7) 30 = v64.toInt := (elm_of c173 30).trans (congrArg Int32.toInt (((upd_o (by decide)).trans (ee65))))
      have q197 : elm (S172 7) 33 = v67.toInt := (elm_of c173 33).trans (congrArg Int32.toInt (((upd_o (by decide)).trans (ee68))))
      have q198 : elm (S172 7) 36 = v70.toInt := (elm_of c173 36).trans (congrArg Int32.toInt (((upd_o (by decide)).trans (ee71))))
      have q199 : elm (S172 7) 38 = v73.toInt := (elm_of c173 38).trans (congrArg Int32.toInt (((upd_o (by decide)).trans (ee74))))
      have q200 : elm (S172 6) 3 = v76.toInt := (elm_of c181 3).trans (congrArg Int32.toInt (ee77))
      have q201 : elm (S172 7) 9 = z168.toInt := (elm_of c173 9).trans (congrArg Int32.toInt ((upd_s)))
      have q202 : elm (S172 7) 19 = v82.toInt := (elm_of c173 19).trans (congrArg Int32.toInt (((upd_o (by decide)).trans (ee83))))
      have q203 : elm (S172 7) 29 = v85.toInt := (elm_of c173 29).trans (congrArg Int32.toInt (((upd_o (by decide)).trans (ee86))))
      have q204 : elm (S172 7) 39 = v88.toInt := (elm_of c173 39).trans (congrArg Int32.toInt (((upd_o (by decide)).trans (ee89))))
      exact xri E hr hlk hQ (⟨hI, (up_o (up_o o_refl eS154 (by decide)) eS172 (by decide)), (ib_wk b171 (by decide) (by decide)), (by omega), (by omega), (by omega), (by omega), (by omega), (by omega), (by omega), (by omega), (by omega), (by omega), (by omega), (by omega), (by omega), (by omega), (by omega), (by omega), (by omega), (by omega), (by omega), (by omega), ⟨by omega, by omega⟩, ⟨by omega, by omega⟩, ⟨by omega, by omega⟩, ⟨by omega, by omega⟩, ⟨by omega, by omega⟩, ⟨by omega, by omega⟩, ⟨by omega, by omega⟩, ⟨by omega, by omega⟩, (at_mono hAT0 (by show elm _ 9 ≤ elm _ 9; omega) ((up_eq (j := 12) eS172 (by decide)).trans (up_eq (j := 12) eS154 (by decide)))), (at_mono hAT1 (by show elm _ 19 ≤ elm _ 19; omega) ((up_eq (j := 12) eS172 (by decide)).trans (up_eq (j := 12) eS154 (by decide)))), (at_mono hAT2 (by show elm _ 29 ≤ elm _ 29; omega) ((up_eq (j := 12) eS172 (by decide)).trans (up_eq (j := 12) eS154 (by decide)))), (at_mono hAT3 (by show elm _ 39 ≤ elm _ 39; omega) ((up_eq (j := 12) eS172 (by decide)).trans (up_eq (j := 12) eS154 (by decide))))⟩) dX12_undo_46
    · have h205 := ib_eq k165
      have b206 : Bd v79 (0) (0) := ⟨(b81).1, ((rf_eq b81 (by decide : Bd 0 (0) (0)) h205).1).2⟩
      refine lv_bipush (v := (-5)) hx hb dX12_undo_25 (by decide) ?_
      have q207 : elm (S154 7) 1 = v4.toInt := (elm_of c164 1).trans (congrArg Int32.toInt (ee5))
      have q208 : elm (S154 7) 0 = v7.toInt := (elm_of c164 0).trans (congrArg Int32.toInt (ee8))
      have q209 : elm (S154 7) 3 = v10.toInt := (elm_of c164 3).trans (congrArg Int32.toInt (ee11))
      have q210 : elm (S154 7) 6 = v13.toInt := (elm_of c164 6).trans (congrArg Int32.toInt (ee14))
      have q211 : elm (S154 7) 8 = v16.toInt := (elm_of c164 8).trans (congrArg Int32.toInt (ee17))
      have q212 : elm (S154 7) 11 = v25.toInt := (elm_of c164 11).trans (congrArg Int32.toInt (ee26))
      have q213 : elm (S154 7) 10 = v28.toInt := (elm_of c164 10).trans (congrArg Int32.toInt (ee29))
      have q214 : elm (S154 7) 13 = v31.toInt := (elm_of c164 13).trans (congrArg Int32.toInt (ee32))
      have q215 : elm (S154 7) 16 = v34.toInt := (elm_of c164 16).trans (congrArg Int32.toInt (ee35))
      have q216 : elm (S154 7) 18 = v37.toInt := (elm_of c164 18).trans (congrArg Int32.toInt (ee38))
      have q217 : elm (S154 6) 1 = v40.toInt := (elm_of c156 1).trans (congrArg Int32.toInt (ee41))
      have q218 : elm (S154 7) 21 = v43.toInt := (elm_of c164 21).trans (congrArg Int32.toInt (ee44))
      have q219 : elm (S154 7) 20 = v46.toInt := (elm_of c164 20).trans (congrArg Int32.toInt (ee47))
      have q220 : elm (S154 7) 23 = v49.toInt := (elm_of c164 23).trans (congrArg Int32.toInt (ee50))
      have q221 : elm (S154 7) 26 = v52.toInt := (elm_of c164 26).trans (congrArg Int32.toInt (ee53))
      have q222 : elm (S154 7) 28 = v55.toInt := (elm_of c164 28).trans (congrArg Int32.toInt (ee56))
      have q223 : elm (S154 6) 2 = v58.toInt := (elm_of c156 2).trans (congrArg Int32.toInt (ee59))
      have q224 : elm (S154 7) 31 = v61.toInt := (elm_of c164 31).trans (congrArg Int32.toInt (ee62))
      have q225 : elm (S154 7) 30 = v64.toInt := (elm_of c164 30).trans (congrArg Int32.toInt (ee65))
      have q226 : elm (S154 7) 33 = v67.toInt := (elm_of c164 33).trans (congrArg Int32.toInt (ee68))
      have q227 : elm (S154 7) 36 = v70.toInt := (elm_of c164 36).trans (congrArg Int32.toInt (ee71))
      have q228 : elm (S154 7) 38 = v73.toInt := (elm_of c164 38).trans (congrArg Int32.toInt (ee74))
      have q229 : elm (S154 6) 3 = v76.toInt := (elm_of c156 3).trans (congrArg Int32.toInt (ee77))
      exact xri E hr hlk hQ (⟨hI, (up_o o_refl eS154 (by decide)), (ib_wk (by decide : Bd (-5) (-5) (-5)) (by decide) (by decide)), (by omega), (by omega), (by omega), (by omega), (by omega), (by omega), (by omega), (by omega), (by omega), (by omega), (by omega), (by omega), (by omega), (by omega), (by omega), (by omega), (by omega), (by omega), (by omega), (by omega), ⟨by omega, by omega⟩, ⟨by omega, by omega⟩, ⟨by omega, by omega⟩, ⟨by omega, by omega⟩, ⟨by omega, by omega⟩, ⟨by omega, by omega⟩, ⟨by omega, by omega⟩, ⟨by omega, by omega⟩, (at_tr hAT0 (up_eq (j := 7) eS154 (by decide)) (up_eq (j := 12) eS154 (by decide))), (at_tr hAT1 (up_eq (j := 7) eS154 (by decide)) (up_eq (j := 12) eS154 (by decide))), (at_tr hAT2 (up_eq (j := 7) eS154 (by decide)) (up_eq (j := 12) eS154 (by decide))), (at_tr hAT3 (up_eq (j := 7) eS154 (by decide)) (up_eq (j := 12) eS154 (by decide)))⟩) dX12_undo_27
  · have h230 := ib_eq k159
    have b231 : Bd r157 (0) (0) := ⟨(b157).1, ((rf_eq b157 (by decide : Bd 0 (0) (0)) h230).1).2⟩
    clear g157_0
    refine lv_bipush (v := (-2)) hx hb dX12_undo_12 (by decide) ?_
    have c232 : S154 7 = .inl (g.2 0, 50, .inl f1) := (up_ne eS154 (by decide) c2)
    have q233 : elm (S154 7) 1 = v4.toInt := (elm_of c232 1).trans (congrArg Int32.toInt (ee5))
    have q234 : elm (S154 7) 0 = v7.toInt := (elm_of c232 0).trans (congrArg Int32.toInt (ee8))
    have q235 : elm (S154 7) 3 = v10.toInt := (elm_of c232 3).trans (congrArg Int32.toInt (ee11))
    have q236 : elm (S154 7) 6 = v13.toInt := (elm_of c232 6).trans (congrArg Int32.toInt (ee14))
    have q237 : elm (S154 7) 8 = v16.toInt := (elm_of c232 8).trans (congrArg Int32.toInt (ee17))
    have q238 : elm (S154 7) 11 = v25.toInt := (elm_of c232 11).trans (congrArg Int32.toInt (ee26))
    have q239 : elm (S154 7) 10 = v28.toInt := (elm_of c232 10).trans (congrArg Int32.toInt (ee29))
    have q240 : elm (S154 7) 13 = v31.toInt := (elm_of c232 13).trans (congrArg Int32.toInt (ee32))
    have q241 : elm (S154 7) 16 = v34.toInt := (elm_of c232 16).trans (congrArg Int32.toInt (ee35))
    have q242 : elm (S154 7) 18 = v37.toInt := (elm_of c232 18).trans (congrArg Int32.toInt (ee38))
    have q243 : elm (S154 6) 1 = v40.toInt := (elm_of c156 1).trans (congrArg Int32.toInt (ee41))
    have q244 : elm (S154 7) 21 = v43.toInt := (elm_of c232 21).trans (congrArg Int32.toInt (ee44))
    have q245 : elm (S154 7) 20 = v46.toInt := (elm_of c232 20).trans (congrArg Int32.toInt (ee47))
    have q246 : elm (S154 7) 23 = v49.toInt := (elm_of c232 23).trans (congrArg Int32.toInt (ee50))
    have q247 : elm (S154 7) 26 = v52.toInt := (elm_of c232 26).trans (congrArg Int32.toInt (ee53))
    have q248 : elm (S154 7) 28 = v55.toInt := (elm_of c232 28).trans (congrArg Int32.toInt (ee56))
    have q249 : elm (S154 6) 2 = v58.toInt := (elm_of c156 2).trans (congrArg Int32.toInt (ee59))
    have q250 : elm (S154 7) 31 = v61.toInt := (elm_of c232 31).trans (congrArg Int32.toInt (ee62))
    have q251 : elm (S154 7) 30 = v64.toInt := (elm_of c232 30).trans (congrArg Int32.toInt (ee65))
    have q252 : elm (S154 7) 33 = v67.toInt := (elm_of c232 33).trans (congrArg Int32.toInt (ee68))
    have q253 : elm (S154 7) 36 = v70.toInt := (elm_of c232 36).trans (congrArg Int32.toInt (ee71))
    have q254 : elm (S154 7) 38 = v73.toInt := (elm_of c232 38).trans (congrArg Int32.toInt (ee74))
    have q255 : elm (S154 6) 3 = v76.toInt := (elm_of c156 3).trans (congrArg Int32.toInt (ee77))
    exact xri E hr hlk hQ (⟨hI, (up_o o_refl eS154 (by decide)), (ib_wk (by decide : Bd (-2) (-2) (-2)) (by decide) (by decide)), (by omega), (by omega), (by omega), (by omega), (by omega), (by omega), (by omega), (by omega), (by omega), (by omega), (by omega), (by omega), (by omega), (by omega), (by omega), (by omega), (by omega), (by omega), (by omega), (by omega), ⟨by omega, by omega⟩, ⟨by omega, by omega⟩, ⟨by omega, by omega⟩, ⟨by omega, by omega⟩, ⟨by omega, by omega⟩, ⟨by omega, by omega⟩, ⟨by omega, by omega⟩, ⟨by omega, by omega⟩, (at_tr hAT0 (up_eq (j := 7) eS154 (by decide)) (up_eq (j := 12) eS154 (by decide))), (at_tr hAT1 (up_eq (j := 7) eS154 (by decide)) (up_eq (j := 12) eS154 (by decide))), (at_tr hAT2 (up_eq (j := 7) eS154 (by decide)) (up_eq (j := 12) eS154 (by decide))), (at_tr hAT3 (up_eq (j := 7) eS154 (by decide)) (up_eq (j := 12) eS154 (by decide)))⟩) dX12_undo_14
set_option maxHeartbeats 4000000 in
set_option maxRecDepth 100000 in
theorem gX12_anew_0 (l : Launch) (g : GG) (ad : Nat → Nat) (hD : Dj ad 20) (S : SS) (hI : InvM g ad S) (hq1 : 0 ≤ 12 * elm (S 7) 1 + (-1) * elm (S 7) 0) (hq2 : 0 ≤ 12 * elm (S 7) 3 + (-1) * elm (S 7) 0) (hq3 : 0 ≤ 8 * elm (S 7) 0 + (-1) * elm (S 7) 6) (hq4 : 0 ≤ 3 * elm (S 7) 0 + (-1) * elm (S 7) 8) (hq5 : 0 ≤ 40000 * elm (S 7) 0 + (-1) * elm (S 6) 0) (hq6 : 0 ≤ 12 * elm (S 7) 11 + (-1) * elm (S 7) 10) (hq7 : 0 ≤ 12 * elm (S 7) 13 + (-1) * elm (S 7) 10) (hq8 : 0 ≤ 8 * elm (S 7) 10 + (-1) * elm (S 7) 16) (hq9 : 0 ≤ 3 * elm (S 7) 10 + (-1) * elm (S 7) 18) (hq10 : 0 ≤ 40000 * elm (S 7) 10 + (-1) * elm (S 6) 1) (hq11 : 0 ≤ 12 * elm (S 7) 21 + (-1) * elm (S 7) 20) (hq12 : 0 ≤ 12 * elm (S 7) 23 + (-1) * elm (S 7) 20) (hq13 : 0 ≤ 8 * elm (S 7) 20 + (-1) * elm (S 7) 26) (hq14 : 0 ≤ 3 * elm (S 7) 20 + (-1) * elm (S 7) 28) (hq15 : 0 ≤ 40000 * elm (S 7) 20 + (-1) * elm (S 6) 2) (hq16 : 0 ≤ 12 * elm (S 7) 31 + (-1) * elm (S 7) 30) (hq17 : 0 ≤ 12 * elm (S 7) 33 + (-1) * elm (S 7) 30) (hq18 : 0 ≤ 8 * elm (S 7) 30 + (-1) * elm (S 7) 36) (hq19 : 0 ≤ 3 * elm (S 7) 30 + (-1) * elm (S 7) 38) (hq20 : 0 ≤ 40000 * elm (S 7) 30 + (-1) * elm (S 6) 3) (hq21 : 0 ≤ (-1) * elm (S 7) 9 + 40) (hq22 : 0 ≤ (-1) * elm (S 7) 19 + 40) (hq23 : 0 ≤ (-1) * elm (S 7) 29 + 40) (hq24 : 0 ≤ (-1) * elm (S 7) 39 + 40) (hAT0 : ATp (S 7) (S 12) 0) (hAT1 : ATp (S 7) (S 12) 1) (hAT2 : ATp (S 7) (S 12) 2) (hAT3 : ATp (S 7) (S 12) 3) : Met l yX12_anew (wG (.code yX12_anew cX12_anew 2 (some .int))) (Rm 1) (XPre g ad 20 S [.ref (ad 0)]) (va_Qi (fun r S' => InvM g ad S' ∧ (∀ j, j ∉ ([0, 7] : List Nat) → S' j = S j) ∧ Bd r (-2) (40) ∧ (0 ≤ 12 * elm (S' 7) 1 + (-1) * elm (S' 7) 0) ∧ (0 ≤ 12 * elm (S' 7) 3 + (-1) * elm (S' 7) 0) ∧ (0 ≤ 8 * elm (S' 7) 0 + (-1) * elm (S' 7) 6) ∧ (0 ≤ 3 * elm (S' 7) 0 + (-1) * elm (S' 7) 8) ∧ (0 ≤ 40000 * elm (S' 7) 0 + (-1) * elm (S' 6) 0) ∧ (0 ≤ 12 * elm (S' 7) 11 + (-1) * elm (S' 7) 10) ∧ (0 ≤ 12 * elm (S' 7) 13 + (-1) * elm (S' 7) 10) ∧ (0 ≤ 8 * elm (S' 7) 10 + (-1) * elm (S' 7) 16) ∧ (0 ≤ 3 * elm (S' 7) 10 + (-1) * elm (S' 7) 18) ∧ (0 ≤ 40000 * elm (S' 7) 10 + (-1) * elm (S' 6) 1) ∧ (0 ≤ 12 * elm (S' 7) 21 + (-1) * elm (S' 7) 20) ∧ (0 ≤ 12 * elm (S' 7) 23 + (-1) * elm (S' 7) 20) ∧ (0 ≤ 8 * elm (S' 7) 20 + (-1) * elm (S' 7) 26) ∧ (0 ≤ 3 * elm (S' 7) 20 + (-1) * elm (S' 7) 28) ∧ (0 ≤ 40000 * elm (S' 7) 20 + (-1) * elm (S' 6) 2) ∧ (0 ≤ 12 * elm (S' 7) 31 + (-1) * elm (S' 7) 30) ∧ (0 ≤ 12 * elm (S' 7) 33 + (-1) * elm (S' 7) 30) ∧ (0 ≤ 8 * elm (S' 7) 30 + (-1) * elm (S' 7) 36) ∧ (0 ≤ 3 * elm (S' 7) 30 + (-1) * elm (S' 7) 38) ∧ (0 ≤ 40000 * elm (S' 7) 30 + (-1) * elm (S' 6) 3) ∧ (0 ≤ elm (S 7) 0 + (-1) * elm (S' 7) 0 ∧ 0 ≤ elm (S' 7) 0 + (-1) * elm (S 7) 0) ∧ (0 ≤ elm (S 7) 6 + (-1) * elm (S' 7) 6 ∧ 0 ≤ elm (S' 7) 6 + (-1) * elm (S 7) 6) ∧ (0 ≤ elm (S 7) 10 + (-1) * elm (S' 7) 10 ∧ 0 ≤ elm (S' 7) 10 + (-1) * elm (S 7) 10) ∧ (0 ≤ elm (S 7) 16 + (-1) * elm (S' 7) 16 ∧ 0 ≤ elm (S' 7) 16 + (-1) * elm (S 7) 16) ∧ (0 ≤ elm (S 7) 20 + (-1) * elm (S' 7) 20 ∧ 0 ≤ elm (S' 7) 20 + (-1) * elm (S 7) 20) ∧ (0 ≤ elm (S 7) 26 + (-1) * elm (S' 7) 26 ∧ 0 ≤ elm (S' 7) 26 + (-1) * elm (S 7) 26) ∧ (0 ≤ elm (S 7) 30 + (-1) * elm (S' 7) 30 ∧ 0 ≤ elm (S' 7) 30 + (-1) * elm (S 7) 30) ∧ (0 ≤ elm (S 7) 36 + (-1) * elm (S' 7) 36 ∧ 0 ≤ elm (S' 7) 36 + (-1) * elm (S 7) 36) ∧ (ATp (S' 7) (S' 12) 0) ∧ (ATp (S' 7) (S' 12) 1) ∧ (ATp (S' 7) (S' 12) 2) ∧ (ATp (S' 7) (S' 12) 3)) (QB g ad 20) (FA ad 20)) 0 0 (FA ad 20) := by
  refine xmet cX12_anew "EbbWreckModel" (by decide) rfl (Nat.le_of_ble_eq_true rfl) (fun p e s m below meth c E hr hlk hml hQ ls hl => ?_)
  have hx := E.1
  have hb := E.2.1
  have hs : Sp ad 20 (FA ad 20) := Sp.fa hD
  have hl : lv_has ls 2 [(0, .ref (ad 0))] := hl
  obtain ⟨f1, c2, b3⟩ := invM_7 hI
  obtain ⟨v4, ee5⟩ : ∃ z : Int32, f1 1 = z := ⟨_, rfl⟩
  have b6 : Bd v4 (0) (12) := (by rw [← ee5]; exact b3.2.1 1 (by decide))
  obtain ⟨v7, ee8⟩ : ∃ z : Int32, f1 0 = z := ⟨_, rfl⟩
  have b9 : Bd v7 (0) (12) := (by rw [← ee8]; exact b3.1 0 (by decide))
  obtain ⟨v10, ee11⟩ : ∃ z : Int32, f1 3 = z := ⟨_, rfl⟩
  have b12 : Bd v10 (0) (12) := (by rw [← ee11]; exact b3.2.2.2.1 3 (by decide))
  obtain ⟨v13, ee14⟩ : ∃ z : Int32, f1 6 = z := ⟨_, rfl⟩
  have b15 : Bd v13 (0) (8) := (by rw [← ee14]; exact b3.2.2.2.2.1 6 (by decide))
  obtain ⟨v16, ee17⟩ : ∃ z : Int32, f1 8 = z := ⟨_, rfl⟩
  have b18 : Bd v16 (0) (3) := (by rw [← ee17]; exact b3.2.2.2.2.2.2.1 8 (by decide))
  obtain ⟨f19, c20, b21⟩ := invM_6 hI
  obtain ⟨v22, ee23⟩ : ∃ z : Int32, f19 0 = z := ⟨_, rfl⟩
  have b24 : Bd v22 (0) (40000) := (by rw [← ee23]; exact b21 0)
  obtain ⟨v25, ee26⟩ : ∃ z : Int32, f1 11 = z := ⟨_, rfl⟩
  have b27 : Bd v25 (0) (12) := (by rw [← ee26]; exact b3.2.1 11 (by decide))
  obtain ⟨v28, ee29⟩ : ∃ z : Int32, f1 10 = z := ⟨_, rfl⟩
  have b30 : Bd v28 (0) (12) := (by rw [← ee29]; exact b3.1 10 (by decide))
  obtain ⟨v31, ee32⟩ : ∃ z : Int32, f1 13 = z := ⟨_, rfl⟩
  have b33 : Bd v31 (0) (12) := (by rw [← ee32]; exact b3.2.2.2.1 13 (by decide))
  obtain ⟨v34, ee35⟩ : ∃ z : Int32, f1 16 = z := ⟨_, rfl⟩
  have b36 : Bd v34 (0) (8) := (by rw [← ee35]; exact b3.2.2.2.2.1 16 (by decide))
  obtain ⟨v37, ee38⟩ : ∃ z : Int32, f1 18 = z := ⟨_, rfl⟩
  have b39 : Bd v37 (0) (3) := (by rw [← ee38]; exact b3.2.2.2.2.2.2.1 18 (by decide))
  obtain ⟨v40, ee41⟩ : ∃ z : Int32, f19 1 = z := ⟨_, rfl⟩
  have b42 : Bd v40 (0) (40000) := (by rw [← ee41]; exact b21 1)
  obtain ⟨v43, ee44⟩ : ∃ z : Int32, f1 21 = z := ⟨_, rfl⟩
  have b45 : Bd v43 (0) (12) := (by rw [← ee44]; exact b3.2.1 21 (by decide))
  obtain ⟨v46, ee47⟩ : ∃ z : Int32, f1 20 = z := ⟨_, rfl⟩
  have b48 : Bd v46 (0) (12) := (by rw [← ee47]; exact b3.1 20 (by decide))
  obtain ⟨v49, ee50⟩ : ∃ z : Int32, f1 23 = z := ⟨_, rfl⟩
  have b51 : Bd v49 (0) (12) := (by rw [← ee50]; exact b3.2.2.2.1 23 (by decide))
  obtain ⟨v52, ee53⟩ : ∃ z : Int32, f1 26 = z := ⟨_, rfl⟩
  have b54 : Bd v52 (0) (8) := (by rw [← ee53]; exact b3.2.2.2.2.1 26 (by decide))
  obtain ⟨v55, ee56⟩ : ∃ z : Int32, f1 28 = z := ⟨_, rfl⟩
  have b57 : Bd v55 (0) (3) := (by rw [← ee56]; exact b3.2.2.2.2.2.2.1 28 (by decide))
  obtain ⟨v58, ee59⟩ : ∃ z : Int32, f19 2 = z := ⟨_, rfl⟩
  have b60 : Bd v58 (0) (40000) := (by rw [← ee59]; exact b21 2)
  obtain ⟨v61, ee62⟩ : ∃ z : Int32, f1 31 = z := ⟨_, rfl⟩
  have b63 : Bd v61 (0) (12) := (by rw [← ee62]; exact b3.2.1 31 (by decide))
  obtain ⟨v64, ee65⟩ : ∃ z : Int32, f1 30 = z := ⟨_, rfl⟩
  have b66 : Bd v64 (0) (12) := (by rw [← ee65]; exact b3.1 30 (by decide))
  obtain ⟨v67, ee68⟩ : ∃ z : Int32, f1 33 = z := ⟨_, rfl⟩
  have b69 : Bd v67 (0) (12) := (by rw [← ee68]; exact b3.2.2.2.1 33 (by decide))
  obtain ⟨v70, ee71⟩ : ∃ z : Int32, f1 36 = z := ⟨_, rfl⟩
  have b72 : Bd v70 (0) (8) := (by rw [← ee71]; exact b3.2.2.2.2.1 36 (by decide))
  obtain ⟨v73, ee74⟩ : ∃ z : Int32, f1 38 = z := ⟨_, rfl⟩
  have b75 : Bd v73 (0) (3) := (by rw [← ee74]; exact b3.2.2.2.2.2.2.1 38 (by decide))
  obtain ⟨v76, ee77⟩ : ∃ z : Int32, f19 3 = z := ⟨_, rfl⟩
  have b78 : Bd v76 (0) (40000) := (by rw [← ee77]; exact b21 3)
  obtain ⟨v79, ee80⟩ : ∃ z : Int32, f1 9 = z := ⟨_, rfl⟩
  have b81 : Bd v79 (0) (40) := (by rw [← ee80]; exact b3.2.2.2.2.2.2.2 9 (by decide))
  obtain ⟨v82, ee83⟩ : ∃ z : Int32, f1 19 = z := ⟨_, rfl⟩
  have b84 : Bd v82 (0) (40) := (by rw [← ee83]; exact b3.2.2.2.2.2.2.2 19 (by decide))
  obtain ⟨v85, ee86⟩ : ∃ z : Int32, f1 29 = z := ⟨_, rfl⟩
  have b87 : Bd v85 (0) (40) := (by rw [← ee86]; exact b3.2.2.2.2.2.2.2 29 (by decide))
  obtain ⟨v88, ee89⟩ : ∃ z : Int32, f1 39 = z := ⟨_, rfl⟩
  have b90 : Bd v88 (0) (40) := (by rw [← ee89]; exact b3.2.2.2.2.2.2.2 39 (by decide))
  have q91 : elm (S 7) 1 = v4.toInt := (elm_of c2 1).trans (congrArg Int32.toInt (ee5))
  have q92 : elm (S 7) 0 = v7.toInt := (elm_of c2 0).trans (congrArg Int32.toInt (ee8))
  have q93 : elm (S 7) 3 = v10.toInt := (elm_of c2 3).trans (congrArg Int32.toInt (ee11))
  have q94 : elm (S 7) 6 = v13.toInt := (elm_of c2 6).trans (congrArg Int32.toInt (ee14))
  have q95 : elm (S 7) 8 = v16.toInt := (elm_of c2 8).trans (congrArg Int32.toInt (ee17))
  have q96 : elm (S 6) 0 = v22.toInt := (elm_of c20 0).trans (congrArg Int32.toInt (ee23))
  have q97 : elm (S 7) 11 = v25.toInt := (elm_of c2 11).trans (congrArg Int32.toInt (ee26))
  have q98 : elm (S 7) 10 = v28.toInt := (elm_of c2 10).trans (congrArg Int32.toInt (ee29))
  have q99 : elm (S 7) 13 = v31.toInt := (elm_of c2 13).trans (congrArg Int32.toInt (ee32))
  have q100 : elm (S 7) 16 = v34.toInt := (elm_of c2 16).trans (congrArg Int32.toInt (ee35))
  have q101 : elm (S 7) 18 = v37.toInt := (elm_of c2 18).trans (congrArg Int32.toInt (ee38))
  have q102 : elm (S 6) 1 = v40.toInt := (elm_of c20 1).trans (congrArg Int32.toInt (ee41))
  have q103 : elm (S 7) 21 = v43.toInt := (elm_of c2 21).trans (congrArg Int32.toInt (ee44))
  have q104 : elm (S 7) 20 = v46.toInt := (elm_of c2 20).trans (congrArg Int32.toInt (ee47))
  have q105 : elm (S 7) 23 = v49.toInt := (elm_of c2 23).trans (congrArg Int32.toInt (ee50))
  have q106 : elm (S 7) 26 = v52.toInt := (elm_of c2 26).trans (congrArg Int32.toInt (ee53))
  have q107 : elm (S 7) 28 = v55.toInt := (elm_of c2 28).trans (congrArg Int32.toInt (ee56))
  have q108 : elm (S 6) 2 = v58.toInt := (elm_of c20 2).trans (congrArg Int32.toInt (ee59))
  have q109 : elm (S 7) 31 = v61.toInt := (elm_of c2 31).trans (congrArg Int32.toInt (ee62))
  have q110 : elm (S 7) 30 = v64.toInt := (elm_of c2 30).trans (congrArg Int32.toInt (ee65))
  have q111 : elm (S 7) 33 = v67.toInt := (elm_of c2 33).trans (congrArg Int32.toInt (ee68))
  have q112 : elm (S 7) 36 = v70.toInt := (elm_of c2 36).trans (congrArg Int32.toInt (ee71))
  have q113 : elm (S 7) 38 = v73.toInt := (elm_of c2 38).trans (congrArg Int32.toInt (ee74))
  have q114 : elm (S 6) 3 = v76.toInt := (elm_of c20 3).trans (congrArg Int32.toInt (ee77))
  have q115 : elm (S 7) 9 = v79.toInt := (elm_of c2 9).trans (congrArg Int32.toInt (ee80))
  have q116 : elm (S 7) 19 = v82.toInt := (elm_of c2 19).trans (congrArg Int32.toInt (ee83))
  have q117 : elm (S 7) 29 = v85.toInt := (elm_of c2 29).trans (congrArg Int32.toInt (ee86))
  have q118 : elm (S 7) 39 = v88.toInt := (elm_of c2 39).trans (congrArg Int32.toInt (ee89))
  obtain ⟨f119, c120, b121⟩ := invM_12 hI
  obtain ⟨f122, c123, b124⟩ := invM_9 hI
  refine lv_aload_n hx hb dX12_anew_0 rfl (lv_at hl 0 rfl) ?_
  refine lv_iconst (v := 0) hx hb dX12_anew_1 (by decide) ?_
  obtain ⟨v125, v126, v128, v130, v132, v133, w134, v135, v137, v138, v139, v140, v142, v144, v146, v148, v150, v151, v152, c153, b127, b129, b131, b136, b141, b143, b145, b147, b149⟩ := invM_0 hI
  have c153 : S 0 = .inr (12, [.int v125, .ref (ad 1), .ref (ad 2), .ref (ad 3), .ref (ad 4), .ref (ad 5), .int v126, .int v128, .int v130, .int v132, .int v133, .long w134, .int v135, .int v137, .int v138, .int v139, .ref (ad 6), .ref (ad 7), .ref (ad 8), .ref (ad 9), .ref (ad 10), .ref (ad 11), .ref (ad 12), .ref (ad 13), .ref (ad 14), .ref (ad 15), .int v140, .int v142, .ref (ad 16), .int v144, .int v146, .int v148, .int v150, .int v151, .ref (ad 17), .ref (ad 18), .int v152, .ref (ad 19)]) := c153
  refine xputi E hs hQ 0 (by decide) c153 rfl 0 (by decide) q1468 rfl rfl (Nat.le_of_ble_eq_true rfl) dX12_anew_2 (fun H locs S154 eS154 hQ => ?_)
  have hI := invM_up_0 hI eS154 ⟨0, v126, v128, v130, v132, v133, w134, v135, v137, v138, v139, v140, v142, v144, v146, v148, v150, v151, v152, rfl, b127, b129, b131, b136, b141, b143, b145, b147, b149⟩
  have c155 : S154 0 = .inr (12, [.int 0, .ref (ad 1), .ref (ad 2), .ref (ad 3), .ref (ad 4), .ref (ad 5), .int v126, .int v128, .int v130, .int v132, .int v133, .long w134, .int v135, .int v137, .int v138, .int v139, .ref (ad 6), .ref (ad 7), .ref (ad 8), .ref (ad 9), .ref (ad 10), .ref (ad 11), .ref (ad 12), .ref (ad 13), .ref (ad 14), .ref (ad 15), .int v140, .int v142, .ref (ad 16), .int v144, .int v146, .int v148, .int v150, .int v151, .ref (ad 17), .ref (ad 18), .int v152, .ref (ad 19)]) := up_at eS154 rfl
  refine lv_aload_n hx hb dX12_anew_5 rfl (lv_at hl 0 rfl) ?_
  have c156 : S154 6 = .inl (g.2 0, 5, .inl f19) := (up_ne eS154 (by decide) c20)
  refine xcVi E hs hQ hml hl.1 0 (gX12_isShore_0 l g ad hD S154 hI ) mX12_isShore q1782 (by decide) c155 rfl rfl ⟨(Nat.le_of_ble_eq_true rfl), (Nat.le_of_ble_eq_true rfl)⟩ ⟨(Nat.le_of_ble_eq_true rfl), (Nat.le_of_ble_eq_true rfl)⟩ (Nat.le_of_ble_eq_true rfl) rfl dX12_anew_6 (fun r157 S157 H locs hp157 hQ _ => ?_)
  obtain ⟨rfl, b157, g157_0⟩ := hp157
  have q158 : elm (S154 6) 0 = v22.toInt := (elm_of c156 0).trans (congrArg Int32.toInt (ee23))
  refine lv_if_ne (tgt := 15) hx hb dX12_anew_9 (by decide) (fun k159 => ?_) (fun k159 => ?_)
  · have h160 := ib_ne k159
    have b161 : Bd r157 (1) (1) := rf_nlo b157 (by decide : Bd 0 (0) (0)) h160
    have g162 := g157_0.resolve_left (by omega)
    clear g157_0
    have b163 : Bd v22 (1) (40000) := ⟨by omega, (b24).2⟩
    refine lv_aload_n hx hb dX12_anew_15 rfl (lv_at hl 0 rfl) ?_
    refine xget E hQ 0 (by decide) c155 rfl 17 (by decide) q1485 rfl dX12_anew_16 ?_
    refine lv_bipush (v := 9) hx hb dX12_anew_19 (by decide) ?_
    have c164 : S154 7 = .inl (g.2 0, 50, .inl f1) := (up_ne eS154 (by decide) c2)
    refine xiald E hQ 7 (by decide) c164 (vp_in_lit 9 50 (by decide)) dX12_anew_21 ?_
    refine sb_at (P := fun z => W _ _ _ _ _ _ _ _ _ _ _ _ _ _ _ (F0 _ _ _ (.int z :: _))) (show f1 (9 : Int32).toNatClampNeg = v79 from ee80) ?_
    refine lv_istore_n (lv' := [(1, .int v79), (0, .ref (ad 0))]) hx hb dX12_anew_22 rfl hl (by decide) rfl (fun ls hl => ?_)
    refine lv_aload_n hx hb dX12_anew_23 rfl (lv_at hl 1 rfl) ?_
    refine xget E hQ 0 (by decide) c155 rfl 17 (by decide) q1485 rfl dX12_anew_24 ?_
    refine lv_bipush (v := 9) hx hb dX12_anew_27 (by decide) ?_
    refine lv_iconst (v := 0) hx hb dX12_anew_29 (by decide) ?_
    refine xiast E hs hQ 7 (by decide) c164 (vp_in_lit 9 50 (by decide)) dX12_anew_30 (fun H locs S165 eS165 hQ => ?_)
    have hI := invM_up_7 hI eS165 ⟨_, rfl, ⟨upd_mn b3.1 (by decide), upd_mn b3.2.1 (by decide), upd_mn b3.2.2.1 (by decide), upd_mn b3.2.2.2.1 (by decide), upd_mn b3.2.2.2.2.1 (by decide), upd_mn b3.2.2.2.2.2.1 (by decide), upd_mn b3.2.2.2.2.2.2.1 (by decide), upd_m b3.2.2.2.2.2.2.2 (ib_wk (by decide : Bd 0 (0) (0)) (by decide) (by decide))⟩⟩
    have b167 : (∀ j, j % 10 = 0 → Bd ((upd f1 (9 : Int32).toNatClampNeg 0) j) (0) (12)) ∧ (∀ j, j % 10 = 1 → Bd ((upd f1 (9 : Int32).toNatClampNeg 0) j) (0) (12)) ∧ (∀ j, j % 10 = 2 → Bd ((upd f1 (9 : Int32).toNatClampNeg 0) j) (0) (6)) ∧ (∀ j, j % 10 = 3 → Bd ((upd f1 (9 : Int32).toNatClampNeg 0) j) (0) (12)) ∧ (∀ j, j % 10 = 6 → Bd ((upd f1 (9 : Int32).toNatClampNeg 0) j) (0) (8)) ∧ (∀ j, j % 10 = 7 → Bd ((upd f1 (9 : Int32).toNatClampNeg 0) j) (0) (6)) ∧ (∀ j, j % 10 = 8 → Bd ((upd f1 (9 : Int32).toNatClampNeg 0) j) (0) (3)) ∧ (∀ j, j % 10 = 9 → Bd ((upd f1 (9 : Int32).toNatClampNeg 0) j) (0) (40)) := ⟨upd_mn b3.1 (by decide), upd_mn b3.2.1 (by decide), upd_mn b3.2.2.1 (by decide), upd_mn b3.2.2.2.1 (by decide), upd_mn b3.2.2.2.2.1 (by decide), upd_mn b3.2.2.2.2.2.1 (by decide), upd_mn b3.2.2.2.2.2.2.1 (by decide), upd_m b3.2.2.2.2.2.2.2 (ib_wk (by decide : Bd 0 (0) (0)) (by decide) (by decide))⟩
    have c166 : S165 7 = .inl (g.2 0, 50, .inl (upd f1 (9 : Int32).toNatClampNeg 0)) := up_at eS165 rfl
    refine lv_iload_n hx hb dX12_anew_31 rfl (lv_at hl 0 rfl) ?_
    have q168 : elm (S165 7) 1 = v4.toInt := (elm_of c166 1).trans (congrArg Int32.toInt (((upd_o (by decide)).trans (ee5))))
    have q169 : elm (S165 7) 0 = v7.toInt := (elm_of c166 0).trans (congrArg Int32.toInt (((upd_o (by decide)).trans (ee8))))
    have q170 : elm (S165 7) 3 = v10.toInt := (elm_of c166 3).trans (congrArg Int32.toInt (((upd_o (by decide)).trans (ee11))))
    have q171 : elm (S165 7) 6 = v13.toInt := (elm_of c166 6).trans (congrArg Int32.toInt (((upd_o (by decide)).trans (ee14))))
    have q172 : elm (S165 7) 8 = v16.toInt := (elm_of c166 8).trans (congrArg Int32.toInt (((upd_o (by decide)).trans (ee17))))
    have c173 : S165 6 = .inl (g.2 0, 5, .inl f19) := (up_ne eS165 (by decide) c156)
    have q174 : elm (S165 6) 0 = v22.toInt := (elm_of c173 0).trans (congrArg Int32.toInt (ee23))
    have q175 : elm (S165 7) 11 = v25.toInt := (elm_of c166 11).trans (congrArg Int32.toInt (((upd_o (by decide)).trans (ee26))))
    have q176 : elm (S165 7) 10 = v28.toInt := (elm_of c166 10).trans (congrArg Int32.toInt (((upd_o (by decide)).trans (ee29))))
    have q177 : elm (S165 7) 13 = v31.toInt := (elm_of c166 13).trans (congrArg Int32.toInt (((upd_o (by decide)).trans (ee32))))
    have q178 : elm (S165 7) 16 = v34.toInt := (elm_of c166 16).trans (congrArg Int32.toInt (((upd_o (by decide)).trans (ee35))))
    have q179 : elm (S165 7) 18 = v37.toInt := (elm_of c166 18).trans (congrArg Int32.toInt (((upd_o (by decide)).trans (ee38))))
    have q180 : elm (S165 6) 1 = v40.toInt := (elm_of c173 1).trans (congrArg Int32.toInt (ee41))
    have q181 : elm (S165 7) 21 = v43.toInt := (elm_of c166 21).trans (congrArg Int32.toInt (((upd_o (by decide)).trans (ee44))))
    have q182 : elm (S165 7) 20 = v46.toInt := (elm_of c166 20).trans (congrArg Int32.toInt (((upd_o (by decide)).trans (ee47))))
    have q183 : elm (S165 7) 23 = v49.toInt := (elm_of c166 23).trans (congrArg Int32.toInt (((upd_o (by decide)).trans (ee50))))
    have q184 : elm (S165 7) 26 = v52.toInt := (elm_of c166 26).trans (congrArg Int32.toInt (((upd_o (by decide)).trans (ee53))))
    have q185 : elm (S165 7) 28 = v55.toInt := (elm_of c166 28).trans (congrArg Int32.toInt (((upd_o (by decide)).trans (ee56))))
    have q186 : elm (S165 6) 2 = v58.toInt := (elm_of c173 2).trans (congrArg Int32.toInt (ee59))
    have q187 : elm (S165 7) 31 = v61.toInt := (elm_of c166 31).trans (congrArg Int32.toInt (((upd_o (by decide)).trans (ee62))))
    have q188 : elm (S165 7) 30 = v64.toInt := (elm_of c166 30).trans (congrArg Int32.toInt (((upd_o (by decide)).trans (ee65))))
    have q189 : elm (S165 7) 33 = v67.toInt := (elm_of c166 33).trans (congrArg Int32.toInt (((upd_o (by decide)).trans (ee68))))
    have q190 : elm (S165 7) 36 = v70.toInt := (elm_of c166 36).trans (congrArg Int32.toInt (((upd_o (by decide)).trans (ee71))))
    have q191 : elm (S165 7) 38 = v73.toInt := (elm_of c166 38).trans (congrArg Int32.toInt (((upd_o (by decide)).trans (ee74))))
    have q192 : elm (S165 6) 3 = v76.toInt := (elm_of c173 3).trans (congrArg Int32.toInt (ee77))
    have q193 : elm (S165 7) 9 = 0 := (elm_of c166 9).trans ((congrArg Int32.toInt ((upd_s))).trans (by decide))
    have q194 : elm (S165 7) 19 = v82.toInt := (elm_of c166 19).trans (congrArg Int32.toInt (((upd_o (by decide)).trans (ee83))))
    have q195 : elm (S165 7) 29 = v85.toInt := (elm_of c166 29).trans (congrArg Int32.toInt (((upd_o (by decide)).trans (ee86))))
    have q196 : elm (S165 7) 39 = v88.toInt := (elm_of c166 39).trans (congrArg Int32.toInt (((upd_o (by decide)).trans (ee89))))
    exact xri E hr hlk hQ (⟨hI, (up_o (up_o o_refl eS154 (by decide)) eS165 (by decide)), (ib_wk b81 (by decide) (by decide)), (by omega), (by omega), (by omega), (by omega), (by omega), (by omega), (by omega), (by omega), (by omega), (by omega), (by omega), (by omega), (by omega), (by omega), (by omega), (by omega), (by omega), (by omega), (by omega), (by omega), ⟨by omega, by omega⟩, ⟨by omega, by omega⟩, ⟨by omega, by omega⟩, ⟨by omega, by omega⟩, ⟨by omega, by omega⟩, ⟨by omega, by omega⟩, ⟨by omega, by omega⟩, ⟨by omega, by omega⟩, (at_mono hAT0 (by show elm _ 9 ≤ elm _ 9; omega) ((up_eq (j := 12) eS165 (by decide)).trans (up_eq (j := 12) eS154 (by decide)))), (at_mono hAT1 (by show elm _ 19 ≤ elm _ 19; omega) ((up_eq (j := 12) eS165 (by decide)).trans (up_eq (j := 12) eS154 (by decide)))), (at_mono hAT2 (by show elm _ 29 ≤ elm _ 29; omega) ((up_eq (j := 12) eS165 (by decide)).trans (up_eq (j := 12) eS154 (by decide)))), (at_mono hAT3 (by show elm _ 39 ≤ elm _ 39; omega) ((up_eq (j := 12) eS165 (by decide)).trans (up_eq (j := 12) eS154 (by decide))))⟩) dX12_anew_32
  · have h197 := ib_eq k159
    have b198 : Bd r157 (0) (0) := ⟨(b157).1, ((rf_eq b157 (by decide : Bd 0 (0) (0)) h197).1).2⟩
    clear g157_0
    refine lv_bipush (v := (-2)) hx hb dX12_anew_12 (by decide) ?_
    have c199 : S154 7 = .inl (g.2 0, 50, .inl f1) := (up_ne eS154 (by decide) c2)
    have q200 : elm (S154 7) 1 = v4.toInt := (elm_of c199 1).trans (congrArg Int32.toInt (ee5))
    have q201 : elm (S154 7) 0 = v7.toInt := (elm_of c199 0).trans (congrArg Int32.toInt (ee8))
    have q202 : elm (S154 7) 3 = v10.toInt := (elm_of c199 3).trans (congrArg Int32.toInt (ee11))
    have q203 : elm (S154 7) 6 = v13.toInt := (elm_of c199 6).trans (congrArg Int32.toInt (ee14))
    have q204 : elm (S154 7) 8 = v16.toInt := (elm_of c199 8).trans (congrArg Int32.toInt (ee17))
    have q205 : elm (S154 7) 11 = v25.toInt := (elm_of c199 11).trans (congrArg Int32.toInt (ee26))
    have q206 : elm (S154 7) 10 = v28.toInt := (elm_of c199 10).trans (congrArg Int32.toInt (ee29))
    have q207 : elm (S154 7) 13 = v31.toInt := (elm_of c199 13).trans (congrArg Int32.toInt (ee32))
    have q208 : elm (S154 7) 16 = v34.toInt := (elm_of c199 16).trans (congrArg Int32.toInt (ee35))
    have q209 : elm (S154 7) 18 = v37.toInt := (elm_of c199 18).trans (congrArg Int32.toInt (ee38))
    have q210 : elm (S154 6) 1 = v40.toInt := (elm_of c156 1).trans (congrArg Int32.toInt (ee41))
    have q211 : elm (S154 7) 21 = v43.toInt := (elm_of c199 21).trans (congrArg Int32.toInt (ee44))
    have q212 : elm (S154 7) 20 = v46.toInt := (elm_of c199 20).trans (congrArg Int32.toInt (ee47))
    have q213 : elm (S154 7) 23 = v49.toInt := (elm_of c199 23).trans (congrArg Int32.toInt (ee50))
    have q214 : elm (S154 7) 26 = v52.toInt := (elm_of c199 26).trans (congrArg Int32.toInt (ee53))
    have q215 : elm (S154 7) 28 = v55.toInt := (elm_of c199 28).trans (congrArg Int32.toInt (ee56))
    have q216 : elm (S154 6) 2 = v58.toInt := (elm_of c156 2).trans (congrArg Int32.toInt (ee59))
    have q217 : elm (S154 7) 31 = v61.toInt := (elm_of c199 31).trans (congrArg Int32.toInt (ee62))
    have q218 : elm (S154 7) 30 = v64.toInt := (elm_of c199 30).trans (congrArg Int32.toInt (ee65))
    have q219 : elm (S154 7) 33 = v67.toInt := (elm_of c199 33).trans (congrArg Int32.toInt (ee68))
    have q220 : elm (S154 7) 36 = v70.toInt := (elm_of c199 36).trans (congrArg Int32.toInt (ee71))
    have q221 : elm (S154 7) 38 = v73.toInt := (elm_of c199 38).trans (congrArg Int32.toInt (ee74))
    have q222 : elm (S154 6) 3 = v76.toInt := (elm_of c156 3).trans (congrArg Int32.toInt (ee77))
    exact xri E hr hlk hQ (⟨hI, (up_o o_refl eS154 (by decide)), (ib_wk (by decide : Bd (-2) (-2) (-2)) (by decide) (by decide)), (by omega), (by omega), (by omega), (by omega), (by omega), (by omega), (by omega), (by omega), (by omega), (by omega), (by omega), (by omega), (by omega), (by omega), (by omega), (by omega), (by omega), (by omega), (by omega), (by omega), ⟨by omega, by omega⟩, ⟨by omega, by omega⟩, ⟨by omega, by omega⟩, ⟨by omega, by omega⟩, ⟨by omega, by omega⟩, ⟨by omega, by omega⟩, ⟨by omega, by omega⟩, ⟨by omega, by omega⟩, (at_tr hAT0 (up_eq (j := 7) eS154 (by decide)) (up_eq (j := 12) eS154 (by decide))), (at_tr hAT1 (up_eq (j := 7) eS154 (by decide)) (up_eq (j := 12) eS154 (by decide))), (at_tr hAT2 (up_eq (j := 7) eS154 (by decide)) (up_eq (j := 12) eS154 (by decide))), (at_tr hAT3 (up_eq (j := 7) eS154 (by decide)) (up_eq (j := 12) eS154 (by decide)))⟩) dX12_anew_14
set_option maxHeartbeats 4000000 in
set_option maxRecDepth 100000 in
theorem gX12_rateH (l : Launch) (g : GG) (ad : Nat → Nat) (hD : Dj ad 20) (S : SS) (hI : InvM g ad S) (a1 : Int32) (a2 : Int32) (hq1 : 0 ≤ 12 * elm (S 7) 1 + (-1) * elm (S 7) 0) (hq2 : 0 ≤ 12 * elm (S 7) 3 + (-1) * elm (S 7) 0) (hq3 : 0 ≤ 8 * elm (S 7) 0 + (-1) * elm (S 7) 6) (hq4 : 0 ≤ 3 * elm (S 7) 0 + (-1) * elm (S 7) 8) (hq5 : 0 ≤ 40000 * elm (S 7) 0 + (-1) * elm (S 6) 0) : Met l yX12_rate (wG (.code yX12_rate cX12_rate 4 (some .int))) (Rm 2) (XPre g ad 20 S [.ref (ad 0), .int a1, .int a2]) (va_Qi (fun _ S' => InvM g ad S' ∧ (∀ j, j ∉ ([0, 9] : List Nat) → S' j = S j) ∧ (EM1 (S' 9) (S 9))) (QB g ad 20) (FA ad 20)) 0 0 (FA ad 20) := by
  refine xmet cX12_rate "EbbWreckModel" (by decide) rfl (Nat.le_of_ble_eq_true rfl) (fun p e s m below meth c E hr hlk hml hQ ls hl => ?_)
  have hx := E.1
  have hb := E.2.1
  have hs : Sp ad 20 (FA ad 20) := Sp.fa hD
  have hl : lv_has ls 4 [(0, .ref (ad 0)), (1, .int a1), (2, .int a2)] := hl
  obtain ⟨f1, c2, b3⟩ := invM_7 hI
  obtain ⟨v4, ee5⟩ : ∃ z : Int32, f1 1 = z := ⟨_, rfl⟩
  have b6 : Bd v4 (0) (12) := (by rw [← ee5]; exact b3.2.1 1 (by decide))
  obtain ⟨v7, ee8⟩ : ∃ z : Int32, f1 0 = z := ⟨_, rfl⟩
  have b9 : Bd v7 (0) (12) := (by rw [← ee8]; exact b3.1 0 (by decide))
  obtain ⟨v10, ee11⟩ : ∃ z : Int32, f1 3 = z := ⟨_, rfl⟩
  have b12 : Bd v10 (0) (12) := (by rw [← ee11]; exact b3.2.2.2.1 3 (by decide))
  obtain ⟨v13, ee14⟩ : ∃ z : Int32, f1 6 = z := ⟨_, rfl⟩
  have b15 : Bd v13 (0) (8) := (by rw [← ee14]; exact b3.2.2.2.2.1 6 (by decide))
  obtain ⟨v16, ee17⟩ : ∃ z : Int32, f1 8 = z := ⟨_, rfl⟩
  have b18 : Bd v16 (0) (3) := (by rw [← ee17]; exact b3.2.2.2.2.2.2.1 8 (by decide))
  obtain ⟨f19, c20, b21⟩ := invM_6 hI
  obtain ⟨v22, ee23⟩ : ∃ z : Int32, f19 0 = z := ⟨_, rfl⟩
  have b24 : Bd v22 (0) (40000) := (by rw [← ee23]; exact b21 0)
  have q25 : elm (S 7) 1 = v4.toInt := (elm_of c2 1).trans (congrArg Int32.toInt (ee5))
  have q26 : elm (S 7) 0 = v7.toInt := (elm_of c2 0).trans (congrArg Int32.toInt (ee8))
  have q27 : elm (S 7) 3 = v10.toInt := (elm_of c2 3).trans (congrArg Int32.toInt (ee11))
  have q28 : elm (S 7) 6 = v13.toInt := (elm_of c2 6).trans (congrArg Int32.toInt (ee14))
  have q29 : elm (S 7) 8 = v16.toInt := (elm_of c2 8).trans (congrArg Int32.toInt (ee17))
  have q30 : elm (S 6) 0 = v22.toInt := (elm_of c20 0).trans (congrArg Int32.toInt (ee23))
  obtain ⟨f31, c32, b33⟩ := invM_9 hI
  refine lv_aload_n hx hb dX12_rate_0 rfl (lv_at hl 0 rfl) ?_
  refine lv_iconst (v := 0) hx hb dX12_rate_1 (by decide) ?_
  obtain ⟨v34, v35, v37, v39, v41, v42, w43, v44, v46, v47, v48, v49, v51, v53, v55, v57, v59, v60, v61, c62, b36, b38, b40, b45, b50, b52, b54, b56, b58⟩ := invM_0 hI
  have c62 : S 0 = .inr (12, [.int v34, .ref (ad 1), .ref (ad 2), .ref (ad 3), .ref (ad 4), .ref (ad 5), .int v35, .int v37, .int v39, .int v41, .int v42, .long w43, .int v44, .int v46, .int v47, .int v48, .ref (ad 6), .ref (ad 7), .ref (ad 8), .ref (ad 9), .ref (ad 10), .ref (ad 11), .ref (ad 12), .ref (ad 13), .ref (ad 14), .ref (ad 15), .int v49, .int v51, .ref (ad 16), .int v53, .int v55, .int v57, .int v59, .int v60, .ref (ad 17), .ref (ad 18), .int v61, .ref (ad 19)]) := c62
  refine xputi E hs hQ 0 (by decide) c62 rfl 0 (by decide) q1468 rfl rfl (Nat.le_of_ble_eq_true rfl) dX12_rate_2 (fun H locs S63 eS63 hQ => ?_)
  have hI := invM_up_0 hI eS63 ⟨0, v35, v37, v39, v41, v42, w43, v44, v46, v47, v48, v49, v51, v53, v55, v57, v59, v60, v61, rfl, b36, b38, b40, b45, b50, b52, b54, b56, b58⟩
  have c64 : S63 0 = .inr (12, [.int 0, .ref (ad 1), .ref (ad 2), .ref (ad 3), .ref (ad 4), .ref (ad 5), .int v35, .int v37, .int v39, .int v41, .int v42, .long w43, .int v44, .int v46, .int v47, .int v48, .ref (ad 6), .ref (ad 7), .ref (ad 8), .ref (ad 9), .ref (ad 10), .ref (ad 11), .ref (ad 12), .ref (ad 13), .ref (ad 14), .ref (ad 15), .int v49, .int v51, .ref (ad 16), .int v53, .int v55, .int v57, .int v59, .int v60, .ref (ad 17), .ref (ad 18), .int v61, .ref (ad 19)]) := up_at eS63 rfl
  refine lv_aload_n hx hb dX12_rate_5 rfl (lv_at hl 0 rfl) ?_
  refine lv_iload_n hx hb dX12_rate_6 rfl (lv_at hl 1 rfl) ?_
  have c65 : S63 7 = .inl (g.2 0, 50, .inl f1) := (up_ne eS63 (by decide) c2)
  refine xcVi E hs hQ hml hl.1 0 (gX12_isThing_0 l g ad hD S63 hI a1) mX12_isThing q1766 (by decide) c64 rfl rfl ⟨(Nat.le_of_ble_eq_true rfl), (Nat.le_of_ble_eq_true rfl)⟩ ⟨(Nat.le_of_ble_eq_true rfl), (Nat.le_of_ble_eq_true rfl)⟩ (Nat.le_of_ble_eq_true rfl) rfl dX12_rate_7 (fun r66 S66 H locs hp66 hQ _ => ?_)
  obtain ⟨rfl, b66, g66_0⟩ := hp66
  have q67 : elm (S63 7) 6 = v13.toInt := (elm_of c65 6).trans (congrArg Int32.toInt (ee14))
  refine lv_if_eq (tgt := 25) hx hb dX12_rate_10 (by decide) (fun k68 => ?_) (fun k68 => ?_)
  · have h69 := ib_eq k68
    have b70 : Bd r66 (0) (0) := ⟨(b66).1, ((rf_eq b66 (by decide : Bd 0 (0) (0)) h69).1).2⟩
    clear g66_0
    refine lv_bipush (v := (-2)) hx hb dX12_rate_25 (by decide) ?_
    have c71 : S63 9 = .inl (g.2 0, 120, .inl f31) := (up_ne eS63 (by decide) c32)
    exact xri E hr hlk hQ (⟨hI, (up_o o_refl eS63 (by decide)), (em_r (up_eq (j := 9) eS63 (by decide)))⟩) dX12_rate_27
  · have h72 := ib_ne k68
    have b73 : Bd r66 (1) (1) := rf_nlo b66 (by decide : Bd 0 (0) (0)) h72
    have g74 := g66_0.resolve_left (by omega)
    clear g66_0
    have b75 : Bd a1 (0) (7) := ⟨by omega, by omega⟩
    have b76 : Bd v13 (1) (8) := ⟨by omega, (b15).2⟩
    refine lv_iload_n hx hb dX12_rate_13 rfl (lv_at hl 2 rfl) ?_
    refine lv_i2l hx hb dX12_rate_14 rfl ?_
    refine lv_topl (fun w77 e78 => ?_)
    have t79 : w77.toInt = a2.toInt := by rw [e78]; exact i2l_i _
    have b80 : BdL w77 (-2147483648) (2147483647) := (by have h1 := ((ib_full a2)).1; have h2 := ((ib_full a2)).2; exact ⟨by omega, by omega⟩)
    refine lv_lconst (v := 0) hx hb dX12_rate_15 (by decide) ?_
    refine lv_ldc2 (v := 999) hx hb E.2.2.1 (E.2.2.2.1 _ q2144) dX12_rate_16 ?_
    have q81 : (0 : Int64).toInt = 0 := by decide
    have q82 : (999 : Int64).toInt = 999 := by decide
    refine xcSi E hs hQ hml hl.1 (gX12_in l g ad hD S63 hI w77 0 999) mX12_in q1591 rfl ⟨(Nat.le_of_ble_eq_true rfl), (Nat.le_of_ble_eq_true rfl)⟩ ⟨(Nat.le_of_ble_eq_true rfl), (Nat.le_of_ble_eq_true rfl)⟩ (Nat.le_of_ble_eq_true rfl) rfl dX12_rate_19 (fun r83 S83 H locs hp83 hQ => ?_)
    obtain ⟨rfl, b83, g83_0, u83_0⟩ := hp83
    refine lv_if_ne (tgt := 28) hx hb dX12_rate_22 (by decide) (fun k84 => ?_) (fun k84 => ?_)
    · have h85 := ib_ne k84
      have b86 : Bd r83 (1) (1) := rf_nlo b83 (by decide : Bd 0 (0) (0)) h85
      have g87 := g83_0.resolve_left (by omega)
      clear g83_0
      have b88 : BdL w77 (0) (999) := ⟨by omega, by omega⟩
      have b89 : Bd a2 (0) (999) := ⟨by omega, by omega⟩
      refine lv_aload_n hx hb dX12_rate_28 rfl (lv_at hl 0 rfl) ?_
      refine xget E hQ 0 (by decide) c64 rfl 17 (by decide) q1485 rfl dX12_rate_29 ?_
      refine lv_bipush (v := 9) hx hb dX12_rate_32 (by decide) ?_
      refine xiald E hQ 7 (by decide) c65 (vp_in_lit 9 50 (by decide)) dX12_rate_34 ?_
      obtain ⟨v90, ee91⟩ : ∃ z : Int32, f1 9 = z := ⟨_, rfl⟩
      have b92 : Bd v90 (0) (40) := (by rw [← ee91]; exact b3.2.2.2.2.2.2.2 9 (by decide))
      refine sb_at (P := fun z => W _ _ _ _ _ _ _ _ _ _ _ _ _ _ _ (F0 _ _ _ (.int z :: _))) (show f1 (9 : Int32).toNatClampNeg = v90 from ee91) ?_
      refine lv_if_le (tgt := 41) hx hb dX12_rate_35 (by decide) (fun k93 => ?_) (fun k93 => ?_)
      · have h94 := ib_le k93
        have b95 : Bd v90 (0) (0) := ⟨(b92).1, ((rf_le b92 (by decide : Bd 0 (0) (0)) h94).1).2⟩
        refine lv_aload_n hx hb dX12_rate_41 rfl (lv_at hl 0 rfl) ?_
        refine xget E hQ 0 (by decide) c64 rfl 19 (by decide) q1487 rfl dX12_rate_42 ?_
        refine lv_iconst (v := 3) hx hb dX12_rate_45 (by decide) ?_
        refine lv_iload_n hx hb dX12_rate_46 rfl (lv_at hl 1 rfl) ?_
        refine lv_imul hx hb dX12_rate_47 ?_
        refine lv_topi (fun z96 e97 => ?_)
        have t98 := ib_cmul (q := 3) e97 (by decide) (by decide) b75 (by decide) (by decide)
        have b99 : Bd z96 (0) (21) := ib_mulb t98 (by decide) b75
        have c100 : S63 9 = .inl (g.2 0, 120, .inl f31) := (up_ne eS63 (by decide) c32)
        refine xiald E hQ 9 (by decide) c100 (ib_in b99 (by decide) (by decide)) dX12_rate_48 ?_
        refine lv_topi (fun z101 e102 => ?_)
        refine lv_istore_n (lv' := [(3, .int z101), (0, .ref (ad 0)), (1, .int a1), (2, .int a2)]) hx hb dX12_rate_49 rfl hl (by decide) rfl (fun ls hl => ?_)
        refine lv_aload_n hx hb dX12_rate_50 rfl (lv_at hl 1 rfl) ?_
        refine xget E hQ 0 (by decide) c64 rfl 19 (by decide) q1487 rfl dX12_rate_51 ?_
        refine lv_iconst (v := 3) hx hb dX12_rate_54 (by decide) ?_
        refine lv_iload_n hx hb dX12_rate_55 rfl (lv_at hl 2 rfl) ?_
        refine lv_imul hx hb dX12_rate_56 ?_
        refine lv_topi (fun z103 e104 => ?_)
        have t105 := ib_cmul (q := 3) e104 (by decide) (by decide) b75 (by decide) (by decide)
        have b106 : Bd z103 (0) (21) := ib_mulb t105 (by decide) b75
        refine lv_iload_n hx hb dX12_rate_57 rfl (lv_at hl 3 rfl) ?_
        refine xiast E hs hQ 9 (by decide) c100 (ib_in b106 (by decide) (by decide)) dX12_rate_58 (fun H locs S107 eS107 hQ => ?_)
        have hI := invM_up_9 hI eS107 ⟨_, rfl, ⟨upd_mn b33.1 (by rw [clampN b106]; omega), upd_mn b33.2 (by rw [clampN b106]; omega)⟩⟩
        have b109 : (∀ j, j % 3 = 1 → Bd ((upd f31 (z103 : Int32).toNatClampNeg a2) j) (0) (11)) ∧ (∀ j, j % 3 = 2 → Bd ((upd f31 (z103 : Int32).toNatClampNeg a2) j) (0) (99)) := ⟨upd_mn b33.1 (by rw [clampN b106]; omega), upd_mn b33.2 (by rw [clampN b106]; omega)⟩
        have c108 : S107 9 = .inl (g.2 0, 120, .inl (upd f31 (z103 : Int32).toNatClampNeg a2)) := up_at eS107 rfl
        refine lv_iload_n hx hb dX12_rate_59 rfl (lv_at hl 0 rfl) ?_
        exact xri E hr hlk hQ (⟨hI, (up_o (up_o o_refl eS63 (by decide)) eS107 (by decide)), (em_u c32 c108 (by rw [clampN b106]; omega))⟩) dX12_rate_60
      · have h110 := ib_nle k93
        have b111 : Bd v90 (1) (40) := ⟨((rf_lt (by decide : Bd 0 (0) (0)) b92 h110).2).1, (b92).2⟩
        refine lv_bipush (v := (-5)) hx hb dX12_rate_38 (by decide) ?_
        have c112 : S63 9 = .inl (g.2 0, 120, .inl f31) := (up_ne eS63 (by decide) c32)
        exact xri E hr hlk hQ (⟨hI, (up_o o_refl eS63 (by decide)), (em_r (up_eq (j := 9) eS63 (by decide)))⟩) dX12_rate_40
    · have h113 := ib_eq k84
      have b114 : Bd r83 (0) (0) := ⟨(b83).1, ((rf_eq b83 (by decide : Bd 0 (0) (0)) h113).1).2⟩
      clear g83_0
      refine lv_bipush (v := (-2)) hx hb dX12_rate_25 (by decide) ?_
      have c115 : S63 9 = .inl (g.2 0, 120, .inl f31) := (up_ne eS63 (by decide) c32)
      exact xri E hr hlk hQ (⟨hI, (up_o o_refl eS63 (by decide)), (em_r (up_eq (j := 9) eS63 (by decide)))⟩) dX12_rate_27
set_option maxHeartbeats 4000000 in
set_option maxRecDepth 100000 in
theorem gX12_image_0 (l : Launch) (g : GG) (ad : Nat → Nat) (hD : Dj ad 20) (S : SS) (hI : InvM g ad S) (a1 : Int32) (hq1 : 0 ≤ 12 * elm (S 7) 1 + (-1) * elm (S 7) 0) (hq2 : 0 ≤ 12 * elm (S 7) 3 + (-1) * elm (S 7) 0) (hq3 : 0 ≤ 8 * elm (S 7) 0 + (-1) * elm (S 7) 6) (hq4 : 0 ≤ 3 * elm (S 7) 0 + (-1) * elm (S 7) 8) (hq5 : 0 ≤ 40000 * elm (S 7) 0 + (-1) * elm (S 6) 0) (hq6 : 0 ≤ 12 * elm (S 7) 11 + (-1) * elm (S 7) 10) (hq7 : 0 ≤ 12 * elm (S 7) 13 + (-1) * elm (S 7) 10) (hq8 : 0 ≤ 8 * elm (S 7) 10 + (-1) * elm (S 7) 16) (hq9 : 0 ≤ 3 * elm (S 7) 10 + (-1) * elm (S 7) 18) (hq10 : 0 ≤ 40000 * elm (S 7) 10 + (-1) * elm (S 6) 1) (hq11 : 0 ≤ 12 * elm (S 7) 21 + (-1) * elm (S 7) 20) (hq12 : 0 ≤ 12 * elm (S 7) 23 + (-1) * elm (S 7) 20) (hq13 : 0 ≤ 8 * elm (S 7) 20 + (-1) * elm (S 7) 26) (hq14 : 0 ≤ 3 * elm (S 7) 20 + (-1) * elm (S 7) 28) (hq15 : 0 ≤ 40000 * elm (S 7) 20 + (-1) * elm (S 6) 2) (hq16 : 0 ≤ 12 * elm (S 7) 31 + (-1) * elm (S 7) 30) (hq17 : 0 ≤ 12 * elm (S 7) 33 + (-1) * elm (S 7) 30) (hq18 : 0 ≤ 8 * elm (S 7) 30 + (-1) * elm (S 7) 36) (hq19 : 0 ≤ 3 * elm (S 7) 30 + (-1) * elm (S 7) 38) (hq20 : 0 ≤ 40000 * elm (S 7) 30 + (-1) * elm (S 6) 3) (hAT0 : ATp (S 7) (S 12) 0) (hAT1 : ATp (S 7) (S 12) 1) (hAT2 : ATp (S 7) (S 12) 2) (hAT3 : ATp (S 7) (S 12) 3) (hHT0 : HTp (S 7) (S 9) 0) (hHT1 : HTp (S 7) (S 9) 1) (hHT2 : HTp (S 7) (S 9) 2) (hHT3 : HTp (S 7) (S 9) 3) : Met l yX12_image (wG (.code yX12_image cX12_image 2 (some .int))) (Rm 2) (XPre g ad 20 S [.ref (ad 0), .int a1]) (va_Qi (fun r S' => InvM g ad S' ∧ (∀ j, j ∉ ([0, 6, 7, 8, 9, 10, 11, 12, 13] : List Nat) → S' j = S j) ∧ Bd r (-2) (0) ∧ (0 ≤ 12 * elm (S' 7) 1 + (-1) * elm (S' 7) 0) ∧ (0 ≤ 12 * elm (S' 7) 3 + (-1) * elm (S' 7) 0) ∧ (0 ≤ 8 * elm (S' 7) 0 + (-1) * elm (S' 7) 6) ∧ (0 ≤ 3 * elm (S' 7) 0 + (-1) * elm (S' 7) 8) ∧ (0 ≤ 40000 * elm (S' 7) 0 + (-1) * elm (S' 6) 0) ∧ (0 ≤ 12 * elm (S' 7) 11 + (-1) * elm (S' 7) 10) ∧ (0 ≤ 12 * elm (S' 7) 13 + (-1) * elm (S' 7) 10) ∧ (0 ≤ 8 * elm (S' 7) 10 + (-1) * elm (S' 7) 16) ∧ (0 ≤ 3 * elm (S' 7) 10 + (-1) * elm (S' 7) 18) ∧ (0 ≤ 40000 * elm (S' 7) 10 + (-1) * elm (S' 6) 1) ∧ (0 ≤ 12 * elm (S' 7) 21 + (-1) * elm (S' 7) 20) ∧ (0 ≤ 12 * elm (S' 7) 23 + (-1) * elm (S' 7) 20) ∧ (0 ≤ 8 * elm (S' 7) 20 + (-1) * elm (S' 7) 26) ∧ (0 ≤ 3 * elm (S' 7) 20 + (-1) * elm (S' 7) 28) ∧ (0 ≤ 40000 * elm (S' 7) 20 + (-1) * elm (S' 6) 2) ∧ (0 ≤ 12 * elm (S' 7) 31 + (-1) * elm (S' 7) 30) ∧ (0 ≤ 12 * elm (S' 7) 33 + (-1) * elm (S' 7) 30) ∧ (0 ≤ 8 * elm (S' 7) 30 + (-1) * elm (S' 7) 36) ∧ (0 ≤ 3 * elm (S' 7) 30 + (-1) * elm (S' 7) 38) ∧ (0 ≤ 40000 * elm (S' 7) 30 + (-1) * elm (S' 6) 3) ∧ (ATp (S' 7) (S' 12) 0) ∧ (ATp (S' 7) (S' 12) 1) ∧ (ATp (S' 7) (S' 12) 2) ∧ (ATp (S' 7) (S' 12) 3) ∧ (HTp (S' 7) (S' 9) 0) ∧ (HTp (S' 7) (S' 9) 1) ∧ (HTp (S' 7) (S' 9) 2) ∧ (HTp (S' 7) (S' 9) 3) ∧ (r = ansImage a1) ∧ (PUp (S' 13) (S 13) a1.toInt 1 3)) (QB g ad 20) (FA ad 20)) 0 0 (FA ad 20) := by
  refine xmet cX12_image "EbbWreckModel" (by decide) rfl (Nat.le_of_ble_eq_true rfl) (fun p e s m below meth c E hr hlk hml hQ ls hl => ?_)
  have hx := E.1
  have hb := E.2.1
  have hs : Sp ad 20 (FA ad 20) := Sp.fa hD
  have hl : lv_has ls 2 [(0, .ref (ad 0)), (1, .int a1)] := hl
  obtain ⟨f1, c2, b3⟩ := invM_7 hI
  obtain ⟨v4, ee5⟩ : ∃ z : Int32, f1 1 = z := ⟨_, rfl⟩
  have b6 : Bd v4 (0) (12) := (by rw [← ee5]; exact b3.2.1 1 (by decide))
  obtain ⟨v7, ee8⟩ : ∃ z : Int32, f1 0 = z := ⟨_, rfl⟩
  have b9 : Bd v7 (0) (12) := (by rw [← ee8]; exact b3.1 0 (by decide))
  obtain ⟨v10, ee11⟩ : ∃ z : Int32, f1 3 = z := ⟨_, rfl⟩
  have b12 : Bd v10 (0) (12) := (by rw [← ee11]; exact b3.2.2.2.1 3 (by decide))
  obtain ⟨v13, ee14⟩ : ∃ z : Int32, f1 6 = z := ⟨_, rfl⟩
  have b15 : Bd v13 (0) (8) := (by rw [← ee14]; exact b3.2.2.2.2.1 6 (by decide))
  obtain ⟨v16, ee17⟩ : ∃ z : Int32, f1 8 = z := ⟨_, rfl⟩
  have b18 : Bd v16 (0) (3) := (by rw [← ee17]; exact b3.2.2.2.2.2.2.1 8 (by decide))
  obtain ⟨f19, c20, b21⟩ := invM_6 hI
  obtain ⟨v22, ee23⟩ : ∃ z : Int32, f19 0 = z := ⟨_, rfl⟩
  have b24 : Bd v22 (0) (40000) := (by rw [← ee23]; exact b21 0)
  obtain ⟨v25, ee26⟩ : ∃ z : Int32, f1 11 = z := ⟨_, rfl⟩
  have b27 : Bd v25 (0) (12) := (by rw [← ee26]; exact b3.2.1 11 (by decide))
  obtain ⟨v28, ee29⟩ : ∃ z : Int32, f1 10 = z := ⟨_, rfl⟩
  have b30 : Bd v28 (0) (12) := (by rw [← ee29]; exact b3.1 10 (by decide))
  obtain ⟨v31, ee32⟩ : ∃ z : Int32, f1 13 = z := ⟨_, rfl⟩
  have b33 : Bd v31 (0) (12) := (by rw [← ee32]; exact b3.2.2.2.1 13 (by decide))
  obtain ⟨v34, ee35⟩ : ∃ z : Int32, f1 16 = z := ⟨_, rfl⟩
  have b36 : Bd v34 (0) (8) := (by rw [← ee35]; exact b3.2.2.2.2.1 16 (by decide))
  obtain ⟨v37, ee38⟩ : ∃ z : Int32, f1 18 = z := ⟨_, rfl⟩
  have b39 : Bd v37 (0) (3) := (by rw [← ee38]; exact b3.2.2.2.2.2.2.1 18 (by decide))
  obtain ⟨v40, ee41⟩ : ∃ z : Int32, f19 1 = z := ⟨_, rfl⟩
  have b42 : Bd v40 (0) (40000) := (by rw [← ee41]; exact b21 1)
  obtain ⟨v43, ee44⟩ : ∃ z : Int32, f1 21 = z := ⟨_, rfl⟩
  have b45 : Bd v43 (0) (12) := (by rw [← ee44]; exact b3.2.1 21 (by decide))
  obtain ⟨v46, ee47⟩ : ∃ z : Int32, f1 20 = z := ⟨_, rfl⟩
  have b48 : Bd v46 (0) (12) := (by rw [← ee47]; exact b3.1 20 (by decide))
  obtain ⟨v49, ee50⟩ : ∃ z : Int32, f1 23 = z := ⟨_, rfl⟩
  have b51 : Bd v49 (0) (12) := (by rw [← ee50]; exact b3.2.2.2.1 23 (by decide))
  obtain ⟨v52, ee53⟩ : ∃ z : Int32, f1 26 = z := ⟨_, rfl⟩
  have b54 : Bd v52 (0) (8) := (by rw [← ee53]; exact b3.2.2.2.2.1 26 (by decide))
  obtain ⟨v55, ee56⟩ : ∃ z : Int32, f1 28 = z := ⟨_, rfl⟩
  have b57 : Bd v55 (0) (3) := (by rw [← ee56]; exact b3.2.2.2.2.2.2.1 28 (by decide))
  obtain ⟨v58, ee59⟩ : ∃ z : Int32, f19 2 = z := ⟨_, rfl⟩
  have b60 : Bd v58 (0) (40000) := (by rw [← ee59]; exact b21 2)
  obtain ⟨v61, ee62⟩ : ∃ z : Int32, f1 31 = z := ⟨_, rfl⟩
  have b63 : Bd v61 (0) (12) := (by rw [← ee62]; exact b3.2.1 31 (by decide))
  obtain ⟨v64, ee65⟩ : ∃ z : Int32, f1 30 = z := ⟨_, rfl⟩
  have b66 : Bd v64 (0) (12) := (by rw [← ee65]; exact b3.1 30 (by decide))
  obtain ⟨v67, ee68⟩ : ∃ z : Int32, f1 33 = z := ⟨_, rfl⟩
  have b69 : Bd v67 (0) (12) := (by rw [← ee68]; exact b3.2.2.2.1 33 (by decide))
  obtain ⟨v70, ee71⟩ : ∃ z : Int32, f1 36 = z := ⟨_, rfl⟩
  have b72 : Bd v70 (0) (8) := (by rw [← ee71]; exact b3.2.2.2.2.1 36 (by decide))
  obtain ⟨v73, ee74⟩ : ∃ z : Int32, f1 38 = z := ⟨_, rfl⟩
  have b75 : Bd v73 (0) (3) := (by rw [← ee74]; exact b3.2.2.2.2.2.2.1 38 (by decide))
  obtain ⟨v76, ee77⟩ : ∃ z : Int32, f19 3 = z := ⟨_, rfl⟩
  have b78 : Bd v76 (0) (40000) := (by rw [← ee77]; exact b21 3)
  have q79 : elm (S 7) 1 = v4.toInt := (elm_of c2 1).trans (congrArg Int32.toInt (ee5))
  have q80 : elm (S 7) 0 = v7.toInt := (elm_of c2 0).trans (congrArg Int32.toInt (ee8))
  have q81 : elm (S 7) 3 = v10.toInt := (elm_of c2 3).trans (congrArg Int32.toInt (ee11))
  have q82 : elm (S 7) 6 = v13.toInt := (elm_of c2 6).trans (congrArg Int32.toInt (ee14))
  have q83 : elm (S 7) 8 = v16.toInt := (elm_of c2 8).trans (congrArg Int32.toInt (ee17))
  have q84 : elm (S 6) 0 = v22.toInt := (elm_of c20 0).trans (congrArg Int32.toInt (ee23))
  have q85 : elm (S 7) 11 = v25.toInt := (elm_of c2 11).trans (congrArg Int32.toInt (ee26))
  have q86 : elm (S 7) 10 = v28.toInt := (elm_of c2 10).trans (congrArg Int32.toInt (ee29))
  have q87 : elm (S 7) 13 = v31.toInt := (elm_of c2 13).trans (congrArg Int32.toInt (ee32))
  have q88 : elm (S 7) 16 = v34.toInt := (elm_of c2 16).trans (congrArg Int32.toInt (ee35))
  have q89 : elm (S 7) 18 = v37.toInt := (elm_of c2 18).trans (congrArg Int32.toInt (ee38))
  have q90 : elm (S 6) 1 = v40.toInt := (elm_of c20 1).trans (congrArg Int32.toInt (ee41))
  have q91 : elm (S 7) 21 = v43.toInt := (elm_of c2 21).trans (congrArg Int32.toInt (ee44))
  have q92 : elm (S 7) 20 = v46.toInt := (elm_of c2 20).trans (congrArg Int32.toInt (ee47))
  have q93 : elm (S 7) 23 = v49.toInt := (elm_of c2 23).trans (congrArg Int32.toInt (ee50))
  have q94 : elm (S 7) 26 = v52.toInt := (elm_of c2 26).trans (congrArg Int32.toInt (ee53))
  have q95 : elm (S 7) 28 = v55.toInt := (elm_of c2 28).trans (congrArg Int32.toInt (ee56))
  have q96 : elm (S 6) 2 = v58.toInt := (elm_of c20 2).trans (congrArg Int32.toInt (ee59))
  have q97 : elm (S 7) 31 = v61.toInt := (elm_of c2 31).trans (congrArg Int32.toInt (ee62))
  have q98 : elm (S 7) 30 = v64.toInt := (elm_of c2 30).trans (congrArg Int32.toInt (ee65))
  have q99 : elm (S 7) 33 = v67.toInt := (elm_of c2 33).trans (congrArg Int32.toInt (ee68))
  have q100 : elm (S 7) 36 = v70.toInt := (elm_of c2 36).trans (congrArg Int32.toInt (ee71))
  have q101 : elm (S 7) 38 = v73.toInt := (elm_of c2 38).trans (congrArg Int32.toInt (ee74))
  have q102 : elm (S 6) 3 = v76.toInt := (elm_of c20 3).trans (congrArg Int32.toInt (ee77))
  obtain ⟨f103, c104, b105⟩ := invM_12 hI
  obtain ⟨f106, c107, b108⟩ := invM_9 hI
  obtain ⟨v109, ee110⟩ : ∃ z : Int32, f1 9 = z := ⟨_, rfl⟩
  have b111 : Bd v109 (0) (40) := (by rw [← ee110]; exact b3.2.2.2.2.2.2.2 9 (by decide))
  obtain ⟨v112, ee113⟩ : ∃ z : Int32, f1 19 = z := ⟨_, rfl⟩
  have b114 : Bd v112 (0) (40) := (by rw [← ee113]; exact b3.2.2.2.2.2.2.2 19 (by decide))
  obtain ⟨v115, ee116⟩ : ∃ z : Int32, f1 29 = z := ⟨_, rfl⟩
  have b117 : Bd v115 (0) (40) := (by rw [← ee116]; exact b3.2.2.2.2.2.2.2 29 (by decide))
  obtain ⟨v118, ee119⟩ : ∃ z : Int32, f1 39 = z := ⟨_, rfl⟩
  have b120 : Bd v118 (0) (40) := (by rw [← ee119]; exact b3.2.2.2.2.2.2.2 39 (by decide))
  obtain ⟨f121, c122, b123⟩ := invM_13 hI
  refine lv_aload_n hx hb dX12_image_0 rfl (lv_at hl 0 rfl) ?_
  refine lv_iconst (v := 0) hx hb dX12_image_1 (by decide) ?_
  obtain ⟨v124, v125, v127, v129, v131, v132, w133, v134, v136, v137, v138, v139, v141, v143, v145, v147, v149, v150, v151, c152, b126, b128, b130, b135, b140, b142, b144, b146, b148⟩ := invM_0 hI
  have c152 : S 0 = .inr (12, [.int v124, .ref (ad 1), .ref (ad 2), .ref (ad 3), .ref (ad 4), .ref (ad 5), .int v125, .int v127, .int v129, .int v131, .int v132, .long w133, .int v134, .int v136, .int v137, .int v138, .ref (ad 6), .ref (ad 7), .ref (ad 8), .ref (ad 9), .ref (ad 10), .ref (ad 11), .ref (ad 12), .ref (ad 13), .ref (ad 14), .ref (ad 15), .int v139, .int v141, .ref (ad 16), .int v143, .int v145, .int v147, .int v149, .int v150, .ref (ad 17), .ref (ad 18), .int v151, .ref (ad 19)]) := c152
  refine xputi E hs hQ 0 (by decide) c152 rfl 0 (by decide) q1468 rfl rfl (Nat.le_of_ble_eq_true rfl) dX12_image_2 (fun H locs S153 eS153 hQ => ?_)
  have hI := invM_up_0 hI eS153 ⟨0, v125, v127, v129, v131, v132, w133, v134, v136, v137, v138, v139, v141, v143, v145, v147, v149, v150, v151, rfl, b126, b128, b130, b135, b140, b142, b144, b146, b148⟩
  have c154 : S153 0 = .inr (12, [.int 0, .ref (ad 1), .ref (ad 2), .ref (ad 3), .ref (ad 4), .ref (ad 5), .int v125, .int v127, .int v129, .int v131, .int v132, .long w133, .int v134, .int v136, .int v137, .int v138, .ref (ad 6), .ref (ad 7), .ref (ad 8), .ref (ad 9), .ref (ad 10), .ref (ad 11), .ref (ad 12), .ref (ad 13), .ref (ad 14), .ref (ad 15), .int v139, .int v141, .ref (ad 16), .int v143, .int v145, .int v147, .int v149, .int v150, .ref (ad 17), .ref (ad 18), .int v151, .ref (ad 19)]) := up_at eS153 rfl
  refine lv_iload_n hx hb dX12_image_5 rfl (lv_at hl 1 rfl) ?_
  refine lv_i2l hx hb dX12_image_6 rfl ?_
  refine lv_topl (fun w155 e156 => ?_)
  have t157 : w155.toInt = a1.toInt := by rw [e156]; exact i2l_i _
  have b158 : BdL w155 (-2147483648) (2147483647) := (by have h1 := ((ib_full a1)).1; have h2 := ((ib_full a1)).2; exact ⟨by omega, by omega⟩)
  refine lv_lconst (v := 0) hx hb dX12_image_7 (by decide) ?_
  refine lv_ldc2 (v := 2) hx hb E.2.2.1 (E.2.2.2.1 _ q1754) dX12_image_8 ?_
  have q159 : (0 : Int64).toInt = 0 := by decide
  have q160 : (2 : Int64).toInt = 2 := by decide
  refine xcSi E hs hQ hml hl.1 (gX12_in l g ad hD S153 hI w155 0 2) mX12_in q1591 rfl ⟨(Nat.le_of_ble_eq_true rfl), (Nat.le_of_ble_eq_true rfl)⟩ ⟨(Nat.le_of_ble_eq_true rfl), (Nat.le_of_ble_eq_true rfl)⟩ (Nat.le_of_ble_eq_true rfl) rfl dX12_image_11 (fun r161 S161 H locs hp161 hQ => ?_)
  obtain ⟨rfl, b161, g161_0, u161_0⟩ := hp161
  refine lv_if_ne (tgt := 20) hx hb dX12_image_14 (by decide) (fun k162 => ?_) (fun k162 => ?_)
  · have h163 := ib_ne k162
    have b164 : Bd r161 (1) (1) := rf_nlo b161 (by decide : Bd 0 (0) (0)) h163
    have g165 := g161_0.resolve_left (by omega)
    clear g161_0
    have b166 : BdL w155 (0) (2) := ⟨by omega, by omega⟩
    have b167 : Bd a1 (0) (2) := ⟨by omega, by omega⟩
    refine lv_aload_n hx hb dX12_image_20 rfl (lv_at hl 0 rfl) ?_
    refine lv_iconst (v := 0) hx hb dX12_image_21 (by decide) ?_
    refine lv_iconst (v := 1) hx hb dX12_image_22 (by decide) ?_
    refine lv_iload_n hx hb dX12_image_23 rfl (lv_at hl 1 rfl) ?_
    refine lv_iadd hx hb dX12_image_24 ?_
    refine lv_topi (fun z168 e169 => ?_)
    have t170 := ib_add e169 (by decide : Bd 1 (1) (1)) b167 (by decide) (by decide)
    have b171 : Bd z168 (1) (3) := ib_addb t170 (by decide : Bd 1 (1) (1)) b167
    have t170 : z168.toInt = 1 + a1.toInt := fold_add t170 (by decide) rfl
    rcases bd_r13 b171 with h172 | h172 | h172
    · subst h172
      have q173 : (0 : Int32).toInt = 0 := by decide
      have q174 : (1 : Int32).toInt = 1 := by decide
      have c175 : S153 7 = .inl (g.2 0, 50, .inl f1) := (up_ne eS153 (by decide) c2)
      have c176 : S153 6 = .inl (g.2 0, 5, .inl f19) := (up_ne eS153 (by decide) c20)
      refine xcVv E hs hQ hml hl.1 0 (gX12_copyShore_0_1 l g ad hD S153 hI (at_tr hAT0 (up_eq (j := 7) eS153 (by decide)) (up_eq (j := 12) eS153 (by decide))) (at_tr hAT1 (up_eq (j := 7) eS153 (by decide)) (up_eq (j := 12) eS153 (by decide))) (at_tr hAT2 (up_eq (j := 7) eS153 (by decide)) (up_eq (j := 12) eS153 (by decide))) (at_tr hAT3 (up_eq (j := 7) eS153 (by decide)) (up_eq (j := 12) eS153 (by decide))) (ht_tr hHT0 (up_eq (j := 7) eS153 (by decide)) (up_eq (j := 9) eS153 (by decide))) (ht_tr hHT1 (up_eq (j := 7) eS153 (by decide)) (up_eq (j := 9) eS153 (by decide))) (ht_tr hHT2 (up_eq (j := 7) eS153 (by decide)) (up_eq (j := 9) eS153 (by decide))) (ht_tr hHT3 (up_eq (j := 7) eS153 (by decide)) (up_eq (j := 9) eS153 (by decide)))) mX12_copyShore q1739 (by decide) c154 rfl rfl ⟨(Nat.le_of_ble_eq_true rfl), (Nat.le_of_ble_eq_true rfl)⟩ ⟨(Nat.le_of_ble_eq_true rfl), (Nat.le_of_ble_eq_true rfl)⟩ (Nat.le_of_ble_eq_true rfl) rfl dX12_image_25 (fun S177 H locs hp177 hQ _ => ?_)
      obtain ⟨hI, o177, g177_0, g177_1, g177_2, g177_3, g177_4, g177_5, g177_6, g177_7, g177_8, g177_9, g177_10, g177_11, g177_12, g177_13, g177_14, g177_15, g177_16, g177_17, g177_18, g177_19, g177_20, g177_21, g177_22, g177_23, g177_24, g177_25, g177_26, g177_27, u177_0, u177_1, u177_2, u177_3, u177_4, u177_5, u177_6, u177_7⟩ := hp177
      have q178 : elm (S153 7) 0 = v7.toInt := (elm_of c175 0).trans (congrArg Int32.toInt (ee8))
      obtain ⟨f179, c180, b181⟩ := invM_7 hI
      obtain ⟨v182, ee183⟩ : ∃ z : Int32, f179 10 = z := ⟨_, rfl⟩
      have b184 : Bd v182 (0) (12) := (by rw [← ee183]; exact b181.1 10 (by decide))
      have q185 : elm (S177 7) 10 = v182.toInt := (elm_of c180 10).trans (congrArg Int32.toInt (ee183))
      have q186 : elm (S153 7) 1 = v4.toInt := (elm_of c175 1).trans (congrArg Int32.toInt (ee5))
      obtain ⟨v187, ee188⟩ : ∃ z : Int32, f179 11 = z := ⟨_, rfl⟩
      have b189 : Bd v187 (0) (12) := (by rw [← ee188]; exact b181.2.1 11 (by decide))
      have q190 : elm (S177 7) 11 = v187.toInt := (elm_of c180 11).trans (congrArg Int32.toInt (ee188))
      have q191 : elm (S153 7) 3 = v10.toInt := (elm_of c175 3).trans (congrArg Int32.toInt (ee11))
      obtain ⟨v192, ee193⟩ : ∃ z : Int32, f179 13 = z := ⟨_, rfl⟩
      have b194 : Bd v192 (0) (12) := (by rw [← ee193]; exact b181.2.2.2.1 13 (by decide))
      have q195 : elm (S177 7) 13 = v192.toInt := (elm_of c180 13).trans (congrArg Int32.toInt (ee193))
      have q196 : elm (S153 7) 6 = v13.toInt := (elm_of c175 6).trans (congrArg Int32.toInt (ee14))
      obtain ⟨v197, ee198⟩ : ∃ z : Int32, f179 16 = z := ⟨_, rfl⟩
      have b199 : Bd v197 (0) (8) := (by rw [← ee198]; exact b181.2.2.2.2.1 16 (by decide))
      have q200 : elm (S177 7) 16 = v197.toInt := (elm_of c180 16).trans (congrArg Int32.toInt (ee198))
      have q201 : elm (S153 7) 8 = v16.toInt := (elm_of c175 8).trans (congrArg Int32.toInt (ee17))
      obtain ⟨v202, ee203⟩ : ∃ z : Int32, f179 18 = z := ⟨_, rfl⟩
      have b204 : Bd v202 (0) (3) := (by rw [← ee203]; exact b181.2.2.2.2.2.2.1 18 (by decide))
      have q205 : elm (S177 7) 18 = v202.toInt := (elm_of c180 18).trans (congrArg Int32.toInt (ee203))
      have q206 : elm (S153 7) 9 = v109.toInt := (elm_of c175 9).trans (congrArg Int32.toInt (ee110))
      obtain ⟨v207, ee208⟩ : ∃ z : Int32, f179 19 = z := ⟨_, rfl⟩
      have b209 : Bd v207 (0) (40) := (by rw [← ee208]; exact b181.2.2.2.2.2.2.2 19 (by decide))
      have q210 : elm (S177 7) 19 = v207.toInt := (elm_of c180 19).trans (congrArg Int32.toInt (ee208))
      obtain ⟨v211, ee212⟩ : ∃ z : Int32, f179 0 = z := ⟨_, rfl⟩
      have b213 : Bd v211 (0) (12) := (by rw [← ee212]; exact b181.1 0 (by decide))
      have q214 : elm (S177 7) 0 = v211.toInt := (elm_of c180 0).trans (congrArg Int32.toInt (ee212))
      obtain ⟨v215, ee216⟩ : ∃ z : Int32, f179 1 = z := ⟨_, rfl⟩
      have b217 : Bd v215 (0) (12) := (by rw [← ee216]; exact b181.2.1 1 (by decide))
      have q218 : elm (S177 7) 1 = v215.toInt := (elm_of c180 1).trans (congrArg Int32.toInt (ee216))
      obtain ⟨v219, ee220⟩ : ∃ z : Int32, f179 3 = z := ⟨_, rfl⟩
      have b221 : Bd v219 (0) (12) := (by rw [← ee220]; exact b181.2.2.2.1 3 (by decide))
      have q222 : elm (S177 7) 3 = v219.toInt := (elm_of c180 3).trans (congrArg Int32.toInt (ee220))
      obtain ⟨v223, ee224⟩ : ∃ z : Int32, f179 6 = z := ⟨_, rfl⟩
      have b225 : Bd v223 (0) (8) := (by rw [← ee224]; exact b181.2.2.2.2.1 6 (by decide))
      have q226 : elm (S177 7) 6 = v223.toInt := (elm_of c180 6).trans (congrArg Int32.toInt (ee224))
      obtain ⟨v227, ee228⟩ : ∃ z : Int32, f179 8 = z := ⟨_, rfl⟩
      have b229 : Bd v227 (0) (3) := (by rw [← ee228]; exact b181.2.2.2.2.2.2.1 8 (by decide))
      have q230 : elm (S177 7) 8 = v227.toInt := (elm_of c180 8).trans (congrArg Int32.toInt (ee228))
      obtain ⟨v231, ee232⟩ : ∃ z : Int32, f179 9 = z := ⟨_, rfl⟩
      have b233 : Bd v231 (0) (40) := (by rw [← ee232]; exact b181.2.2.2.2.2.2.2 9 (by decide))
      have q234 : elm (S177 7) 9 = v231.toInt := (elm_of c180 9).trans (congrArg Int32.toInt (ee232))
      have q235 : elm (S153 7) 20 = v46.toInt := (elm_of c175 20).trans (congrArg Int32.toInt (ee47))
      obtain ⟨v236, ee237⟩ : ∃ z : Int32, f179 20 = z := ⟨_, rfl⟩
      have b238 : Bd v236 (0) (12) := (by rw [← ee237]; exact b181.1 20 (by decide))
      have q239 : elm (S177 7) 20 = v236.toInt := (elm_of c180 20).trans (congrArg Int32.toInt (ee237))
      have q240 : elm (S153 7) 21 = v43.toInt := (elm_of c175 21).trans (congrArg Int32.toInt (ee44))
      obtain ⟨v241, ee242⟩ : ∃ z : Int32, f179 21 = z := ⟨_, rfl⟩
      have b243 : Bd v241 (0) (12) := (by rw [← ee242]; exact b181.2.1 21 (by decide))
      have q244 : elm (S177 7) 21 = v241.toInt := (elm_of c180 21).trans (congrArg Int32.toInt (ee242))
      have q245 : elm (S153 7) 23 = v49.toInt := (elm_of c175 23).trans (congrArg Int32.toInt (ee50))
      obtain ⟨v246, ee247⟩ : ∃ z : Int32, f179 23 = z := ⟨_, rfl⟩
      have b248 : Bd v246 (0) (12) := (by rw [← ee247]; exact b181.2.2.2.1 23 (by decide))
      have q249 : elm (S177 7) 23 = v246.toInt := (elm_of c180 23).trans (congrArg Int32.toInt (ee247))
      have q250 : elm (S153 7) 26 = v52.toInt := (elm_of c175 26).trans (congrArg Int32.toInt (ee53))
      obtain ⟨v251, ee252⟩ : ∃ z : Int32, f179 26 = z := ⟨_, rfl⟩
      have b253 : Bd v251 (0) (8) := (by rw [← ee252]; exact b181.2.2.2.2.1 26 (by decide))
      have q254 : elm (S177 7) 26 = v251.toInt := (elm_of c180 26).trans (congrArg Int32.toInt (ee252))
      have q255 : elm (S153 7) 28 = v55.toInt := (elm_of c175 28).trans (congrArg Int32.toInt (ee56))
      obtain ⟨v256, ee257⟩ : ∃ z : Int32, f179 28 = z := ⟨_, rfl⟩
      have b258 : Bd v256 (0) (3) := (by rw [← ee257]; exact b181.2.2.2.2.2.2.1 28 (by decide))
      have q259 : elm (S177 7) 28 = v256.toInt := (elm_of c180 28).trans (congrArg Int32.toInt (ee257))
      have q260 : elm (S153 7) 29 = v115.toInt := (elm_of c175 29).trans (congrArg Int32.toInt (ee116))
      obtain ⟨v261, ee262⟩ : ∃ z : Int32, f179 29 = z := ⟨_, rfl⟩
      have b263 : Bd v261 (0) (40) := (by rw [← ee262]; exact b181.2.2.2.2.2.2.2 29 (by decide))
      have q264 : elm (S177 7) 29 = v261.toInt := (elm_of c180 29).trans (congrArg Int32.toInt (ee262))
      have q265 : elm (S153 7) 30 = v64.toInt := (elm_of c175 30).trans (congrArg Int32.toInt (ee65))
      obtain ⟨v266, ee267⟩ : ∃ z : Int32, f179 30 = z := ⟨_, rfl⟩
      have b268 : Bd v266 (0) (12) := (by rw [← ee267]; exact b181.1 30 (by decide))
      have q269 : elm (S177 7) 30 = v266.toInt := (elm_of c180 30).trans (congrArg Int32.toInt (ee267))
      have q270 : elm (S153 7) 31 = v61.toInt := (elm_of c175 31).trans (congrArg Int32.toInt (ee62))
      obtain ⟨v271, ee272⟩ : ∃ z : Int32, f179 31 = z := ⟨_, rfl⟩
      have b273 : Bd v271 (0) (12) := (by rw [← ee272]; exact b181.2.1 31 (by decide))
      have q274 : elm (S177 7) 31 = v271.toInt := (elm_of c180 31).trans (congrArg Int32.toInt (ee272))
      have q275 : elm (S153 7) 33 = v67.toInt := (elm_of c175 33).trans (congrArg Int32.toInt (ee68))
      obtain ⟨v276, ee277⟩ : ∃ z : Int32, f179 33 = z := ⟨_, rfl⟩
      have b278 : Bd v276 (0) (12) := (by rw [← ee277]; exact b181.2.2.2.1 33 (by decide))
      have q279 : elm (S177 7) 33 = v276.toInt := (elm_of c180 33).trans (congrArg Int32.toInt (ee277))
      have q280 : elm (S153 7) 36 = v70.toInt := (elm_of c175 36).trans (congrArg Int32.toInt (ee71))
      obtain ⟨v281, ee282⟩ : ∃ z : Int32, f179 36 = z := ⟨_, rfl⟩
      have b283 : Bd v281 (0) (8) := (by rw [← ee282]; exact b181.2.2.2.2.1 36 (by decide))
      have q284 : elm (S177 7) 36 = v281.toInt := (elm_of c180 36).trans (congrArg Int32.toInt (ee282))
      have q285 : elm (S153 7) 38 = v73.toInt := (elm_of c175 38).trans (congrArg Int32.toInt (ee74))
      obtain ⟨v286, ee287⟩ : ∃ z : Int32, f179 38 = z := ⟨_, rfl⟩
      have b288 : Bd v286 (0) (3) := (by rw [← ee287]; exact b181.2.2.2.2.2.2.1 38 (by decide))
      have q289 : elm (S177 7) 38 = v286.toInt := (elm_of c180 38).trans (congrArg Int32.toInt (ee287))
      have q290 : elm (S153 7) 39 = v118.toInt := (elm_of c175 39).trans (congrArg Int32.toInt (ee119))
      obtain ⟨v291, ee292⟩ : ∃ z : Int32, f179 39 = z := ⟨_, rfl⟩
      have b293 : Bd v291 (0) (40) := (by rw [← ee292]; exact b181.2.2.2.2.2.2.2 39 (by decide))
      have q294 : elm (S177 7) 39 = v291.toInt := (elm_of c180 39).trans (congrArg Int32.toInt (ee292))
      have q295 : elm (S153 6) 0 = v22.toInt := (elm_of c176 0).trans (congrArg Int32.toInt (ee23))
      obtain ⟨f296, c297, b298⟩ := invM_6 hI
      obtain ⟨v299, ee300⟩ : ∃ z : Int32, f296 1 = z := ⟨_, rfl⟩
      have b301 : Bd v299 (0) (40000) := (by rw [← ee300]; exact b298 1)
      have q302 : elm (S177 6) 1 = v299.toInt := (elm_of c297 1).trans (congrArg Int32.toInt (ee300))
      obtain ⟨v303, ee304⟩ : ∃ z : Int32, f296 0 = z := ⟨_, rfl⟩
      have b305 : Bd v303 (0) (40000) := (by rw [← ee304]; exact b298 0)
      have q306 : elm (S177 6) 0 = v303.toInt := (elm_of c297 0).trans (congrArg Int32.toInt (ee304))
      have q307 : elm (S153 6) 2 = v58.toInt := (elm_of c176 2).trans (congrArg Int32.toInt (ee59))
      obtain ⟨v308, ee309⟩ : ∃ z : Int32, f296 2 = z := ⟨_, rfl⟩
      have b310 : Bd v308 (0) (40000) := (by rw [← ee309]; exact b298 2)
      have q311 : elm (S177 6) 2 = v308.toInt := (elm_of c297 2).trans (congrArg Int32.toInt (ee309))
      have q312 : elm (S153 6) 3 = v76.toInt := (elm_of c176 3).trans (congrArg Int32.toInt (ee77))
      obtain ⟨v313, ee314⟩ : ∃ z : Int32, f296 3 = z := ⟨_, rfl⟩
      have b315 : Bd v313 (0) (40000) := (by rw [← ee314]; exact b298 3)
      have q316 : elm (S177 6) 3 = v313.toInt := (elm_of c297 3).trans (congrArg Int32.toInt (ee314))
      refine lv_aload_n hx hb dX12_image_28 rfl (lv_at hl 0 rfl) ?_
      have c317 : S177 0 = .inr (12, [.int 0, .ref (ad 1), .ref (ad 2), .ref (ad 3), .ref (ad 4), .ref (ad 5), .int v125, .int v127, .int v129, .int v131, .int v132, .long w133, .int v134, .int v136, .int v137, .int v138, .ref (ad 6), .ref (ad 7), .ref (ad 8), .ref (ad 9), .ref (ad 10), .ref (ad 11), .ref (ad 12), .ref (ad 13), .ref (ad 14), .ref (ad 15), .int v139, .int v141, .ref (ad 16), .int v143, .int v145, .int v147, .int v149, .int v150, .ref (ad 17), .ref (ad 18), .int v151, .ref (ad 19)]) := ((o177 0 (by decide)).trans c154)
      refine xget E hQ 0 (by decide) c317 rfl 23 (by decide) q1491 rfl dX12_image_29 ?_
      refine lv_iload_n hx hb dX12_image_32 rfl (lv_at hl 1 rfl) ?_
      refine lv_iconst (v := 1) hx hb dX12_image_33 (by decide) ?_
      have c318 : S177 13 = .inl (g.2 3, 3, .inl f121) := ((o177 13 (by decide)).trans (up_ne eS153 (by decide) c122))
      refine xzast E hs hQ 13 (by decide) c318 (ib_in b167 (by decide) (by decide)) dX12_image_34 (fun H locs S319 eS319 hQ => ?_)
      have hI := invM_up_13 hI eS319 ⟨_, rfl, upd_b b123 (nar_z _)⟩
      have b321 : ∀ j, Bd ((upd f121 (a1 : Int32).toNatClampNeg (vp_nar .boolean 1)) j) (0) (1) := upd_b b123 (nar_z _)
      have c320 : S319 13 = .inl (g.2 3, 3, .inl (upd f121 (a1 : Int32).toNatClampNeg (vp_nar .boolean 1))) := up_at eS319 rfl
      refine lv_iconst (v := 0) hx hb dX12_image_35 (by decide) ?_
      have c322 : S319 7 = .inl (g.2 0, 50, .inl f179) := (up_ne eS319 (by decide) c180)
      have q323 : elm (S319 7) 1 = v215.toInt := (elm_of c322 1).trans (congrArg Int32.toInt (ee216))
      have q324 : elm (S319 7) 0 = v211.toInt := (elm_of c322 0).trans (congrArg Int32.toInt (ee212))
      have q325 : elm (S319 7) 3 = v219.toInt := (elm_of c322 3).trans (congrArg Int32.toInt (ee220))
      have q326 : elm (S319 7) 6 = v223.toInt := (elm_of c322 6).trans (congrArg Int32.toInt (ee224))
      have q327 : elm (S319 7) 8 = v227.toInt := (elm_of c322 8).trans (congrArg Int32.toInt (ee228))
      have c328 : S319 6 = .inl (g.2 0, 5, .inl f296) := (up_ne eS319 (by decide) c297)
      have q329 : elm (S319 6) 0 = v303.toInt := (elm_of c328 0).trans (congrArg Int32.toInt (ee304))
      have q330 : elm (S319 7) 11 = v187.toInt := (elm_of c322 11).trans (congrArg Int32.toInt (ee188))
      have q331 : elm (S319 7) 10 = v182.toInt := (elm_of c322 10).trans (congrArg Int32.toInt (ee183))
      have q332 : elm (S319 7) 13 = v192.toInt := (elm_of c322 13).trans (congrArg Int32.toInt (ee193))
      have q333 : elm (S319 7) 16 = v197.toInt := (elm_of c322 16).trans (congrArg Int32.toInt (ee198))
      have q334 : elm (S319 7) 18 = v202.toInt := (elm_of c322 18).trans (congrArg Int32.toInt (ee203))
      have q335 : elm (S319 6) 1 = v299.toInt := (elm_of c328 1).trans (congrArg Int32.toInt (ee300))
      have q336 : elm (S319 7) 21 = v241.toInt := (elm_of c322 21).trans (congrArg Int32.toInt (ee242))
      have q337 : elm (S319 7) 20 = v236.toInt := (elm_of c322 20).trans (congrArg Int32.toInt (ee237))
      have q338 : elm (S319 7) 23 = v246.toInt := (elm_of c322 23).trans (congrArg Int32.toInt (ee247))
      have q339 : elm (S319 7) 26 = v251.toInt := (elm_of c322 26).trans (congrArg Int32.toInt (ee252))
      have q340 : elm (S319 7) 28 = v256.toInt := (elm_of c322 28).trans (congrArg Int32.toInt (ee257))
      have q341 : elm (S319 6) 2 = v308.toInt := (elm_of c328 2).trans (congrArg Int32.toInt (ee309))
      have q342 : elm (S319 7) 31 = v271.toInt := (elm_of c322 31).trans (congrArg Int32.toInt (ee272))
      have q343 : elm (S319 7) 30 = v266.toInt := (elm_of c322 30).trans (congrArg Int32.toInt (ee267))
      have q344 : elm (S319 7) 33 = v276.toInt := (elm_of c322 33).trans (congrArg Int32.toInt (ee277))
      have q345 : elm (S319 7) 36 = v281.toInt := (elm_of c322 36).trans (congrArg Int32.toInt (ee282))
      have q346 : elm (S319 7) 38 = v286.toInt := (elm_of c322 38).trans (congrArg Int32.toInt (ee287))
      have q347 : elm (S319 6) 3 = v313.toInt := (elm_of c328 3).trans (congrArg Int32.toInt (ee314))
      exact xri E hr hlk hQ (⟨hI, (up_o (o_trans (up_o o_refl eS153 (by decide)) o177 (by decide)) eS319 (by decide)), (ib_wk (by decide : Bd 0 (0) (0)) (by decide) (by decide)), (by omega), (by omega), (by omega), (by omega), (by omega), (by omega), (by omega), (by omega), (by omega), (by omega), (by omega), (by omega), (by omega), (by omega), (by omega), (by omega), (by omega), (by omega), (by omega), (by omega), (at_tr u177_0 (up_eq (j := 7) eS319 (by decide)) (up_eq (j := 12) eS319 (by decide))), (at_tr u177_1 (up_eq (j := 7) eS319 (by decide)) (up_eq (j := 12) eS319 (by decide))), (at_tr u177_2 (up_eq (j := 7) eS319 (by decide)) (up_eq (j := 12) eS319 (by decide))), (at_tr u177_3 (up_eq (j := 7) eS319 (by decide)) (up_eq (j := 12) eS319 (by decide))), (ht_tr u177_4 (up_eq (j := 7) eS319 (by decide)) (up_eq (j := 9) eS319 (by decide))), (ht_tr u177_5 (up_eq (j := 7) eS319 (by decide)) (up_eq (j := 9) eS319 (by decide))), (ht_tr u177_6 (up_eq (j := 7) eS319 (by decide)) (up_eq (j := 9) eS319 (by decide))), (ht_tr u177_7 (up_eq (j := 7) eS319 (by decide)) (up_eq (j := 9) eS319 (by decide))), (by have h1 := u161_0; unfold InP at h1; unfold ansImage; rw [if_neg (by omega)]), (pu_st c122 c320 (by omega) (by decide))⟩) dX12_image_36
    · subst h172
      have q348 : (0 : Int32).toInt = 0 := by decide
      have q349 : (2 : Int32).toInt = 2 := by decide
      have c350 : S153 7 = .inl (g.2 0, 50, .inl f1) := (up_ne eS153 (by decide) c2)
      have c351 : S153 6 = .inl (g.2 0, 5, .inl f19) := (up_ne eS153 (by decide) c20)
      refine xcVv E hs hQ hml hl.1 0 (gX12_copyShore_0_2 l g ad hD S153 hI (at_tr hAT0 (up_eq (j := 7) eS153 (by decide)) (up_eq (j := 12) eS153 (by decide))) (at_tr hAT1 (up_eq (j := 7) eS153 (by decide)) (up_eq (j := 12) eS153 (by decide))) (at_tr hAT2 (up_eq (j := 7) eS153 (by decide)) (up_eq (j := 12) eS153 (by decide))) (at_tr hAT3 (up_eq (j := 7) eS153 (by decide)) (up_eq (j := 12) eS153 (by decide))) (ht_tr hHT0 (up_eq (j := 7) eS153 (by decide)) (up_eq (j := 9) eS153 (by decide))) (ht_tr hHT1 (up_eq (j := 7) eS153 (by decide)) (up_eq (j := 9) eS153 (by decide))) (ht_tr hHT2 (up_eq (j := 7) eS153 (by decide)) (up_eq (j := 9) eS153 (by decide))) (ht_tr hHT3 (up_eq (j := 7) eS153 (by decide)) (up_eq (j := 9) eS153 (by decide)))) mX12_copyShore q1739 (by decide) c154 rfl rfl ⟨(Nat.le_of_ble_eq_true rfl), (Nat.le_of_ble_eq_true rfl)⟩ ⟨(Nat.le_of_ble_eq_true rfl), (Nat.le_of_ble_eq_true rfl)⟩ (Nat.le_of_ble_eq_true rfl) rfl dX12_image_25 (fun S352 H locs hp352 hQ _ => ?_)
      obtain ⟨hI, o352, g352_0, g352_1, g352_2, g352_3, g352_4, g352_5, g352_6, g352_7, g352_8, g352_9, g352_10, g352_11, g352_12, g352_13, g352_14, g352_15, g352_16, g352_17, g352_18, g352_19, g352_20, g352_21, g352_22, g352_23, g352_24, g352_25, g352_26, g352_27, u352_0, u352_1, u352_2, u352_3, u352_4, u352_5, u352_6, u352_7⟩ := hp352
      have q353 : elm (S153 7) 0 = v7.toInt := (elm_of c350 0).trans (congrArg Int32.toInt (ee8))
      obtain ⟨f354, c355, b356⟩ := invM_7 hI
      obtain ⟨v357, ee358⟩ : ∃ z : Int32, f354 20 = z := ⟨_, rfl⟩
      have b359 : Bd v357 (0) (12) := (by rw [← ee358]; exact b356.1 20 (by decide))
      have q360 : elm (S352 7) 20 = v357.toInt := (elm_of c355 20).trans (congrArg Int32.toInt (ee358))
      have q361 : elm (S153 7) 1 = v4.toInt := (elm_of c350 1).trans (congrArg Int32.toInt (ee5))
      obtain ⟨v362, ee363⟩ : ∃ z : Int32, f354 21 = z := ⟨_, rfl⟩
      have b364 : Bd v362 (0) (12) := (by rw [← ee363]; exact b356.2.1 21 (by decide))
      have q365 : elm (S352 7) 21 = v362.toInt := (elm_of c355 21).trans (congrArg Int32.toInt (ee363))
      have q366 : elm (S153 7) 3 = v10.toInt := (elm_of c350 3).trans (congrArg Int32.toInt (ee11))
      obtain ⟨v367, ee368⟩ : ∃ z : Int32, f354 23 = z := ⟨_, rfl⟩
      have b369 : Bd v367 (0) (12) := (by rw [← ee368]; exact b356.2.2.2.1 23 (by decide))
      have q370 : elm (S352 7) 23 = v367.toInt := (elm_of c355 23).trans (congrArg Int32.toInt (ee368))
      have q371 : elm (S153 7) 6 = v13.toInt := (elm_of c350 6).trans (congrArg Int32.toInt (ee14))
      obtain ⟨v372, ee373⟩ : ∃ z : Int32, f354 26 = z := ⟨_, rfl⟩
      have b374 : Bd v372 (0) (8) := (by rw [← ee373]; exact b356.2.2.2.2.1 26 (by decide))
      have q375 : elm (S352 7) 26 = v372.toInt := (elm_of c355 26).trans (congrArg Int32.toInt (ee373))
      have q376 : elm (S153 7) 8 = v16.toInt := (elm_of c350 8).trans (congrArg Int32.toInt (ee17))
      obtain ⟨v377, ee378⟩ : ∃ z : Int32, f354 28 = z := ⟨_, rfl⟩
      have b379 : Bd v377 (0) (3) := (by rw [← ee378]; exact b356.2.2.2.2.2.2.1 28 (by decide))
      have q380 : elm (S352 7) 28 = v377.toInt := (elm_of c355 28).trans (congrArg Int32.toInt (ee378))
      have q381 : elm (S153 7) 9 = v109.toInt := (elm_of c350 9).trans (congrArg Int32.toInt (ee110))
      obtain ⟨v382, ee383⟩ : ∃ z : Int32, f354 29 = z := ⟨_, rfl⟩
      have b384 : Bd v382 (0) (40) := (by rw [← ee383]; exact b356.2.2.2.2.2.2.2 29 (by decide))
      have q385 : elm (S352 7) 29 = v382.toInt := (elm_of c355 29).trans (congrArg Int32.toInt (ee383))
      obtain ⟨v386, ee387⟩ : ∃ z : Int32, f354 0 = z := ⟨_, rfl⟩
      have b388 : Bd v386 (0) (12) := (by rw [← ee387]; exact b356.1 0 (by decide))
      have q389 : elm (S352 7) 0 = v386.toInt := (elm_of c355 0).trans (congrArg Int32.toInt (ee387))
      obtain ⟨v390, ee391⟩ : ∃ z : Int32, f354 1 = z := ⟨_, rfl⟩
      have b392 : Bd v390 (0) (12) := (by rw [← ee391]; exact b356.2.1 1 (by decide))
      have q393 : elm (S352 7) 1 = v390.toInt := (elm_of c355 1).trans (congrArg Int32.toInt (ee391))
      obtain ⟨v394, ee395⟩ : ∃ z : Int32, f354 3 = z := ⟨_, rfl⟩
      have b396 : Bd v394 (0) (12) := (by rw [← ee395]; exact b356.2.2.2.1 3 (by decide))
      have q397 : elm (S352 7) 3 = v394.toInt := (elm_of c355 3).trans (congrArg Int32.toInt (ee395))
      obtain ⟨v398, ee399⟩ : ∃ z : Int32, f354 6 = z := ⟨_, rfl⟩
      have b400 : Bd v398 (0) (8) := (by rw [← ee399]; exact b356.2.2.2.2.1 6 (by decide))
      have q401 : elm (S352 7) 6 = v398.toInt := (elm_of c355 6).trans (congrArg Int32.toInt (ee399))
      obtain ⟨v402, ee403⟩ : ∃ z : Int32, f354 8 = z := ⟨_, rfl⟩
      have b404 : Bd v402 (0) (3) := (by rw [← ee403]; exact b356.2.2.2.2.2.2.1 8 (by decide))
      have q405 : elm (S352 7) 8 = v402.toInt := (elm_of c355 8).trans (congrArg Int32.toInt (ee403))
      obtain ⟨v406, ee407⟩ : ∃ z : Int32, f354 9 = z := ⟨_, rfl⟩
      have b408 : Bd v406 (0) (40) := (by rw [← ee407]; exact b356.2.2.2.2.2.2.2 9 (by decide))
      have q409 : elm (S352 7) 9 = v406.toInt := (elm_of c355 9).trans (congrArg Int32.toInt (ee407))
      have q410 : elm (S153 7) 10 = v28.toInt := (elm_of c350 10).trans (congrArg Int32.toInt (ee29))
      obtain ⟨v411, ee412⟩ : ∃ z : Int32, f354 10 = z := ⟨_, rfl⟩
      have b413 : Bd v411 (0) (12) := (by rw [← ee412]; exact b356.1 10 (by decide))
      have q414 : elm (S352 7) 10 = v411.toInt := (elm_of c355 10).trans (congrArg Int32.toInt (ee412))
      have q415 : elm (S153 7) 11 = v25.toInt := (elm_of c350 11).trans (congrArg Int32.toInt (ee26))
      obtain ⟨v416, ee417⟩ : ∃ z : Int32, f354 11 = z := ⟨_, rfl⟩
      have b418 : Bd v416 (0) (12) := (by rw [← ee417]; exact b356.2.1 11 (by decide))
      have q419 : elm (S352 7) 11 = v416.toInt := (elm_of c355 11).trans (congrArg Int32.toInt (ee417))
      have q420 : elm (S153 7) 13 = v31.toInt := (elm_of c350 13).trans (congrArg Int32.toInt (ee32))
      obtain ⟨v421, ee422⟩ : ∃ z : Int32, f354 13 = z := ⟨_, rfl⟩
      have b423 : Bd v421 (0) (12) := (by rw [← ee422]; exact b356.2.2.2.1 13 (by decide))
      have q424 : elm (S352 7) 13 = v421.toInt := (elm_of c355 13).trans (congrArg Int32.toInt (ee422))
      have q425 : elm (S153 7) 16 = v34.toInt := (elm_of c350 16).trans (congrArg Int32.toInt (ee35))
      obtain ⟨v426, ee427⟩ : ∃ z : Int32, f354 16 = z := ⟨_, rfl⟩
      have b428 : Bd v426 (0) (8) := (by rw [← ee427]; exact b356.2.2.2.2.1 16 (by decide))
      have q429 : elm (S352 7) 16 = v426.toInt := (elm_of c355 16).trans (congrArg Int32.toInt (ee427))
      have q430 : elm (S153 7) 18 = v37.toInt := (elm_of c350 18).trans (congrArg Int32.toInt (ee38))
      obtain ⟨v431, ee432⟩ : ∃ z : Int32, f354 18 = z := ⟨_, rfl⟩
      have b433 : Bd v431 (0) (3) := (by rw [← ee432]; exact b356.2.2.2.2.2.2.1 18 (by decide))
      have q434 : elm (S352 7) 18 = v431.toInt := (elm_of c355 18).trans (congrArg Int32.toInt (ee432))
      have q435 : elm (S153 7) 19 = v112.toInt := (elm_of c350 19).trans (congrArg Int32.toInt (ee113))
      obtain ⟨v436, ee437⟩ : ∃ z : Int32, f354 19 = z := ⟨_, rfl⟩
      have b438 : Bd v436 (0) (40) := (by rw [← ee437]; exact b356.2.2.2.2.2.2.2 19 (by decide))
      have q439 : elm (S352 7) 19 = v436.toInt := (elm_of c355 19).trans (congrArg Int32.toInt (ee437))
      have q440 : elm (S153 7) 30 = v64.toInt := (elm_of c350 30).trans (congrArg Int32.toInt (ee65))
      obtain ⟨v441, ee442⟩ : ∃ z : Int32, f354 30 = z := ⟨_, rfl⟩
      have b443 : Bd v441 (0) (12) := (by rw [← ee442]; exact b356.1 30 (by decide))
      have q444 : elm (S352 7) 30 = v441.toInt := (elm_of c355 30).trans (congrArg Int32.toInt (ee442))
      have q445 : elm (S153 7) 31 = v61.toInt := (elm_of c350 31).trans (congrArg Int32.toInt (ee62))
      obtain ⟨v446, ee447⟩ : ∃ z : Int32, f354 31 = z := ⟨_, rfl⟩
      have b448 : Bd v446 (0) (12) := (by rw [← ee447]; exact b356.2.1 31 (by decide))
      have q449 : elm (S352 7) 31 = v446.toInt := (elm_of c355 31).trans (congrArg Int32.toInt (ee447))
      have q450 : elm (S153 7) 33 = v67.toInt := (elm_of c350 33).trans (congrArg Int32.toInt (ee68))
      obtain ⟨v451, ee452⟩ : ∃ z : Int32, f354 33 = z := ⟨_, rfl⟩
      have b453 : Bd v451 (0) (12) := (by rw [← ee452]; exact b356.2.2.2.1 33 (by decide))
      have q454 : elm (S352 7) 33 = v451.toInt := (elm_of c355 33).trans (congrArg Int32.toInt (ee452))
      have q455 : elm (S153 7) 36 = v70.toInt := (elm_of c350 36).trans (congrArg Int32.toInt (ee71))
      obtain ⟨v456, ee457⟩ : ∃ z : Int32, f354 36 = z := ⟨_, rfl⟩
      have b458 : Bd v456 (0) (8) := (by rw [← ee457]; exact b356.2.2.2.2.1 36 (by decide))
      have q459 : elm (S352 7) 36 = v456.toInt := (elm_of c355 36).trans (congrArg Int32.toInt (ee457))
      have q460 : elm (S153 7) 38 = v73.toInt := (elm_of c350 38).trans (congrArg Int32.toInt (ee74))
      obtain ⟨v461, ee462⟩ : ∃ z : Int32, f354 38 = z := ⟨_, rfl⟩
      have b463 : Bd v461 (0) (3) := (by rw [← ee462]; exact b356.2.2.2.2.2.2.1 38 (by decide))
      have q464 : elm (S352 7) 38 = v461.toInt := (elm_of c355 38).trans (congrArg Int32.toInt (ee462))
      have q465 : elm (S153 7) 39 = v118.toInt := (elm_of c350 39).trans (congrArg Int32.toInt (ee119))
      obtain ⟨v466, ee467⟩ : ∃ z : Int32, f354 39 = z := ⟨_, rfl⟩
      have b468 : Bd v466 (0) (40) := (by rw [← ee467]; exact b356.2.2.2.2.2.2.2 39 (by decide))
      have q469 : elm (S352 7) 39 = v466.toInt := (elm_of c355 39).trans (congrArg Int32.toInt (ee467))
      have q470 : elm (S153 6) 0 = v22.toInt := (elm_of c351 0).trans (congrArg Int32.toInt (ee23))
      obtain ⟨f471, c472, b473⟩ := invM_6 hI
      obtain ⟨v474, ee475⟩ : ∃ z : Int32, f471 2 = z := ⟨_, rfl⟩
      have b476 : Bd v474 (0) (40000) := (by rw [← ee475]; exact b473 2)
      have q477 : elm (S352 6) 2 = v474.toInt := (elm_of c472 2).trans (congrArg Int32.toInt (ee475))
      obtain ⟨v478, ee479⟩ : ∃ z : Int32, f471 0 = z := ⟨_, rfl⟩
      have b480 : Bd v478 (0) (40000) := (by rw [← ee479]; exact b473 0)
      have q481 : elm (S352 6) 0 = v478.toInt := (elm_of c472 0).trans (congrArg Int32.toInt (ee479))
      have q482 : elm (S153 6) 1 = v40.toInt := (elm_of c351 1).trans (congrArg Int32.toInt (ee41))
      obtain ⟨v483, ee484⟩ : ∃ z : Int32, f471 1 = z := ⟨_, rfl⟩
      have b485 : Bd v483 (0) (40000) := (by rw [← ee484]; exact b473 1)
      have q486 : elm (S352 6) 1 = v483.toInt := (elm_of c472 1).trans (congrArg Int32.toInt (ee484))
      have q487 : elm (S153 6) 3 = v76.toInt := (elm_of c351 3).trans (congrArg Int32.toInt (ee77))
      obtain ⟨v488, ee489⟩ : ∃ z : Int32, f471 3 = z := ⟨_, rfl⟩
      have b490 : Bd v488 (0) (40000) := (by rw [← ee489]; exact b473 3)
      have q491 : elm (S352 6) 3 = v488.toInt := (elm_of c472 3).trans (congrArg Int32.toInt (ee489))
      refine lv_aload_n hx hb dX12_image_28 rfl (lv_at hl 0 rfl) ?_
      have c492 : S352 0 = .inr (12, [.int 0, .ref (ad 1), .ref (ad 2), .ref (ad 3), .ref (ad 4), .ref (ad 5), .int v125, .int v127, .int v129, .int v131, .int v132, .long w133, .int v134, .int v136, .int v137, .int v138, .ref (ad 6), .ref (ad 7), .ref (ad 8), .ref (ad 9), .ref (ad 10), .ref (ad 11), .ref (ad 12), .ref (ad 13), .ref (ad 14), .ref (ad 15), .int v139, .int v141, .ref (ad 16), .int v143, .int v145, .int v147, .int v149, .int v150, .ref (ad 17), .ref (ad 18), .int v151, .ref (ad 19)]) := ((o352 0 (by decide)).trans c154)
      refine xget E hQ 0 (by decide) c492 rfl 23 (by decide) q1491 rfl dX12_image_29 ?_
      refine lv_iload_n hx hb dX12_image_32 rfl (lv_at hl 1 rfl) ?_
      refine lv_iconst (v := 1) hx hb dX12_image_33 (by decide) ?_
      have c493 : S352 13 = .inl (g.2 3, 3, .inl f121) := ((o352 13 (by decide)).trans (up_ne eS153 (by decide) c122))
      refine xzast E hs hQ 13 (by decide) c493 (ib_in b167 (by decide) (by decide)) dX12_image_34 (fun H locs S494 eS494 hQ => ?_)
      have hI := invM_up_13 hI eS494 ⟨_, rfl, upd_b b123 (nar_z _)⟩
      have b496 : ∀ j, Bd ((upd f121 (a1 : Int32).toNatClampNeg (vp_nar .boolean 1)) j) (0) (1) := upd_b b123 (nar_z _)
      have c495 : S494 13 = .inl (g.2 3, 3, .inl (upd f121 (a1 : Int32).toNatClampNeg (vp_nar .boolean 1))) := up_at eS494 rfl
      refine lv_iconst (v := 0) hx hb dX12_image_35 (by decide) ?_
      have c497 : S494 7 = .inl (g.2 0, 50, .inl f354) := (up_ne eS494 (by decide) c355)
      have q498 : elm (S494 7) 1 = v390.toInt := (elm_of c497 1).trans (congrArg Int32.toInt (ee391))
      have q499 : elm (S494 7) 0 = v386.toInt := (elm_of c497 0).trans (congrArg Int32.toInt (ee387))
      have q500 : elm (S494 7) 3 = v394.toInt := (elm_of c497 3).trans (congrArg Int32.toInt (ee395))
      have q501 : elm (S494 7) 6 = v398.toInt := (elm_of c497 6).trans (congrArg Int32.toInt (ee399))
      have q502 : elm (S494 7) 8 = v402.toInt := (elm_of c497 8).trans (congrArg Int32.toInt (ee403))
      have c503 : S494 6 = .inl (g.2 0, 5, .inl f471) := (up_ne eS494 (by decide) c472)
      have q504 : elm (S494 6) 0 = v478.toInt := (elm_of c503 0).trans (congrArg Int32.toInt (ee479))
      have q505 : elm (S494 7) 11 = v416.toInt := (elm_of c497 11).trans (congrArg Int32.toInt (ee417))
      have q506 : elm (S494 7) 10 = v411.toInt := (elm_of c497 10).trans (congrArg Int32.toInt (ee412))
      have q507 : elm (S494 7) 13 = v421.toInt := (elm_of c497 13).trans (congrArg Int32.toInt (ee422))
      have q508 : elm (S494 7) 16 = v426.toInt := (elm_of c497 16).trans (congrArg Int32.toInt (ee427))
      have q509 : elm (S494 7) 18 = v431.toInt := (elm_of c497 18).trans (congrArg Int32.toInt (ee432))
      have q510 : elm (S494 6) 1 = v483.toInt := (elm_of c503 1).trans (congrArg Int32.toInt (ee484))
      have q511 : elm (S494 7) 21 = v362.toInt := (elm_of c497 21).trans (congrArg Int32.toInt (ee363))
      have q512 : elm (S494 7) 20 = v357.toInt := (elm_of c497 20).trans (congrArg Int32.toInt (ee358))
      have q513 : elm (S494 7) 23 = v367.toInt := (elm_of c497 23).trans (congrArg Int32.toInt (ee368))
      have q514 : elm (S494 7) 26 = v372.toInt := (elm_of c497 26).trans (congrArg Int32.toInt (ee373))
      have q515 : elm (S494 7) 28 = v377.toInt := (elm_of c497 28).trans (congrArg Int32.toInt (ee378))
      have q516 : elm (S494 6) 2 = v474.toInt := (elm_of c503 2).trans (congrArg Int32.toInt (ee475))
      have q517 : elm (S494 7) 31 = v446.toInt := (elm_of c497 31).trans (congrArg Int32.toInt (ee447))
      have q518 : elm (S494 7) 30 = v441.toInt := (elm_of c497 30).trans (congrArg Int32.toInt (ee442))
      have q519 : elm (S494 7) 33 = v451.toInt := (elm_of c497 33).trans (congrArg Int32.toInt (ee452))
      have q520 : elm (S494 7) 36 = v456.toInt := (elm_of c497 36).trans (congrArg Int32.toInt (ee457))
      have q521 : elm (S494 7) 38 = v461.toInt := (elm_of c497 38).trans (congrArg Int32.toInt (ee462))
      have q522 : elm (S494 6) 3 = v488.toInt := (elm_of c503 3).trans (congrArg Int32.toInt (ee489))
      exact xri E hr hlk hQ (⟨hI, (up_o (o_trans (up_o o_refl eS153 (by decide)) o352 (by decide)) eS494 (by decide)), (ib_wk (by decide : Bd 0 (0) (0)) (by decide) (by decide)), (by omega), (by omega), (by omega), (by omega), (by omega), (by omega), (by omega), (by omega), (by omega), (by omega), (by omega), (by omega), (by omega), (by omega), (by omega), (by omega), (by omega), (by omega), (by omega), (by omega), (at_tr u352_0 (up_eq (j := 7) eS494 (by decide)) (up_eq (j := 12) eS494 (by decide))), (at_tr u352_1 (up_eq (j := 7) eS494 (by decide)) (up_eq (j := 12) eS494 (by decide))), (at_tr u352_2 (up_eq (j := 7) eS494 (by decide)) (up_eq (j := 12) eS494 (by decide))), (at_tr u352_3 (up_eq (j := 7) eS494 (by decide)) (up_eq (j := 12) eS494 (by decide))), (ht_tr u352_4 (up_eq (j := 7) eS494 (by decide)) (up_eq (j := 9) eS494 (by decide))), (ht_tr u352_5 (up_eq (j := 7) eS494 (by decide)) (up_eq (j := 9) eS494 (by decide))), (ht_tr u352_6 (up_eq (j := 7) eS494 (by decide)) (up_eq (j := 9) eS494 (by decide))), (ht_tr u352_7 (up_eq (j := 7) eS494 (by decide)) (up_eq (j := 9) eS494 (by decide))), (by have h1 := u161_0; unfold InP at h1; unfold ansImage; rw [if_neg (by omega)]), (pu_st c122 c495 (by omega) (by decide))⟩) dX12_image_36
    · subst h172
      have q523 : (0 : Int32).toInt = 0 := by decide
      have q524 : (3 : Int32).toInt = 3 := by decide
      have c525 : S153 7 = .inl (g.2 0, 50, .inl f1) := (up_ne eS153 (by decide) c2)
      have c526 : S153 6 = .inl (g.2 0, 5, .inl f19) := (up_ne eS153 (by decide) c20)
      refine xcVv E hs hQ hml hl.1 0 (gX12_copyShore_0_3 l g ad hD S153 hI (at_tr hAT0 (up_eq (j := 7) eS153 (by decide)) (up_eq (j := 12) eS153 (by decide))) (at_tr hAT1 (up_eq (j := 7) eS153 (by decide)) (up_eq (j := 12) eS153 (by decide))) (at_tr hAT2 (up_eq (j := 7) eS153 (by decide)) (up_eq (j := 12) eS153 (by decide))) (at_tr hAT3 (up_eq (j := 7) eS153 (by decide)) (up_eq (j := 12) eS153 (by decide))) (ht_tr hHT0 (up_eq (j := 7) eS153 (by decide)) (up_eq (j := 9) eS153 (by decide))) (ht_tr hHT1 (up_eq (j := 7) eS153 (by decide)) (up_eq (j := 9) eS153 (by decide))) (ht_tr hHT2 (up_eq (j := 7) eS153 (by decide)) (up_eq (j := 9) eS153 (by decide))) (ht_tr hHT3 (up_eq (j := 7) eS153 (by decide)) (up_eq (j := 9) eS153 (by decide)))) mX12_copyShore q1739 (by decide) c154 rfl rfl ⟨(Nat.le_of_ble_eq_true rfl), (Nat.le_of_ble_eq_true rfl)⟩ ⟨(Nat.le_of_ble_eq_true rfl), (Nat.le_of_ble_eq_true rfl)⟩ (Nat.le_of_ble_eq_true rfl) rfl dX12_image_25 (fun S527 H locs hp527 hQ _ => ?_)
      obtain ⟨hI, o527, g527_0, g527_1, g527_2, g527_3, g527_4, g527_5, g527_6, g527_7, g527_8, g527_9, g527_10, g527_11, g527_12, g527_13, g527_14, g527_15, g527_16, g527_17, g527_18, g527_19, g527_20, g527_21, g527_22, g527_23, g527_24, g527_25, g527_26, g527_27, u527_0, u527_1, u527_2, u527_3, u527_4, u527_5, u527_6, u527_7⟩ := hp527
      have q528 : elm (S153 7) 0 = v7.toInt := (elm_of c525 0).trans (congrArg Int32.toInt (ee8))
      obtain ⟨f529, c530, b531⟩ := invM_7 hI
      obtain ⟨v532, ee533⟩ : ∃ z : Int32, f529 30 = z := ⟨_, rfl⟩
      have b534 : Bd v532 (0) (12) := (by rw [← ee533]; exact b531.1 30 (by decide))
      have q535 : elm (S527 7) 30 = v532.toInt := (elm_of c530 30).trans (congrArg Int32.toInt (ee533))
      have q536 : elm (S153 7) 1 = v4.toInt := (elm_of c525 1).trans (congrArg Int32.toInt (ee5))
      obtain ⟨v537, ee538⟩ : ∃ z : Int32, f529 31 = z := ⟨_, rfl⟩
      have b539 : Bd v537 (0) (12) := (by rw [← ee538]; exact b531.2.1 31 (by decide))
      have q540 : elm (S527 7) 31 = v537.toInt := (elm_of c530 31).trans (congrArg Int32.toInt (ee538))
      have q541 : elm (S153 7) 3 = v10.toInt := (elm_of c525 3).trans (congrArg Int32.toInt (ee11))
      obtain ⟨v542, ee543⟩ : ∃ z : Int32, f529 33 = z := ⟨_, rfl⟩
      have b544 : Bd v542 (0) (12) := (by rw [← ee543]; exact b531.2.2.2.1 33 (by decide))
      have q545 : elm (S527 7) 33 = v542.toInt := (elm_of c530 33).trans (congrArg Int32.toInt (ee543))
      have q546 : elm (S153 7) 6 = v13.toInt := (elm_of c525 6).trans (congrArg Int32.toInt (ee14))
      obtain ⟨v547, ee548⟩ : ∃ z : Int32, f529 36 = z := ⟨_, rfl⟩
      have b549 : Bd v547 (0) (8) := (by rw [← ee548]; exact b531.2.2.2.2.1 36 (by decide))
      have q550 : elm (S527 7) 36 = v547.toInt := (elm_of c530 36).trans (congrArg Int32.toInt (ee548))
      have q551 : elm (S153 7) 8 = v16.toInt := (elm_of c525 8).trans (congrArg Int32.toInt (ee17))
      obtain ⟨v552, ee553⟩ : ∃ z : Int32, f529 38 = z := ⟨_, rfl⟩
      have b554 : Bd v552 (0) (3) := (by rw [← ee553]; exact b531.2.2.2.2.2.2.1 38 (by decide))
      have q555 : elm (S527 7) 38 = v552.toInt := (elm_of c530 38).trans (congrArg Int32.toInt (ee553))
      have q556 : elm (S153 7) 9 = v109.toInt := (elm_of c525 9).trans (congrArg Int32.toInt (ee110))
      obtain ⟨v557, ee558⟩ : ∃ z : Int32, f529 39 = z := ⟨_, rfl⟩
      have b559 : Bd v557 (0) (40) := (by rw [← ee558]; exact b531.2.2.2.2.2.2.2 39 (by decide))
      have q560 : elm (S527 7) 39 = v557.toInt := (elm_of c530 39).trans (congrArg Int32.toInt (ee558))
      obtain ⟨v561, ee562⟩ : ∃ z : Int32, f529 0 = z := ⟨_, rfl⟩
      have b563 : Bd v561 (0) (12) := (by rw [← ee562]; exact b531.1 0 (by decide))
      have q564 : elm (S527 7) 0 = v561.toInt := (elm_of c530 0).trans (congrArg Int32.toInt (ee562))
      obtain ⟨v565, ee566⟩ : ∃ z : Int32, f529 1 = z := ⟨_, rfl⟩
      have b567 : Bd v565 (0) (12) := (by rw [← ee566]; exact b531.2.1 1 (by decide))
      have q568 : elm (S527 7) 1 = v565.toInt := (elm_of c530 1).trans (congrArg Int32.toInt (ee566))
      obtain ⟨v569, ee570⟩ : ∃ z : Int32, f529 3 = z := ⟨_, rfl⟩
      have b571 : Bd v569 (0) (12) := (by rw [← ee570]; exact b531.2.2.2.1 3 (by decide))
      have q572 : elm (S527 7) 3 = v569.toInt := (elm_of c530 3).trans (congrArg Int32.toInt (ee570))
      obtain ⟨v573, ee574⟩ : ∃ z : Int32, f529 6 = z := ⟨_, rfl⟩
      have b575 : Bd v573 (0) (8) := (by rw [← ee574]; exact b531.2.2.2.2.1 6 (by decide))
      have q576 : elm (S527 7) 6 = v573.toInt := (elm_of c530 6).trans (congrArg Int32.toInt (ee574))
      obtain ⟨v577, ee578⟩ : ∃ z : Int32, f529 8 = z := ⟨_, rfl⟩
      have b579 : Bd v577 (0) (3) := (by rw [← ee578]; exact b531.2.2.2.2.2.2.1 8 (by decide))
      have q580 : elm (S527 7) 8 = v577.toInt := (elm_of c530 8).trans (congrArg Int32.toInt (ee578))
      obtain ⟨v581, ee582⟩ : ∃ z : Int32, f529 9 = z := ⟨_, rfl⟩
      have b583 : Bd v581 (0) (40) := (by rw [← ee582]; exact b531.2.2.2.2.2.2.2 9 (by decide))
      have q584 : elm (S527 7) 9 = v581.toInt := (elm_of c530 9).trans (congrArg Int32.toInt (ee582))
      have q585 : elm (S153 7) 10 = v28.toInt := (elm_of c525 10).trans (congrArg Int32.toInt (ee29))
      obtain ⟨v586, ee587⟩ : ∃ z : Int32, f529 10 = z := ⟨_, rfl⟩
      have b588 : Bd v586 (0) (12) := (by rw [← ee587]; exact b531.1 10 (by decide))
      have q589 : elm (S527 7) 10 = v586.toInt := (elm_of c530 10).trans (congrArg Int32.toInt (ee587))
      have q590 : elm (S153 7) 11 = v25.toInt := (elm_of c525 11).trans (congrArg Int32.toInt (ee26))
      obtain ⟨v591, ee592⟩ : ∃ z : Int32, f529 11 = z := ⟨_, rfl⟩
      have b593 : Bd v591 (0) (12) := (by rw [← ee592]; exact b531.2.1 11 (by decide))
      have q594 : elm (S527 7) 11 = v591.toInt := (elm_of c530 11).trans (congrArg Int32.toInt (ee592))
      have q595 : elm (S153 7) 13 = v31.toInt := (elm_of c525 13).trans (congrArg Int32.toInt (ee32))
      obtain ⟨v596, ee597⟩ : ∃ z : Int32, f529 13 = z := ⟨_, rfl⟩
      have b598 : Bd v596 (0) (12) := (by rw [← ee597]; exact b531.2.2.2.1 13 (by decide))
      have q599 : elm (S527 7) 13 = v596.toInt := (elm_of c530 13).trans (congrArg Int32.toInt (ee597))
      have q600 : elm (S153 7) 16 = v34.toInt := (elm_of c525 16).trans (congrArg Int32.toInt (ee35))
      obtain ⟨v601, ee602⟩ : ∃ z : Int32, f529 16 = z := ⟨_, rfl⟩
      have b603 : Bd v601 (0) (8) := (by rw [← ee602]; exact b531.2.2.2.2.1 16 (by decide))
      have q604 : elm (S527 7) 16 = v601.toInt := (elm_of c530 16).trans (congrArg Int32.toInt (ee602))
      have q605 : elm (S153 7) 18 = v37.toInt := (elm_of c525 18).trans (congrArg Int32.toInt (ee38))
      obtain ⟨v606, ee607⟩ : ∃ z : Int32, f529 18 = z := ⟨_, rfl⟩
      have b608 : Bd v606 (0) (3) := (by rw [← ee607]; exact b531.2.2.2.2.2.2.1 18 (by decide))
      have q609 : elm (S527 7) 18 = v606.toInt := (elm_of c530 18).trans (congrArg Int32.toInt (ee607))
      have q610 : elm (S153 7) 19 = v112.toInt := (elm_of c525 19).trans (congrArg Int32.toInt (ee113))
      obtain ⟨v611, ee612⟩ : ∃ z : Int32, f529 19 = z := ⟨_, rfl⟩
      have b613 : Bd v611 (0) (40) := (by rw [← ee612]; exact b531.2.2.2.2.2.2.2 19 (by decide))
      have q614 : elm (S527 7) 19 = v611.toInt := (elm_of c530 19).trans (congrArg Int32.toInt (ee612))
      have q615 : elm (S153 7) 20 = v46.toInt := (elm_of c525 20).trans (congrArg Int32.toInt (ee47))
      obtain ⟨v616, ee617⟩ : ∃ z : Int32, f529 20 = z := ⟨_, rfl⟩
      have b618 : Bd v616 (0) (12) := (by rw [← ee617]; exact b531.1 20 (by decide))
      have q619 : elm (S527 7) 20 = v616.toInt := (elm_of c530 20).trans (congrArg Int32.toInt (ee617))
      have q620 : elm (S153 7) 21 = v43.toInt := (elm_of c525 21).trans (congrArg Int32.toInt (ee44))
      obtain ⟨v621, ee622⟩ : ∃ z : Int32, f529 21 = z := ⟨_, rfl⟩
      have b623 : Bd v621 (0) (12) := (by rw [← ee622]; exact b531.2.1 21 (by decide))
      have q624 : elm (S527 7) 21 = v621.toInt := (elm_of c530 21).trans (congrArg Int32.toInt (ee622))
      have q625 : elm (S153 7) 23 = v49.toInt := (elm_of c525 23).trans (congrArg Int32.toInt (ee50))
      obtain ⟨v626, ee627⟩ : ∃ z : Int32, f529 23 = z := ⟨_, rfl⟩
      have b628 : Bd v626 (0) (12) := (by rw [← ee627]; exact b531.2.2.2.1 23 (by decide))
      have q629 : elm (S527 7) 23 = v626.toInt := (elm_of c530 23).trans (congrArg Int32.toInt (ee627))
      have q630 : elm (S153 7) 26 = v52.toInt := (elm_of c525 26).trans (congrArg Int32.toInt (ee53))
      obtain ⟨v631, ee632⟩ : ∃ z : Int32, f529 26 = z := ⟨_, rfl⟩
      have b633 : Bd v631 (0) (8) := (by rw [← ee632]; exact b531.2.2.2.2.1 26 (by decide))
      have q634 : elm (S527 7) 26 = v631.toInt := (elm_of c530 26).trans (congrArg Int32.toInt (ee632))
      have q635 : elm (S153 7) 28 = v55.toInt := (elm_of c525 28).trans (congrArg Int32.toInt (ee56))
      obtain ⟨v636, ee637⟩ : ∃ z : Int32, f529 28 = z := ⟨_, rfl⟩
      have b638 : Bd v636 (0) (3) := (by rw [← ee637]; exact b531.2.2.2.2.2.2.1 28 (by decide))
      have q639 : elm (S527 7) 28 = v636.toInt := (elm_of c530 28).trans (congrArg Int32.toInt (ee637))
      have q640 : elm (S153 7) 29 = v115.toInt := (elm_of c525 29).trans (congrArg Int32.toInt (ee116))
      obtain ⟨v641, ee642⟩ : ∃ z : Int32, f529 29 = z := ⟨_, rfl⟩
      have b643 : Bd v641 (0) (40) := (by rw [← ee642]; exact b531.2.2.2.2.2.2.2 29 (by decide))
      have q644 : elm (S527 7) 29 = v641.toInt := (elm_of c530 29).trans (congrArg Int32.toInt (ee642))
      have q645 : elm (S153 6) 0 = v22.toInt := (elm_of c526 0).trans (congrArg Int32.toInt (ee23))
      obtain ⟨f646, c647, b648⟩ := invM_6 hI
      obtain ⟨v649, ee650⟩ : ∃ z : Int32, f646 3 = z := ⟨_, rfl⟩
      have b651 : Bd v649 (0) (40000) := (by rw [← ee650]; exact b648 3)
      have q652 : elm (S527 6) 3 = v649.toInt := (elm_of c647 3).trans (congrArg Int32.toInt (ee650))
      obtain ⟨v653, ee654⟩ : ∃ z : Int32, f646 0 = z := ⟨_, rfl⟩
      have b655 : Bd v653 (0) (40000) := (by rw [← ee654]; exact b648 0)
      have q656 : elm (S527 6) 0 = v653.toInt := (elm_of c647 0).trans (congrArg Int32.toInt (ee654))
      have q657 : elm (S153 6) 1 = v40.toInt := (elm_of c526 1).trans (congrArg Int32.toInt (ee41))
      obtain ⟨v658, ee659⟩ : ∃ z : Int32, f646 1 = z := ⟨_, rfl⟩
      have b660 : Bd v658 (0) (40000) := (by rw [← ee659]; exact b648 1)
      have q661 : elm (S527 6) 1 = v658.toInt := (elm_of c647 1).trans (congrArg Int32.toInt (ee659))
      have q662 : elm (S153 6) 2 = v58.toInt := (elm_of c526 2).trans (congrArg Int32.toInt (ee59))
      obtain ⟨v663, ee664⟩ : ∃ z : Int32, f646 2 = z := ⟨_, rfl⟩
      have b665 : Bd v663 (0) (40000) := (by rw [← ee664]; exact b648 2)
      have q666 : elm (S527 6) 2 = v663.toInt := (elm_of c647 2).trans (congrArg Int32.toInt (ee664))
      refine lv_aload_n hx hb dX12_image_28 rfl (lv_at hl 0 rfl) ?_
      have c667 : S527 0 = .inr (12, [.int 0, .ref (ad 1), .ref (ad 2), .ref (ad 3), .ref (ad 4), .ref (ad 5), .int v125, .int v127, .int v129, .int v131, .int v132, .long w133, .int v134, .int v136, .int v137, .int v138, .ref (ad 6), .ref (ad 7), .ref (ad 8), .ref (ad 9), .ref (ad 10), .ref (ad 11), .ref (ad 12), .ref (ad 13), .ref (ad 14), .ref (ad 15), .int v139, .int v141, .ref (ad 16), .int v143, .int v145, .int v147, .int v149, .int v150, .ref (ad 17), .ref (ad 18), .int v151, .ref (ad 19)]) := ((o527 0 (by decide)).trans c154)
      refine xget E hQ 0 (by decide) c667 rfl 23 (by decide) q1491 rfl dX12_image_29 ?_
      refine lv_iload_n hx hb dX12_image_32 rfl (lv_at hl 1 rfl) ?_
      refine lv_iconst (v := 1) hx hb dX12_image_33 (by decide) ?_
      have c668 : S527 13 = .inl (g.2 3, 3, .inl f121) := ((o527 13 (by decide)).trans (up_ne eS153 (by decide) c122))
      refine xzast E hs hQ 13 (by decide) c668 (ib_in b167 (by decide) (by decide)) dX12_image_34 (fun H locs S669 eS669 hQ => ?_)
      have hI := invM_up_13 hI eS669 ⟨_, rfl, upd_b b123 (nar_z _)⟩
      have b671 : ∀ j, Bd ((upd f121 (a1 : Int32).toNatClampNeg (vp_nar .boolean 1)) j) (0) (1) := upd_b b123 (nar_z _)
      have c670 : S669 13 = .inl (g.2 3, 3, .inl (upd f121 (a1 : Int32).toNatClampNeg (vp_nar .boolean 1))) := up_at eS669 rfl
      refine lv_iconst (v := 0) hx hb dX12_image_35 (by decide) ?_
      have c672 : S669 7 = .inl (g.2 0, 50, .inl f529) := (up_ne eS669 (by decide) c530)
      have q673 : elm (S669 7) 1 = v565.toInt := (elm_of c672 1).trans (congrArg Int32.toInt (ee566))
      have q674 : elm (S669 7) 0 = v561.toInt := (elm_of c672 0).trans (congrArg Int32.toInt (ee562))
      have q675 : elm (S669 7) 3 = v569.toInt := (elm_of c672 3).trans (congrArg Int32.toInt (ee570))
      have q676 : elm (S669 7) 6 = v573.toInt := (elm_of c672 6).trans (congrArg Int32.toInt (ee574))
      have q677 : elm (S669 7) 8 = v577.toInt := (elm_of c672 8).trans (congrArg Int32.toInt (ee578))
      have c678 : S669 6 = .inl (g.2 0, 5, .inl f646) := (up_ne eS669 (by decide) c647)
      have q679 : elm (S669 6) 0 = v653.toInt := (elm_of c678 0).trans (congrArg Int32.toInt (ee654))
      have q680 : elm (S669 7) 11 = v591.toInt := (elm_of c672 11).trans (congrArg Int32.toInt (ee592))
      have q681 : elm (S669 7) 10 = v586.toInt := (elm_of c672 10).trans (congrArg Int32.toInt (ee587))
      have q682 : elm (S669 7) 13 = v596.toInt := (elm_of c672 13).trans (congrArg Int32.toInt (ee597))
      have q683 : elm (S669 7) 16 = v601.toInt := (elm_of c672 16).trans (congrArg Int32.toInt (ee602))
      have q684 : elm (S669 7) 18 = v606.toInt := (elm_of c672 18).trans (congrArg Int32.toInt (ee607))
      have q685 : elm (S669 6) 1 = v658.toInt := (elm_of c678 1).trans (congrArg Int32.toInt (ee659))
      have q686 : elm (S669 7) 21 = v621.toInt := (elm_of c672 21).trans (congrArg Int32.toInt (ee622))
      have q687 : elm (S669 7) 20 = v616.toInt := (elm_of c672 20).trans (congrArg Int32.toInt (ee617))
      have q688 : elm (S669 7) 23 = v626.toInt := (elm_of c672 23).trans (congrArg Int32.toInt (ee627))
      have q689 : elm (S669 7) 26 = v631.toInt := (elm_of c672 26).trans (congrArg Int32.toInt (ee632))
      have q690 : elm (S669 7) 28 = v636.toInt := (elm_of c672 28).trans (congrArg Int32.toInt (ee637))
      have q691 : elm (S669 6) 2 = v663.toInt := (elm_of c678 2).trans (congrArg Int32.toInt (ee664))
      have q692 : elm (S669 7) 31 = v537.toInt := (elm_of c672 31).trans (congrArg Int32.toInt (ee538))
      have q693 : elm (S669 7) 30 = v532.toInt := (elm_of c672 30).trans (congrArg Int32.toInt (ee533))
      have q694 : elm (S669 7) 33 = v542.toInt := (elm_of c672 33).trans (congrArg Int32.toInt (ee543))
      have q695 : elm (S669 7) 36 = v547.toInt := (elm_of c672 36).trans (congrArg Int32.toInt (ee548))
      have q696 : elm (S669 7) 38 = v552.toInt := (elm_of c672 38).trans (congrArg Int32.toInt (ee553))
      have q697 : elm (S669 6) 3 = v649.toInt := (elm_of c678 3).trans (congrArg Int32.toInt (ee650))
      exact xri E hr hlk hQ (⟨hI, (up_o (o_trans (up_o o_refl eS153 (by decide)) o527 (by decide)) eS669 (by decide)), (ib_wk (by decide : Bd 0 (0) (0)) (by decide) (by decide)), (by omega), (by omega), (by omega), (by omega), (by omega), (by omega), (by omega), (by omega), (by omega), (by omega), (by omega), (by omega), (by omega), (by omega), (by omega), (by omega), (by omega), (by omega), (by omega), (by omega), (at_tr u527_0 (up_eq (j := 7) eS669 (by decide)) (up_eq (j := 12) eS669 (by decide))), (at_tr u527_1 (up_eq (j := 7) eS669 (by decide)) (up_eq (j := 12) eS669 (by decide))), (at_tr u527_2 (up_eq (j := 7) eS669 (by decide)) (up_eq (j := 12) eS669 (by decide))), (at_tr u527_3 (up_eq (j := 7) eS669 (by decide)) (up_eq (j := 12) eS669 (by decide))), (ht_tr u527_4 (up_eq (j := 7) eS669 (by decide)) (up_eq (j := 9) eS669 (by decide))), (ht_tr u527_5 (up_eq (j := 7) eS669 (by decide)) (up_eq (j := 9) eS669 (by decide))), (ht_tr u527_6 (up_eq (j := 7) eS669 (by decide)) (up_eq (j := 9) eS669 (by decide))), (ht_tr u527_7 (up_eq (j := 7) eS669 (by decide)) (up_eq (j := 9) eS669 (by decide))), (by have h1 := u161_0; unfold InP at h1; unfold ansImage; rw [if_neg (by omega)]), (pu_st c122 c670 (by omega) (by decide))⟩) dX12_image_36
  · have h698 := ib_eq k162
    have b699 : Bd r161 (0) (0) := ⟨(b161).1, ((rf_eq b161 (by decide : Bd 0 (0) (0)) h698).1).2⟩
    clear g161_0
    refine lv_bipush (v := (-2)) hx hb dX12_image_17 (by decide) ?_
    have c700 : S153 7 = .inl (g.2 0, 50, .inl f1) := (up_ne eS153 (by decide) c2)
    have q701 : elm (S153 7) 1 = v4.toInt := (elm_of c700 1).trans (congrArg Int32.toInt (ee5))
    have q702 : elm (S153 7) 0 = v7.toInt := (elm_of c700 0).trans (congrArg Int32.toInt (ee8))
    have q703 : elm (S153 7) 3 = v10.toInt := (elm_of c700 3).trans (congrArg Int32.toInt (ee11))
    have q704 : elm (S153 7) 6 = v13.toInt := (elm_of c700 6).trans (congrArg Int32.toInt (ee14))
    have q705 : elm (S153 7) 8 = v16.toInt := (elm_of c700 8).trans (congrArg Int32.toInt (ee17))
    have c706 : S153 6 = .inl (g.2 0, 5, .inl f19) := (up_ne eS153 (by decide) c20)
    have q707 : elm (S153 6) 0 = v22.toInt := (elm_of c706 0).trans (congrArg Int32.toInt (ee23))
    have q708 : elm (S153 7) 11 = v25.toInt := (elm_of c700 11).trans (congrArg Int32.toInt (ee26))
    have q709 : elm (S153 7) 10 = v28.toInt := (elm_of c700 10).trans (congrArg Int32.toInt (ee29))
    have q710 : elm (S153 7) 13 = v31.toInt := (elm_of c700 13).trans (congrArg Int32.toInt (ee32))
    have q711 : elm (S153 7) 16 = v34.toInt := (elm_of c700 16).trans (congrArg Int32.toInt (ee35))
    have q712 : elm (S153 7) 18 = v37.toInt := (elm_of c700 18).trans (congrArg Int32.toInt (ee38))
    have q713 : elm (S153 6) 1 = v40.toInt := (elm_of c706 1).trans (congrArg Int32.toInt (ee41))
    have q714 : elm (S153 7) 21 = v43.toInt := (elm_of c700 21).trans (congrArg Int32.toInt (ee44))
    have q715 : elm (S153 7) 20 = v46.toInt := (elm_of c700 20).trans (congrArg Int32.toInt (ee47))
    have q716 : elm (S153 7) 23 = v49.toInt := (elm_of c700 23).trans (congrArg Int32.toInt (ee50))
    have q717 : elm (S153 7) 26 = v52.toInt := (elm_of c700 26).trans (congrArg Int32.toInt (ee53))
    have q718 : elm (S153 7) 28 = v55.toInt := (elm_of c700 28).trans (congrArg Int32.toInt (ee56))
    have q719 : elm (S153 6) 2 = v58.toInt := (elm_of c706 2).trans (congrArg Int32.toInt (ee59))
    have q720 : elm (S153 7) 31 = v61.toInt := (elm_of c700 31).trans (congrArg Int32.toInt (ee62))
    have q721 : elm (S153 7) 30 = v64.toInt := (elm_of c700 30).trans (congrArg Int32.toInt (ee65))
    have q722 : elm (S153 7) 33 = v67.toInt := (elm_of c700 33).trans (congrArg Int32.toInt (ee68))
    have q723 : elm (S153 7) 36 = v70.toInt := (elm_of c700 36).trans (congrArg Int32.toInt (ee71))
    have q724 : elm (S153 7) 38 = v73.toInt := (elm_of c700 38).trans (congrArg Int32.toInt (ee74))
    have q725 : elm (S153 6) 3 = v76.toInt := (elm_of c706 3).trans (congrArg Int32.toInt (ee77))
    exact xri E hr hlk hQ (⟨hI, (up_o o_refl eS153 (by decide)), (ib_wk (by decide : Bd (-2) (-2) (-2)) (by decide) (by decide)), (by omega), (by omega), (by omega), (by omega), (by omega), (by omega), (by omega), (by omega), (by omega), (by omega), (by omega), (by omega), (by omega), (by omega), (by omega), (by omega), (by omega), (by omega), (by omega), (by omega), (at_tr hAT0 (up_eq (j := 7) eS153 (by decide)) (up_eq (j := 12) eS153 (by decide))), (at_tr hAT1 (up_eq (j := 7) eS153 (by decide)) (up_eq (j := 12) eS153 (by decide))), (at_tr hAT2 (up_eq (j := 7) eS153 (by decide)) (up_eq (j := 12) eS153 (by decide))), (at_tr hAT3 (up_eq (j := 7) eS153 (by decide)) (up_eq (j := 12) eS153 (by decide))), (ht_tr hHT0 (up_eq (j := 7) eS153 (by decide)) (up_eq (j := 9) eS153 (by decide))), (ht_tr hHT1 (up_eq (j := 7) eS153 (by decide)) (up_eq (j := 9) eS153 (by decide))), (ht_tr hHT2 (up_eq (j := 7) eS153 (by decide)) (up_eq (j := 9) eS153 (by decide))), (ht_tr hHT3 (up_eq (j := 7) eS153 (by decide)) (up_eq (j := 9) eS153 (by decide))), (by have h1 := u161_0; unfold InP at h1; unfold ansImage; rw [if_pos (by omega)]), (pu_no (up_eq (j := 13) eS153 (by decide)) (by have h1 := u161_0; unfold InP at h1; omega))⟩) dX12_image_19
