set_option maxHeartbeats 4000000 in
set_option maxRecDepth 100000 in
theorem gX12_copyShore_4_0 (l : Launch) (g : GG) (ad : Nat → Nat) (hD : Dj ad 20) (S : SS) (hI : InvM g ad S) (hAT0 : ATp (S 7) (S 12) 0) (hAT1 : ATp (S 7) (S 12) 1) (hAT2 : ATp (S 7) (S 12) 2) (hAT3 : ATp (S 7) (S 12) 3) (hAT4 : ATp (S 7) (S 12) 4) : Met l yX12_copyShore (wG (.code yX12_copyShore cX12_copyShore 3 none)) (Rm 1) (XPre g ad 20 S [.ref (ad 0), .int 4, .int 0]) (va_Qv (fun S' => InvM g ad S' ∧ (∀ j, j ∉ ([6, 7, 8, 9, 10, 11, 12] : List Nat) → S' j = S j) ∧ (0 ≤ elm (S 7) 40 + (-1) * elm (S' 7) 0 ∧ 0 ≤ elm (S' 7) 0 + (-1) * elm (S 7) 40) ∧ (0 ≤ elm (S 7) 41 + (-1) * elm (S' 7) 1 ∧ 0 ≤ elm (S' 7) 1 + (-1) * elm (S 7) 41) ∧ (0 ≤ elm (S 7) 43 + (-1) * elm (S' 7) 3 ∧ 0 ≤ elm (S' 7) 3 + (-1) * elm (S 7) 43) ∧ (0 ≤ elm (S 7) 46 + (-1) * elm (S' 7) 6 ∧ 0 ≤ elm (S' 7) 6 + (-1) * elm (S 7) 46) ∧ (0 ≤ elm (S 7) 48 + (-1) * elm (S' 7) 8 ∧ 0 ≤ elm (S' 7) 8 + (-1) * elm (S 7) 48) ∧ (0 ≤ elm (S 7) 49 + (-1) * elm (S' 7) 9 ∧ 0 ≤ elm (S' 7) 9 + (-1) * elm (S 7) 49) ∧ (0 ≤ elm (S 7) 10 + (-1) * elm (S' 7) 10 ∧ 0 ≤ elm (S' 7) 10 + (-1) * elm (S 7) 10) ∧ (0 ≤ elm (S 7) 11 + (-1) * elm (S' 7) 11 ∧ 0 ≤ elm (S' 7) 11 + (-1) * elm (S 7) 11) ∧ (0 ≤ elm (S 7) 13 + (-1) * elm (S' 7) 13 ∧ 0 ≤ elm (S' 7) 13 + (-1) * elm (S 7) 13) ∧ (0 ≤ elm (S 7) 16 + (-1) * elm (S' 7) 16 ∧ 0 ≤ elm (S' 7) 16 + (-1) * elm (S 7) 16) ∧ (0 ≤ elm (S 7) 18 + (-1) * elm (S' 7) 18 ∧ 0 ≤ elm (S' 7) 18 + (-1) * elm (S 7) 18) ∧ (0 ≤ elm (S 7) 19 + (-1) * elm (S' 7) 19 ∧ 0 ≤ elm (S' 7) 19 + (-1) * elm (S 7) 19) ∧ (0 ≤ elm (S 7) 20 + (-1) * elm (S' 7) 20 ∧ 0 ≤ elm (S' 7) 20 + (-1) * elm (S 7) 20) ∧ (0 ≤ elm (S 7) 21 + (-1) * elm (S' 7) 21 ∧ 0 ≤ elm (S' 7) 21 + (-1) * elm (S 7) 21) ∧ (0 ≤ elm (S 7) 23 + (-1) * elm (S' 7) 23 ∧ 0 ≤ elm (S' 7) 23 + (-1) * elm (S 7) 23) ∧ (0 ≤ elm (S 7) 26 + (-1) * elm (S' 7) 26 ∧ 0 ≤ elm (S' 7) 26 + (-1) * elm (S 7) 26) ∧ (0 ≤ elm (S 7) 28 + (-1) * elm (S' 7) 28 ∧ 0 ≤ elm (S' 7) 28 + (-1) * elm (S 7) 28) ∧ (0 ≤ elm (S 7) 29 + (-1) * elm (S' 7) 29 ∧ 0 ≤ elm (S' 7) 29 + (-1) * elm (S 7) 29) ∧ (0 ≤ elm (S 7) 30 + (-1) * elm (S' 7) 30 ∧ 0 ≤ elm (S' 7) 30 + (-1) * elm (S 7) 30) ∧ (0 ≤ elm (S 7) 31 + (-1) * elm (S' 7) 31 ∧ 0 ≤ elm (S' 7) 31 + (-1) * elm (S 7) 31) ∧ (0 ≤ elm (S 7) 33 + (-1) * elm (S' 7) 33 ∧ 0 ≤ elm (S' 7) 33 + (-1) * elm (S 7) 33) ∧ (0 ≤ elm (S 7) 36 + (-1) * elm (S' 7) 36 ∧ 0 ≤ elm (S' 7) 36 + (-1) * elm (S 7) 36) ∧ (0 ≤ elm (S 7) 38 + (-1) * elm (S' 7) 38 ∧ 0 ≤ elm (S' 7) 38 + (-1) * elm (S 7) 38) ∧ (0 ≤ elm (S 7) 39 + (-1) * elm (S' 7) 39 ∧ 0 ≤ elm (S' 7) 39 + (-1) * elm (S 7) 39) ∧ (0 ≤ elm (S 6) 4 + (-1) * elm (S' 6) 0 ∧ 0 ≤ elm (S' 6) 0 + (-1) * elm (S 6) 4) ∧ (0 ≤ elm (S 6) 1 + (-1) * elm (S' 6) 1 ∧ 0 ≤ elm (S' 6) 1 + (-1) * elm (S 6) 1) ∧ (0 ≤ elm (S 6) 2 + (-1) * elm (S' 6) 2 ∧ 0 ≤ elm (S' 6) 2 + (-1) * elm (S 6) 2) ∧ (0 ≤ elm (S 6) 3 + (-1) * elm (S' 6) 3 ∧ 0 ≤ elm (S' 6) 3 + (-1) * elm (S 6) 3) ∧ (ATp (S' 7) (S' 12) 0) ∧ (ATp (S' 7) (S' 12) 1) ∧ (ATp (S' 7) (S' 12) 2) ∧ (ATp (S' 7) (S' 12) 3)) (QB g ad 20) (FA ad 20)) 0 0 (FA ad 20) := by
  refine xmet cX12_copyShore "EbbWreckModel" (by decide) rfl (Nat.le_of_ble_eq_true rfl) (fun p e s m below meth c E hr hlk hml hQ ls hl => ?_)
  have hx := E.1
  have hb := E.2.1
  have hs : Sp ad 20 (FA ad 20) := Sp.fa hD
  have hl : lv_has ls 3 [(0, .ref (ad 0)), (1, .int 4), (2, .int 0)] := hl
  obtain ⟨f1, c2, b3⟩ := invM_7 hI
  obtain ⟨v4, ee5⟩ : ∃ z : Int32, f1 40 = z := ⟨_, rfl⟩
  have b6 : Bd v4 (0) (12) := (by rw [← ee5]; exact b3.1 40 (by decide))
  obtain ⟨v7, ee8⟩ : ∃ z : Int32, f1 0 = z := ⟨_, rfl⟩
  have b9 : Bd v7 (0) (12) := (by rw [← ee8]; exact b3.1 0 (by decide))
  obtain ⟨v10, ee11⟩ : ∃ z : Int32, f1 41 = z := ⟨_, rfl⟩
  have b12 : Bd v10 (0) (12) := (by rw [← ee11]; exact b3.2.1 41 (by decide))
  obtain ⟨v13, ee14⟩ : ∃ z : Int32, f1 1 = z := ⟨_, rfl⟩
  have b15 : Bd v13 (0) (12) := (by rw [← ee14]; exact b3.2.1 1 (by decide))
  obtain ⟨v16, ee17⟩ : ∃ z : Int32, f1 43 = z := ⟨_, rfl⟩
  have b18 : Bd v16 (0) (12) := (by rw [← ee17]; exact b3.2.2.2.1 43 (by decide))
  obtain ⟨v19, ee20⟩ : ∃ z : Int32, f1 3 = z := ⟨_, rfl⟩
  have b21 : Bd v19 (0) (12) := (by rw [← ee20]; exact b3.2.2.2.1 3 (by decide))
  obtain ⟨v22, ee23⟩ : ∃ z : Int32, f1 46 = z := ⟨_, rfl⟩
  have b24 : Bd v22 (0) (8) := (by rw [← ee23]; exact b3.2.2.2.2.1 46 (by decide))
  obtain ⟨v25, ee26⟩ : ∃ z : Int32, f1 6 = z := ⟨_, rfl⟩
  have b27 : Bd v25 (0) (8) := (by rw [← ee26]; exact b3.2.2.2.2.1 6 (by decide))
  obtain ⟨v28, ee29⟩ : ∃ z : Int32, f1 48 = z := ⟨_, rfl⟩
  have b30 : Bd v28 (0) (3) := (by rw [← ee29]; exact b3.2.2.2.2.2.2.1 48 (by decide))
  obtain ⟨v31, ee32⟩ : ∃ z : Int32, f1 8 = z := ⟨_, rfl⟩
  have b33 : Bd v31 (0) (3) := (by rw [← ee32]; exact b3.2.2.2.2.2.2.1 8 (by decide))
  obtain ⟨v34, ee35⟩ : ∃ z : Int32, f1 49 = z := ⟨_, rfl⟩
  have b36 : Bd v34 (0) (40) := (by rw [← ee35]; exact b3.2.2.2.2.2.2.2 49 (by decide))
  obtain ⟨v37, ee38⟩ : ∃ z : Int32, f1 9 = z := ⟨_, rfl⟩
  have b39 : Bd v37 (0) (40) := (by rw [← ee38]; exact b3.2.2.2.2.2.2.2 9 (by decide))
  obtain ⟨v40, ee41⟩ : ∃ z : Int32, f1 10 = z := ⟨_, rfl⟩
  have b42 : Bd v40 (0) (12) := (by rw [← ee41]; exact b3.1 10 (by decide))
  obtain ⟨v43, ee44⟩ : ∃ z : Int32, f1 11 = z := ⟨_, rfl⟩
  have b45 : Bd v43 (0) (12) := (by rw [← ee44]; exact b3.2.1 11 (by decide))
  obtain ⟨v46, ee47⟩ : ∃ z : Int32, f1 13 = z := ⟨_, rfl⟩
  have b48 : Bd v46 (0) (12) := (by rw [← ee47]; exact b3.2.2.2.1 13 (by decide))
  obtain ⟨v49, ee50⟩ : ∃ z : Int32, f1 16 = z := ⟨_, rfl⟩
  have b51 : Bd v49 (0) (8) := (by rw [← ee50]; exact b3.2.2.2.2.1 16 (by decide))
  obtain ⟨v52, ee53⟩ : ∃ z : Int32, f1 18 = z := ⟨_, rfl⟩
  have b54 : Bd v52 (0) (3) := (by rw [← ee53]; exact b3.2.2.2.2.2.2.1 18 (by decide))
  obtain ⟨v55, ee56⟩ : ∃ z : Int32, f1 19 = z := ⟨_, rfl⟩
  have b57 : Bd v55 (0) (40) := (by rw [← ee56]; exact b3.2.2.2.2.2.2.2 19 (by decide))
  obtain ⟨v58, ee59⟩ : ∃ z : Int32, f1 20 = z := ⟨_, rfl⟩
  have b60 : Bd v58 (0) (12) := (by rw [← ee59]; exact b3.1 20 (by decide))
  obtain ⟨v61, ee62⟩ : ∃ z : Int32, f1 21 = z := ⟨_, rfl⟩
  have b63 : Bd v61 (0) (12) := (by rw [← ee62]; exact b3.2.1 21 (by decide))
  obtain ⟨v64, ee65⟩ : ∃ z : Int32, f1 23 = z := ⟨_, rfl⟩
  have b66 : Bd v64 (0) (12) := (by rw [← ee65]; exact b3.2.2.2.1 23 (by decide))
  obtain ⟨v67, ee68⟩ : ∃ z : Int32, f1 26 = z := ⟨_, rfl⟩
  have b69 : Bd v67 (0) (8) := (by rw [← ee68]; exact b3.2.2.2.2.1 26 (by decide))
  obtain ⟨v70, ee71⟩ : ∃ z : Int32, f1 28 = z := ⟨_, rfl⟩
  have b72 : Bd v70 (0) (3) := (by rw [← ee71]; exact b3.2.2.2.2.2.2.1 28 (by decide))
  obtain ⟨v73, ee74⟩ : ∃ z : Int32, f1 29 = z := ⟨_, rfl⟩
  have b75 : Bd v73 (0) (40) := (by rw [← ee74]; exact b3.2.2.2.2.2.2.2 29 (by decide))
  obtain ⟨v76, ee77⟩ : ∃ z : Int32, f1 30 = z := ⟨_, rfl⟩
  have b78 : Bd v76 (0) (12) := (by rw [← ee77]; exact b3.1 30 (by decide))
  obtain ⟨v79, ee80⟩ : ∃ z : Int32, f1 31 = z := ⟨_, rfl⟩
  have b81 : Bd v79 (0) (12) := (by rw [← ee80]; exact b3.2.1 31 (by decide))
  obtain ⟨v82, ee83⟩ : ∃ z : Int32, f1 33 = z := ⟨_, rfl⟩
  have b84 : Bd v82 (0) (12) := (by rw [← ee83]; exact b3.2.2.2.1 33 (by decide))
  obtain ⟨v85, ee86⟩ : ∃ z : Int32, f1 36 = z := ⟨_, rfl⟩
  have b87 : Bd v85 (0) (8) := (by rw [← ee86]; exact b3.2.2.2.2.1 36 (by decide))
  obtain ⟨v88, ee89⟩ : ∃ z : Int32, f1 38 = z := ⟨_, rfl⟩
  have b90 : Bd v88 (0) (3) := (by rw [← ee89]; exact b3.2.2.2.2.2.2.1 38 (by decide))
  obtain ⟨v91, ee92⟩ : ∃ z : Int32, f1 39 = z := ⟨_, rfl⟩
  have b93 : Bd v91 (0) (40) := (by rw [← ee92]; exact b3.2.2.2.2.2.2.2 39 (by decide))
  obtain ⟨f94, c95, b96⟩ := invM_6 hI
  obtain ⟨v97, ee98⟩ : ∃ z : Int32, f94 4 = z := ⟨_, rfl⟩
  have b99 : Bd v97 (0) (40000) := (by rw [← ee98]; exact b96 4)
  obtain ⟨v100, ee101⟩ : ∃ z : Int32, f94 0 = z := ⟨_, rfl⟩
  have b102 : Bd v100 (0) (40000) := (by rw [← ee101]; exact b96 0)
  obtain ⟨v103, ee104⟩ : ∃ z : Int32, f94 1 = z := ⟨_, rfl⟩
  have b105 : Bd v103 (0) (40000) := (by rw [← ee104]; exact b96 1)
  obtain ⟨v106, ee107⟩ : ∃ z : Int32, f94 2 = z := ⟨_, rfl⟩
  have b108 : Bd v106 (0) (40000) := (by rw [← ee107]; exact b96 2)
  obtain ⟨v109, ee110⟩ : ∃ z : Int32, f94 3 = z := ⟨_, rfl⟩
  have b111 : Bd v109 (0) (40000) := (by rw [← ee110]; exact b96 3)
  obtain ⟨f112, c113, b114⟩ := invM_12 hI
  refine lv_aload_n hx hb dX12_copyShore_0 rfl (lv_at hl 0 rfl) ?_
  obtain ⟨v115, v116, v118, v120, v122, v123, w124, v125, v127, v128, v129, v130, v132, v134, v136, v138, v140, v141, v142, c143, b117, b119, b121, b126, b131, b133, b135, b137, b139⟩ := invM_0 hI
  have c143 : S 0 = .inr (12, [.int v115, .ref (ad 1), .ref (ad 2), .ref (ad 3), .ref (ad 4), .ref (ad 5), .int v116, .int v118, .int v120, .int v122, .int v123, .long w124, .int v125, .int v127, .int v128, .int v129, .ref (ad 6), .ref (ad 7), .ref (ad 8), .ref (ad 9), .ref (ad 10), .ref (ad 11), .ref (ad 12), .ref (ad 13), .ref (ad 14), .ref (ad 15), .int v130, .int v132, .ref (ad 16), .int v134, .int v136, .int v138, .int v140, .int v141, .ref (ad 17), .ref (ad 18), .int v142, .ref (ad 19)]) := c143
  refine xget E hQ 0 (by decide) c143 rfl 16 (by decide) q1484 rfl dX12_copyShore_1 ?_
  refine lv_iconst (v := 1) hx hb dX12_copyShore_4 (by decide) ?_
  refine lv_iload_n hx hb dX12_copyShore_5 rfl (lv_at hl 1 rfl) ?_
  refine lv_iload_n hx hb dX12_copyShore_6 rfl (lv_at hl 2 rfl) ?_
  refine xcSv E hs hQ hml hl.1 (uCopyRow l g ad 20 hD S 6 (by decide) 5 (by decide) f94 1 4 0 (by decide) (by decide) (by decide) c95) mX12_copyRow q1743 rfl ⟨(Nat.le_of_ble_eq_true rfl), (Nat.le_of_ble_eq_true rfl)⟩ ⟨(Nat.le_of_ble_eq_true rfl), (Nat.le_of_ble_eq_true rfl)⟩ (Nat.le_of_ble_eq_true rfl) rfl dX12_copyShore_7 (fun S144 H locs eS144 hQ => ?_)
  have hI := invM_up_6 hI eS144 ⟨_, rfl, cp_b b96⟩
  have b146 : ∀ j, Bd ((cpF f94 1 4 0 1) j) (0) (40000) := cp_b b96
  have c145 : S144 6 = .inl (g.2 0, 5, .inl (cpF f94 1 4 0 1)) := up_at eS144 rfl
  refine lv_aload_n hx hb dX12_copyShore_10 rfl (lv_at hl 0 rfl) ?_
  have c147 : S144 0 = .inr (12, [.int v115, .ref (ad 1), .ref (ad 2), .ref (ad 3), .ref (ad 4), .ref (ad 5), .int v116, .int v118, .int v120, .int v122, .int v123, .long w124, .int v125, .int v127, .int v128, .int v129, .ref (ad 6), .ref (ad 7), .ref (ad 8), .ref (ad 9), .ref (ad 10), .ref (ad 11), .ref (ad 12), .ref (ad 13), .ref (ad 14), .ref (ad 15), .int v130, .int v132, .ref (ad 16), .int v134, .int v136, .int v138, .int v140, .int v141, .ref (ad 17), .ref (ad 18), .int v142, .ref (ad 19)]) := (up_ne eS144 (by decide) c143)
  refine xget E hQ 0 (by decide) c147 rfl 17 (by decide) q1485 rfl dX12_copyShore_11 ?_
  refine lv_bipush (v := 10) hx hb dX12_copyShore_14 (by decide) ?_
  refine lv_iload_n hx hb dX12_copyShore_16 rfl (lv_at hl 1 rfl) ?_
  refine lv_iload_n hx hb dX12_copyShore_17 rfl (lv_at hl 2 rfl) ?_
  have c148 : S144 7 = .inl (g.2 0, 50, .inl f1) := (up_ne eS144 (by decide) c2)
  refine xcSv E hs hQ hml hl.1 (uCopyRow l g ad 20 hD S144 7 (by decide) 50 (by decide) f1 10 4 0 (by decide) (by decide) (by decide) c148) mX12_copyRow q1743 rfl ⟨(Nat.le_of_ble_eq_true rfl), (Nat.le_of_ble_eq_true rfl)⟩ ⟨(Nat.le_of_ble_eq_true rfl), (Nat.le_of_ble_eq_true rfl)⟩ (Nat.le_of_ble_eq_true rfl) rfl dX12_copyShore_18 (fun S149 H locs eS149 hQ => ?_)
  have hI := invM_up_7 hI eS149 ⟨_, rfl, ⟨cp_m (q := 1) b3.1 (by decide), cp_m (q := 1) b3.2.1 (by decide), cp_m (q := 1) b3.2.2.1 (by decide), cp_m (q := 1) b3.2.2.2.1 (by decide), cp_m (q := 1) b3.2.2.2.2.1 (by decide), cp_m (q := 1) b3.2.2.2.2.2.1 (by decide), cp_m (q := 1) b3.2.2.2.2.2.2.1 (by decide), cp_m (q := 1) b3.2.2.2.2.2.2.2 (by decide)⟩⟩
  have b151 : (∀ j, j % 10 = 0 → Bd ((cpF f1 10 4 0 10) j) (0) (12)) ∧ (∀ j, j % 10 = 1 → Bd ((cpF f1 10 4 0 10) j) (0) (12)) ∧ (∀ j, j % 10 = 2 → Bd ((cpF f1 10 4 0 10) j) (0) (6)) ∧ (∀ j, j % 10 = 3 → Bd ((cpF f1 10 4 0 10) j) (0) (12)) ∧ (∀ j, j % 10 = 6 → Bd ((cpF f1 10 4 0 10) j) (0) (8)) ∧ (∀ j, j % 10 = 7 → Bd ((cpF f1 10 4 0 10) j) (0) (6)) ∧ (∀ j, j % 10 = 8 → Bd ((cpF f1 10 4 0 10) j) (0) (3)) ∧ (∀ j, j % 10 = 9 → Bd ((cpF f1 10 4 0 10) j) (0) (40)) := ⟨cp_m (q := 1) b3.1 (by decide), cp_m (q := 1) b3.2.1 (by decide), cp_m (q := 1) b3.2.2.1 (by decide), cp_m (q := 1) b3.2.2.2.1 (by decide), cp_m (q := 1) b3.2.2.2.2.1 (by decide), cp_m (q := 1) b3.2.2.2.2.2.1 (by decide), cp_m (q := 1) b3.2.2.2.2.2.2.1 (by decide), cp_m (q := 1) b3.2.2.2.2.2.2.2 (by decide)⟩
  have c150 : S149 7 = .inl (g.2 0, 50, .inl (cpF f1 10 4 0 10)) := up_at eS149 rfl
  refine lv_aload_n hx hb dX12_copyShore_21 rfl (lv_at hl 0 rfl) ?_
  have c152 : S149 0 = .inr (12, [.int v115, .ref (ad 1), .ref (ad 2), .ref (ad 3), .ref (ad 4), .ref (ad 5), .int v116, .int v118, .int v120, .int v122, .int v123, .long w124, .int v125, .int v127, .int v128, .int v129, .ref (ad 6), .ref (ad 7), .ref (ad 8), .ref (ad 9), .ref (ad 10), .ref (ad 11), .ref (ad 12), .ref (ad 13), .ref (ad 14), .ref (ad 15), .int v130, .int v132, .ref (ad 16), .int v134, .int v136, .int v138, .int v140, .int v141, .ref (ad 17), .ref (ad 18), .int v142, .ref (ad 19)]) := (up_ne eS149 (by decide) c147)
  refine xget E hQ 0 (by decide) c152 rfl 18 (by decide) q1486 rfl dX12_copyShore_22 ?_
  refine lv_bipush (v := 24) hx hb dX12_copyShore_25 (by decide) ?_
  refine lv_iload_n hx hb dX12_copyShore_27 rfl (lv_at hl 1 rfl) ?_
  refine lv_iload_n hx hb dX12_copyShore_28 rfl (lv_at hl 2 rfl) ?_
  obtain ⟨f153, c154⟩ := invM_8 hI
  refine xcSv E hs hQ hml hl.1 (uCopyRow l g ad 20 hD S149 8 (by decide) 120 (by decide) f153 24 4 0 (by decide) (by decide) (by decide) c154) mX12_copyRow q1743 rfl ⟨(Nat.le_of_ble_eq_true rfl), (Nat.le_of_ble_eq_true rfl)⟩ ⟨(Nat.le_of_ble_eq_true rfl), (Nat.le_of_ble_eq_true rfl)⟩ (Nat.le_of_ble_eq_true rfl) rfl dX12_copyShore_29 (fun S156 H locs eS156 hQ => ?_)
  have hI := invM_up_8 hI eS156 ⟨_, rfl⟩
  have c157 : S156 8 = .inl (g.2 0, 120, .inl (cpF f153 24 4 0 24)) := up_at eS156 rfl
  refine lv_aload_n hx hb dX12_copyShore_32 rfl (lv_at hl 0 rfl) ?_
  have c158 : S156 0 = .inr (12, [.int v115, .ref (ad 1), .ref (ad 2), .ref (ad 3), .ref (ad 4), .ref (ad 5), .int v116, .int v118, .int v120, .int v122, .int v123, .long w124, .int v125, .int v127, .int v128, .int v129, .ref (ad 6), .ref (ad 7), .ref (ad 8), .ref (ad 9), .ref (ad 10), .ref (ad 11), .ref (ad 12), .ref (ad 13), .ref (ad 14), .ref (ad 15), .int v130, .int v132, .ref (ad 16), .int v134, .int v136, .int v138, .int v140, .int v141, .ref (ad 17), .ref (ad 18), .int v142, .ref (ad 19)]) := (up_ne eS156 (by decide) c152)
  refine xget E hQ 0 (by decide) c158 rfl 19 (by decide) q1487 rfl dX12_copyShore_33 ?_
  refine lv_bipush (v := 24) hx hb dX12_copyShore_36 (by decide) ?_
  refine lv_iload_n hx hb dX12_copyShore_38 rfl (lv_at hl 1 rfl) ?_
  refine lv_iload_n hx hb dX12_copyShore_39 rfl (lv_at hl 2 rfl) ?_
  obtain ⟨f159, c160, b161⟩ := invM_9 hI
  refine xcSv E hs hQ hml hl.1 (uCopyRow l g ad 20 hD S156 9 (by decide) 120 (by decide) f159 24 4 0 (by decide) (by decide) (by decide) c160) mX12_copyRow q1743 rfl ⟨(Nat.le_of_ble_eq_true rfl), (Nat.le_of_ble_eq_true rfl)⟩ ⟨(Nat.le_of_ble_eq_true rfl), (Nat.le_of_ble_eq_true rfl)⟩ (Nat.le_of_ble_eq_true rfl) rfl dX12_copyShore_40 (fun S162 H locs eS162 hQ => ?_)
  have hI := invM_up_9 hI eS162 ⟨_, rfl, ⟨cp_m (q := 8) b161.1 (by decide), cp_m (q := 8) b161.2 (by decide)⟩⟩
  have b164 : (∀ j, j % 3 = 1 → Bd ((cpF f159 24 4 0 24) j) (0) (11)) ∧ (∀ j, j % 3 = 2 → Bd ((cpF f159 24 4 0 24) j) (0) (99)) := ⟨cp_m (q := 8) b161.1 (by decide), cp_m (q := 8) b161.2 (by decide)⟩
  have c163 : S162 9 = .inl (g.2 0, 120, .inl (cpF f159 24 4 0 24)) := up_at eS162 rfl
  refine lv_aload_n hx hb dX12_copyShore_43 rfl (lv_at hl 0 rfl) ?_
  have c165 : S162 0 = .inr (12, [.int v115, .ref (ad 1), .ref (ad 2), .ref (ad 3), .ref (ad 4), .ref (ad 5), .int v116, .int v118, .int v120, .int v122, .int v123, .long w124, .int v125, .int v127, .int v128, .int v129, .ref (ad 6), .ref (ad 7), .ref (ad 8), .ref (ad 9), .ref (ad 10), .ref (ad 11), .ref (ad 12), .ref (ad 13), .ref (ad 14), .ref (ad 15), .int v130, .int v132, .ref (ad 16), .int v134, .int v136, .int v138, .int v140, .int v141, .ref (ad 17), .ref (ad 18), .int v142, .ref (ad 19)]) := (up_ne eS162 (by decide) c158)
  refine xget E hQ 0 (by decide) c165 rfl 20 (by decide) q1488 rfl dX12_copyShore_44 ?_
  refine lv_bipush (v := 24) hx hb dX12_copyShore_47 (by decide) ?_
  refine lv_iload_n hx hb dX12_copyShore_49 rfl (lv_at hl 1 rfl) ?_
  refine lv_iload_n hx hb dX12_copyShore_50 rfl (lv_at hl 2 rfl) ?_
  obtain ⟨f166, c167⟩ := invM_10 hI
  refine xcSv E hs hQ hml hl.1 (uCopyRow l g ad 20 hD S162 10 (by decide) 120 (by decide) f166 24 4 0 (by decide) (by decide) (by decide) c167) mX12_copyRow q1743 rfl ⟨(Nat.le_of_ble_eq_true rfl), (Nat.le_of_ble_eq_true rfl)⟩ ⟨(Nat.le_of_ble_eq_true rfl), (Nat.le_of_ble_eq_true rfl)⟩ (Nat.le_of_ble_eq_true rfl) rfl dX12_copyShore_51 (fun S169 H locs eS169 hQ => ?_)
  have hI := invM_up_10 hI eS169 ⟨_, rfl⟩
  have c170 : S169 10 = .inl (g.2 0, 120, .inl (cpF f166 24 4 0 24)) := up_at eS169 rfl
  refine lv_aload_n hx hb dX12_copyShore_54 rfl (lv_at hl 0 rfl) ?_
  have c171 : S169 0 = .inr (12, [.int v115, .ref (ad 1), .ref (ad 2), .ref (ad 3), .ref (ad 4), .ref (ad 5), .int v116, .int v118, .int v120, .int v122, .int v123, .long w124, .int v125, .int v127, .int v128, .int v129, .ref (ad 6), .ref (ad 7), .ref (ad 8), .ref (ad 9), .ref (ad 10), .ref (ad 11), .ref (ad 12), .ref (ad 13), .ref (ad 14), .ref (ad 15), .int v130, .int v132, .ref (ad 16), .int v134, .int v136, .int v138, .int v140, .int v141, .ref (ad 17), .ref (ad 18), .int v142, .ref (ad 19)]) := (up_ne eS169 (by decide) c165)
  refine xget E hQ 0 (by decide) c171 rfl 21 (by decide) q1489 rfl dX12_copyShore_55 ?_
  refine lv_iconst (v := 3) hx hb dX12_copyShore_58 (by decide) ?_
  refine lv_iload_n hx hb dX12_copyShore_59 rfl (lv_at hl 1 rfl) ?_
  refine lv_iload_n hx hb dX12_copyShore_60 rfl (lv_at hl 2 rfl) ?_
  obtain ⟨f172, c173, b174⟩ := invM_11 hI
  refine xcSv E hs hQ hml hl.1 (uCopyRow l g ad 20 hD S169 11 (by decide) 15 (by decide) f172 3 4 0 (by decide) (by decide) (by decide) c173) mX12_copyRow q1743 rfl ⟨(Nat.le_of_ble_eq_true rfl), (Nat.le_of_ble_eq_true rfl)⟩ ⟨(Nat.le_of_ble_eq_true rfl), (Nat.le_of_ble_eq_true rfl)⟩ (Nat.le_of_ble_eq_true rfl) rfl dX12_copyShore_61 (fun S175 H locs eS175 hQ => ?_)
  have hI := invM_up_11 hI eS175 ⟨_, rfl, cp_b b174⟩
  have b177 : ∀ j, Bd ((cpF f172 3 4 0 3) j) (0) (11) := cp_b b174
  have c176 : S175 11 = .inl (g.2 0, 15, .inl (cpF f172 3 4 0 3)) := up_at eS175 rfl
  refine lv_aload_n hx hb dX12_copyShore_64 rfl (lv_at hl 0 rfl) ?_
  have c178 : S175 0 = .inr (12, [.int v115, .ref (ad 1), .ref (ad 2), .ref (ad 3), .ref (ad 4), .ref (ad 5), .int v116, .int v118, .int v120, .int v122, .int v123, .long w124, .int v125, .int v127, .int v128, .int v129, .ref (ad 6), .ref (ad 7), .ref (ad 8), .ref (ad 9), .ref (ad 10), .ref (ad 11), .ref (ad 12), .ref (ad 13), .ref (ad 14), .ref (ad 15), .int v130, .int v132, .ref (ad 16), .int v134, .int v136, .int v138, .int v140, .int v141, .ref (ad 17), .ref (ad 18), .int v142, .ref (ad 19)]) := (up_ne eS175 (by decide) c171)
  refine xget E hQ 0 (by decide) c178 rfl 22 (by decide) q1490 rfl dX12_copyShore_65 ?_
  refine lv_sipush (v := 160) hx hb dX12_copyShore_68 (by decide) ?_
  refine lv_iload_n hx hb dX12_copyShore_71 rfl (lv_at hl 1 rfl) ?_
  refine lv_iload_n hx hb dX12_copyShore_72 rfl (lv_at hl 2 rfl) ?_
  have c179 : S175 12 = .inl (g.2 0, 800, .inl f112) := (up_ne eS175 (by decide) (up_ne eS169 (by decide) (up_ne eS162 (by decide) (up_ne eS156 (by decide) (up_ne eS149 (by decide) (up_ne eS144 (by decide) c113))))))
  refine xcSv E hs hQ hml hl.1 (uCopyRow l g ad 20 hD S175 12 (by decide) 800 (by decide) f112 160 4 0 (by decide) (by decide) (by decide) c179) mX12_copyRow q1743 rfl ⟨(Nat.le_of_ble_eq_true rfl), (Nat.le_of_ble_eq_true rfl)⟩ ⟨(Nat.le_of_ble_eq_true rfl), (Nat.le_of_ble_eq_true rfl)⟩ (Nat.le_of_ble_eq_true rfl) rfl dX12_copyShore_73 (fun S180 H locs eS180 hQ => ?_)
  have hI := invM_up_12 hI eS180 ⟨_, rfl, ⟨cp_m (q := 40) b114.1 (by decide), cp_m (q := 40) b114.2 (by decide)⟩⟩
  have b182 : (∀ j, j % 4 = 1 → Bd ((cpF f112 160 4 0 160) j) (0) (7)) ∧ (∀ j, j % 4 = 2 → Bd ((cpF f112 160 4 0 160) j) (0) (400)) := ⟨cp_m (q := 40) b114.1 (by decide), cp_m (q := 40) b114.2 (by decide)⟩
  have c181 : S180 12 = .inl (g.2 0, 800, .inl (cpF f112 160 4 0 160)) := up_at eS180 rfl
  have q183 : elm (S 7) 40 = v4.toInt := (elm_of c2 40).trans (congrArg Int32.toInt (ee5))
  have c184 : S180 7 = .inl (g.2 0, 50, .inl (cpF f1 10 4 0 10)) := (up_ne eS180 (by decide) (up_ne eS175 (by decide) (up_ne eS169 (by decide) (up_ne eS162 (by decide) (up_ne eS156 (by decide) c150)))))
  have q185 : elm (S180 7) 0 = v4.toInt := (elm_of c184 0).trans (congrArg Int32.toInt (((show cpF f1 10 4 0 10 0 = f1 40 from rfl).trans (ee5))))
  have q186 : elm (S 7) 41 = v10.toInt := (elm_of c2 41).trans (congrArg Int32.toInt (ee11))
  have q187 : elm (S180 7) 1 = v10.toInt := (elm_of c184 1).trans (congrArg Int32.toInt (((show cpF f1 10 4 0 10 1 = f1 41 from rfl).trans (ee11))))
  have q188 : elm (S 7) 43 = v16.toInt := (elm_of c2 43).trans (congrArg Int32.toInt (ee17))
  have q189 : elm (S180 7) 3 = v16.toInt := (elm_of c184 3).trans (congrArg Int32.toInt (((show cpF f1 10 4 0 10 3 = f1 43 from rfl).trans (ee17))))
  have q190 : elm (S 7) 46 = v22.toInt := (elm_of c2 46).trans (congrArg Int32.toInt (ee23))
  have q191 : elm (S180 7) 6 = v22.toInt := (elm_of c184 6).trans (congrArg Int32.toInt (((show cpF f1 10 4 0 10 6 = f1 46 from rfl).trans (ee23))))
  have q192 : elm (S 7) 48 = v28.toInt := (elm_of c2 48).trans (congrArg Int32.toInt (ee29))
  have q193 : elm (S180 7) 8 = v28.toInt := (elm_of c184 8).trans (congrArg Int32.toInt (((show cpF f1 10 4 0 10 8 = f1 48 from rfl).trans (ee29))))
  have q194 : elm (S 7) 49 = v34.toInt := (elm_of c2 49).trans (congrArg Int32.toInt (ee35))
  have q195 : elm (S180 7) 9 = v34.toInt := (elm_of c184 9).trans (congrArg Int32.toInt (((show cpF f1 10 4 0 10 9 = f1 49 from rfl).trans (ee35))))
  have q196 : elm (S 7) 10 = v40.toInt := (elm_of c2 10).trans (congrArg Int32.toInt (ee41))
  have q197 : elm (S180 7) 10 = v40.toInt := (elm_of c184 10).trans (congrArg Int32.toInt (((show cpF f1 10 4 0 10 10 = f1 10 from rfl).trans (ee41))))
  have q198 : elm (S 7) 11 = v43.toInt := (elm_of c2 11).trans (congrArg Int32.toInt (ee44))
  have q199 : elm (S180 7) 11 = v43.toInt := (elm_of c184 11).trans (congrArg Int32.toInt (((show cpF f1 10 4 0 10 11 = f1 11 from rfl).trans (ee44))))
  have q200 : elm (S 7) 13 = v46.toInt := (elm_of c2 13).trans (congrArg Int32.toInt (ee47))
  have q201 : elm (S180 7) 13 = v46.toInt := (elm_of c184 13).trans (congrArg Int32.toInt (((show cpF f1 10 4 0 10 13 = f1 13 from rfl).trans (ee47))))
  have q202 : elm (S 7) 16 = v49.toInt := (elm_of c2 16).trans (congrArg Int32.toInt (ee50))
  have q203 : elm (S180 7) 16 = v49.toInt := (elm_of c184 16).trans (congrArg Int32.toInt (((show cpF f1 10 4 0 10 16 = f1 16 from rfl).trans (ee50))))
  have q204 : elm (S 7) 18 = v52.toInt := (elm_of c2 18).trans (congrArg Int32.toInt (ee53))
  have q205 : elm (S180 7) 18 = v52.toInt := (elm_of c184 18).trans (congrArg Int32.toInt (((show cpF f1 10 4 0 10 18 = f1 18 from rfl).trans (ee53))))
  have q206 : elm (S 7) 19 = v55.toInt := (elm_of c2 19).trans (congrArg Int32.toInt (ee56))
  have q207 : elm (S180 7) 19 = v55.toInt := (elm_of c184 19).trans (congrArg Int32.toInt (((show cpF f1 10 4 0 10 19 = f1 19 from rfl).trans (ee56))))
  have q208 : elm (S 7) 20 = v58.toInt := (elm_of c2 20).trans (congrArg Int32.toInt (ee59))
  have q209 : elm (S180 7) 20 = v58.toInt := (elm_of c184 20).trans (congrArg Int32.toInt (((show cpF f1 10 4 0 10 20 = f1 20 from rfl).trans (ee59))))
  have q210 : elm (S 7) 21 = v61.toInt := (elm_of c2 21).trans (congrArg Int32.toInt (ee62))
  have q211 : elm (S180 7) 21 = v61.toInt := (elm_of c184 21).trans (congrArg Int32.toInt (((show cpF f1 10 4 0 10 21 = f1 21 from rfl).trans (ee62))))
  have q212 : elm (S 7) 23 = v64.toInt := (elm_of c2 23).trans (congrArg Int32.toInt (ee65))
  have q213 : elm (S180 7) 23 = v64.toInt := (elm_of c184 23).trans (congrArg Int32.toInt (((show cpF f1 10 4 0 10 23 = f1 23 from rfl).trans (ee65))))
  have q214 : elm (S 7) 26 = v67.toInt := (elm_of c2 26).trans (congrArg Int32.toInt (ee68))
  have q215 : elm (S180 7) 26 = v67.toInt := (elm_of c184 26).trans (congrArg Int32.toInt (((show cpF f1 10 4 0 10 26 = f1 26 from rfl).trans (ee68))))
  have q216 : elm (S 7) 28 = v70.toInt := (elm_of c2 28).trans (congrArg Int32.toInt (ee71))
  have q217 : elm (S180 7) 28 = v70.toInt := (elm_of c184 28).trans (congrArg Int32.toInt (((show cpF f1 10 4 0 10 28 = f1 28 from rfl).trans (ee71))))
  have q218 : elm (S 7) 29 = v73.toInt := (elm_of c2 29).trans (congrArg Int32.toInt (ee74))
  have q219 : elm (S180 7) 29 = v73.toInt := (elm_of c184 29).trans (congrArg Int32.toInt (((show cpF f1 10 4 0 10 29 = f1 29 from rfl).trans (ee74))))
  have q220 : elm (S 7) 30 = v76.toInt := (elm_of c2 30).trans (congrArg Int32.toInt (ee77))
  have q221 : elm (S180 7) 30 = v76.toInt := (elm_of c184 30).trans (congrArg Int32.toInt (((show cpF f1 10 4 0 10 30 = f1 30 from rfl).trans (ee77))))
  have q222 : elm (S 7) 31 = v79.toInt := (elm_of c2 31).trans (congrArg Int32.toInt (ee80))
  have q223 : elm (S180 7) 31 = v79.toInt := (elm_of c184 31).trans (congrArg Int32.toInt (((show cpF f1 10 4 0 10 31 = f1 31 from rfl).trans (ee80))))
  have q224 : elm (S 7) 33 = v82.toInt := (elm_of c2 33).trans (congrArg Int32.toInt (ee83))
  have q225 : elm (S180 7) 33 = v82.toInt := (elm_of c184 33).trans (congrArg Int32.toInt (((show cpF f1 10 4 0 10 33 = f1 33 from rfl).trans (ee83))))
  have q226 : elm (S 7) 36 = v85.toInt := (elm_of c2 36).trans (congrArg Int32.toInt (ee86))
  have q227 : elm (S180 7) 36 = v85.toInt := (elm_of c184 36).trans (congrArg Int32.toInt (((show cpF f1 10 4 0 10 36 = f1 36 from rfl).trans (ee86))))
  have q228 : elm (S 7) 38 = v88.toInt := (elm_of c2 38).trans (congrArg Int32.toInt (ee89))
  have q229 : elm (S180 7) 38 = v88.toInt := (elm_of c184 38).trans (congrArg Int32.toInt (((show cpF f1 10 4 0 10 38 = f1 38 from rfl).trans (ee89))))
  have q230 : elm (S 7) 39 = v91.toInt := (elm_of c2 39).trans (congrArg Int32.toInt (ee92))
  have q231 : elm (S180 7) 39 = v91.toInt := (elm_of c184 39).trans (congrArg Int32.toInt (((show cpF f1 10 4 0 10 39 = f1 39 from rfl).trans (ee92))))
  have q232 : elm (S 6) 4 = v97.toInt := (elm_of c95 4).trans (congrArg Int32.toInt (ee98))
  have c233 : S180 6 = .inl (g.2 0, 5, .inl (cpF f94 1 4 0 1)) := (up_ne eS180 (by decide) (up_ne eS175 (by decide) (up_ne eS169 (by decide) (up_ne eS162 (by decide) (up_ne eS156 (by decide) (up_ne eS149 (by decide) c145))))))
  have q234 : elm (S180 6) 0 = v97.toInt := (elm_of c233 0).trans (congrArg Int32.toInt (((show cpF f94 1 4 0 1 0 = f94 4 from rfl).trans (ee98))))
  have q235 : elm (S 6) 1 = v103.toInt := (elm_of c95 1).trans (congrArg Int32.toInt (ee104))
  have q236 : elm (S180 6) 1 = v103.toInt := (elm_of c233 1).trans (congrArg Int32.toInt (((show cpF f94 1 4 0 1 1 = f94 1 from rfl).trans (ee104))))
  have q237 : elm (S 6) 2 = v106.toInt := (elm_of c95 2).trans (congrArg Int32.toInt (ee107))
  have q238 : elm (S180 6) 2 = v106.toInt := (elm_of c233 2).trans (congrArg Int32.toInt (((show cpF f94 1 4 0 1 2 = f94 2 from rfl).trans (ee107))))
  have q239 : elm (S 6) 3 = v109.toInt := (elm_of c95 3).trans (congrArg Int32.toInt (ee110))
  have q240 : elm (S180 6) 3 = v109.toInt := (elm_of c233 3).trans (congrArg Int32.toInt (((show cpF f94 1 4 0 1 3 = f94 3 from rfl).trans (ee110))))
  exact xrv E hr hlk hQ (⟨hI, (up_o (up_o (up_o (up_o (up_o (up_o (up_o o_refl eS144 (by decide)) eS149 (by decide)) eS156 (by decide)) eS162 (by decide)) eS169 (by decide)) eS175 (by decide)) eS180 (by decide)), ⟨by omega, by omega⟩, ⟨by omega, by omega⟩, ⟨by omega, by omega⟩, ⟨by omega, by omega⟩, ⟨by omega, by omega⟩, ⟨by omega, by omega⟩, ⟨by omega, by omega⟩, ⟨by omega, by omega⟩, ⟨by omega, by omega⟩, ⟨by omega, by omega⟩, ⟨by omega, by omega⟩, ⟨by omega, by omega⟩, ⟨by omega, by omega⟩, ⟨by omega, by omega⟩, ⟨by omega, by omega⟩, ⟨by omega, by omega⟩, ⟨by omega, by omega⟩, ⟨by omega, by omega⟩, ⟨by omega, by omega⟩, ⟨by omega, by omega⟩, ⟨by omega, by omega⟩, ⟨by omega, by omega⟩, ⟨by omega, by omega⟩, ⟨by omega, by omega⟩, ⟨by omega, by omega⟩, ⟨by omega, by omega⟩, ⟨by omega, by omega⟩, ⟨by omega, by omega⟩, (at_cpb c2 c113 c184 c181 b3.2.2.2.2.2.2.2 hAT4), (at_cpo c2 c113 c184 c181 b3.2.2.2.2.2.2.2 (by decide) hAT1), (at_cpo c2 c113 c184 c181 b3.2.2.2.2.2.2.2 (by decide) hAT2), (at_cpo c2 c113 c184 c181 b3.2.2.2.2.2.2.2 (by decide) hAT3)⟩) dX12_copyShore_76
set_option maxHeartbeats 4000000 in
set_option maxRecDepth 100000 in
theorem gX12_copyShore_0_1 (l : Launch) (g : GG) (ad : Nat → Nat) (hD : Dj ad 20) (S : SS) (hI : InvM g ad S) (hAT0 : ATp (S 7) (S 12) 0) (hAT1 : ATp (S 7) (S 12) 1) (hAT2 : ATp (S 7) (S 12) 2) (hAT3 : ATp (S 7) (S 12) 3) : Met l yX12_copyShore (wG (.code yX12_copyShore cX12_copyShore 3 none)) (Rm 1) (XPre g ad 20 S [.ref (ad 0), .int 0, .int 1]) (va_Qv (fun S' => InvM g ad S' ∧ (∀ j, j ∉ ([6, 7, 8, 9, 10, 11, 12] : List Nat) → S' j = S j) ∧ (0 ≤ elm (S 7) 0 + (-1) * elm (S' 7) 10 ∧ 0 ≤ elm (S' 7) 10 + (-1) * elm (S 7) 0) ∧ (0 ≤ elm (S 7) 1 + (-1) * elm (S' 7) 11 ∧ 0 ≤ elm (S' 7) 11 + (-1) * elm (S 7) 1) ∧ (0 ≤ elm (S 7) 3 + (-1) * elm (S' 7) 13 ∧ 0 ≤ elm (S' 7) 13 + (-1) * elm (S 7) 3) ∧ (0 ≤ elm (S 7) 6 + (-1) * elm (S' 7) 16 ∧ 0 ≤ elm (S' 7) 16 + (-1) * elm (S 7) 6) ∧ (0 ≤ elm (S 7) 8 + (-1) * elm (S' 7) 18 ∧ 0 ≤ elm (S' 7) 18 + (-1) * elm (S 7) 8) ∧ (0 ≤ elm (S 7) 9 + (-1) * elm (S' 7) 19 ∧ 0 ≤ elm (S' 7) 19 + (-1) * elm (S 7) 9) ∧ (0 ≤ elm (S 7) 0 + (-1) * elm (S' 7) 0 ∧ 0 ≤ elm (S' 7) 0 + (-1) * elm (S 7) 0) ∧ (0 ≤ elm (S 7) 1 + (-1) * elm (S' 7) 1 ∧ 0 ≤ elm (S' 7) 1 + (-1) * elm (S 7) 1) ∧ (0 ≤ elm (S 7) 3 + (-1) * elm (S' 7) 3 ∧ 0 ≤ elm (S' 7) 3 + (-1) * elm (S 7) 3) ∧ (0 ≤ elm (S 7) 6 + (-1) * elm (S' 7) 6 ∧ 0 ≤ elm (S' 7) 6 + (-1) * elm (S 7) 6) ∧ (0 ≤ elm (S 7) 8 + (-1) * elm (S' 7) 8 ∧ 0 ≤ elm (S' 7) 8 + (-1) * elm (S 7) 8) ∧ (0 ≤ elm (S 7) 9 + (-1) * elm (S' 7) 9 ∧ 0 ≤ elm (S' 7) 9 + (-1) * elm (S 7) 9) ∧ (0 ≤ elm (S 7) 20 + (-1) * elm (S' 7) 20 ∧ 0 ≤ elm (S' 7) 20 + (-1) * elm (S 7) 20) ∧ (0 ≤ elm (S 7) 21 + (-1) * elm (S' 7) 21 ∧ 0 ≤ elm (S' 7) 21 + (-1) * elm (S 7) 21) ∧ (0 ≤ elm (S 7) 23 + (-1) * elm (S' 7) 23 ∧ 0 ≤ elm (S' 7) 23 + (-1) * elm (S 7) 23) ∧ (0 ≤ elm (S 7) 26 + (-1) * elm (S' 7) 26 ∧ 0 ≤ elm (S' 7) 26 + (-1) * elm (S 7) 26) ∧ (0 ≤ elm (S 7) 28 + (-1) * elm (S' 7) 28 ∧ 0 ≤ elm (S' 7) 28 + (-1) * elm (S 7) 28) ∧ (0 ≤ elm (S 7) 29 + (-1) * elm (S' 7) 29 ∧ 0 ≤ elm (S' 7) 29 + (-1) * elm (S 7) 29) ∧ (0 ≤ elm (S 7) 30 + (-1) * elm (S' 7) 30 ∧ 0 ≤ elm (S' 7) 30 + (-1) * elm (S 7) 30) ∧ (0 ≤ elm (S 7) 31 + (-1) * elm (S' 7) 31 ∧ 0 ≤ elm (S' 7) 31 + (-1) * elm (S 7) 31) ∧ (0 ≤ elm (S 7) 33 + (-1) * elm (S' 7) 33 ∧ 0 ≤ elm (S' 7) 33 + (-1) * elm (S 7) 33) ∧ (0 ≤ elm (S 7) 36 + (-1) * elm (S' 7) 36 ∧ 0 ≤ elm (S' 7) 36 + (-1) * elm (S 7) 36) ∧ (0 ≤ elm (S 7) 38 + (-1) * elm (S' 7) 38 ∧ 0 ≤ elm (S' 7) 38 + (-1) * elm (S 7) 38) ∧ (0 ≤ elm (S 7) 39 + (-1) * elm (S' 7) 39 ∧ 0 ≤ elm (S' 7) 39 + (-1) * elm (S 7) 39) ∧ (0 ≤ elm (S 6) 0 + (-1) * elm (S' 6) 1 ∧ 0 ≤ elm (S' 6) 1 + (-1) * elm (S 6) 0) ∧ (0 ≤ elm (S 6) 0 + (-1) * elm (S' 6) 0 ∧ 0 ≤ elm (S' 6) 0 + (-1) * elm (S 6) 0) ∧ (0 ≤ elm (S 6) 2 + (-1) * elm (S' 6) 2 ∧ 0 ≤ elm (S' 6) 2 + (-1) * elm (S 6) 2) ∧ (0 ≤ elm (S 6) 3 + (-1) * elm (S' 6) 3 ∧ 0 ≤ elm (S' 6) 3 + (-1) * elm (S 6) 3) ∧ (ATp (S' 7) (S' 12) 0) ∧ (ATp (S' 7) (S' 12) 1) ∧ (ATp (S' 7) (S' 12) 2) ∧ (ATp (S' 7) (S' 12) 3)) (QB g ad 20) (FA ad 20)) 0 0 (FA ad 20) := by
  refine xmet cX12_copyShore "EbbWreckModel" (by decide) rfl (Nat.le_of_ble_eq_true rfl) (fun p e s m below meth c E hr hlk hml hQ ls hl => ?_)
  have hx := E.1
  have hb := E.2.1
  have hs : Sp ad 20 (FA ad 20) := Sp.fa hD
  have hl : lv_has ls 3 [(0, .ref (ad 0)), (1, .int 0), (2, .int 1)] := hl
  obtain ⟨f1, c2, b3⟩ := invM_7 hI
  obtain ⟨v4, ee5⟩ : ∃ z : Int32, f1 0 = z := ⟨_, rfl⟩
  have b6 : Bd v4 (0) (12) := (by rw [← ee5]; exact b3.1 0 (by decide))
  obtain ⟨v7, ee8⟩ : ∃ z : Int32, f1 10 = z := ⟨_, rfl⟩
  have b9 : Bd v7 (0) (12) := (by rw [← ee8]; exact b3.1 10 (by decide))
  obtain ⟨v10, ee11⟩ : ∃ z : Int32, f1 1 = z := ⟨_, rfl⟩
  have b12 : Bd v10 (0) (12) := (by rw [← ee11]; exact b3.2.1 1 (by decide))
  obtain ⟨v13, ee14⟩ : ∃ z : Int32, f1 11 = z := ⟨_, rfl⟩
  have b15 : Bd v13 (0) (12) := (by rw [← ee14]; exact b3.2.1 11 (by decide))
  obtain ⟨v16, ee17⟩ : ∃ z : Int32, f1 3 = z := ⟨_, rfl⟩
  have b18 : Bd v16 (0) (12) := (by rw [← ee17]; exact b3.2.2.2.1 3 (by decide))
  obtain ⟨v19, ee20⟩ : ∃ z : Int32, f1 13 = z := ⟨_, rfl⟩
  have b21 : Bd v19 (0) (12) := (by rw [← ee20]; exact b3.2.2.2.1 13 (by decide))
  obtain ⟨v22, ee23⟩ : ∃ z : Int32, f1 6 = z := ⟨_, rfl⟩
  have b24 : Bd v22 (0) (8) := (by rw [← ee23]; exact b3.2.2.2.2.1 6 (by decide))
  obtain ⟨v25, ee26⟩ : ∃ z : Int32, f1 16 = z := ⟨_, rfl⟩
  have b27 : Bd v25 (0) (8) := (by rw [← ee26]; exact b3.2.2.2.2.1 16 (by decide))
  obtain ⟨v28, ee29⟩ : ∃ z : Int32, f1 8 = z := ⟨_, rfl⟩
  have b30 : Bd v28 (0) (3) := (by rw [← ee29]; exact b3.2.2.2.2.2.2.1 8 (by decide))
  obtain ⟨v31, ee32⟩ : ∃ z : Int32, f1 18 = z := ⟨_, rfl⟩
  have b33 : Bd v31 (0) (3) := (by rw [← ee32]; exact b3.2.2.2.2.2.2.1 18 (by decide))
  obtain ⟨v34, ee35⟩ : ∃ z : Int32, f1 9 = z := ⟨_, rfl⟩
  have b36 : Bd v34 (0) (40) := (by rw [← ee35]; exact b3.2.2.2.2.2.2.2 9 (by decide))
  obtain ⟨v37, ee38⟩ : ∃ z : Int32, f1 19 = z := ⟨_, rfl⟩
  have b39 : Bd v37 (0) (40) := (by rw [← ee38]; exact b3.2.2.2.2.2.2.2 19 (by decide))
  obtain ⟨v40, ee41⟩ : ∃ z : Int32, f1 20 = z := ⟨_, rfl⟩
  have b42 : Bd v40 (0) (12) := (by rw [← ee41]; exact b3.1 20 (by decide))
  obtain ⟨v43, ee44⟩ : ∃ z : Int32, f1 21 = z := ⟨_, rfl⟩
  have b45 : Bd v43 (0) (12) := (by rw [← ee44]; exact b3.2.1 21 (by decide))
  obtain ⟨v46, ee47⟩ : ∃ z : Int32, f1 23 = z := ⟨_, rfl⟩
  have b48 : Bd v46 (0) (12) := (by rw [← ee47]; exact b3.2.2.2.1 23 (by decide))
  obtain ⟨v49, ee50⟩ : ∃ z : Int32, f1 26 = z := ⟨_, rfl⟩
  have b51 : Bd v49 (0) (8) := (by rw [← ee50]; exact b3.2.2.2.2.1 26 (by decide))
  obtain ⟨v52, ee53⟩ : ∃ z : Int32, f1 28 = z := ⟨_, rfl⟩
  have b54 : Bd v52 (0) (3) := (by rw [← ee53]; exact b3.2.2.2.2.2.2.1 28 (by decide))
  obtain ⟨v55, ee56⟩ : ∃ z : Int32, f1 29 = z := ⟨_, rfl⟩
  have b57 : Bd v55 (0) (40) := (by rw [← ee56]; exact b3.2.2.2.2.2.2.2 29 (by decide))
  obtain ⟨v58, ee59⟩ : ∃ z : Int32, f1 30 = z := ⟨_, rfl⟩
  have b60 : Bd v58 (0) (12) := (by rw [← ee59]; exact b3.1 30 (by decide))
  obtain ⟨v61, ee62⟩ : ∃ z : Int32, f1 31 = z := ⟨_, rfl⟩
  have b63 : Bd v61 (0) (12) := (by rw [← ee62]; exact b3.2.1 31 (by decide))
  obtain ⟨v64, ee65⟩ : ∃ z : Int32, f1 33 = z := ⟨_, rfl⟩
  have b66 : Bd v64 (0) (12) := (by rw [← ee65]; exact b3.2.2.2.1 33 (by decide))
  obtain ⟨v67, ee68⟩ : ∃ z : Int32, f1 36 = z := ⟨_, rfl⟩
  have b69 : Bd v67 (0) (8) := (by rw [← ee68]; exact b3.2.2.2.2.1 36 (by decide))
  obtain ⟨v70, ee71⟩ : ∃ z : Int32, f1 38 = z := ⟨_, rfl⟩
  have b72 : Bd v70 (0) (3) := (by rw [← ee71]; exact b3.2.2.2.2.2.2.1 38 (by decide))
  obtain ⟨v73, ee74⟩ : ∃ z : Int32, f1 39 = z := ⟨_, rfl⟩
  have b75 : Bd v73 (0) (40) := (by rw [← ee74]; exact b3.2.2.2.2.2.2.2 39 (by decide))
  obtain ⟨f76, c77, b78⟩ := invM_6 hI
  obtain ⟨v79, ee80⟩ : ∃ z : Int32, f76 0 = z := ⟨_, rfl⟩
  have b81 : Bd v79 (0) (40000) := (by rw [← ee80]; exact b78 0)
  obtain ⟨v82, ee83⟩ : ∃ z : Int32, f76 1 = z := ⟨_, rfl⟩
  have b84 : Bd v82 (0) (40000) := (by rw [← ee83]; exact b78 1)
  obtain ⟨v85, ee86⟩ : ∃ z : Int32, f76 2 = z := ⟨_, rfl⟩
  have b87 : Bd v85 (0) (40000) := (by rw [← ee86]; exact b78 2)
  obtain ⟨v88, ee89⟩ : ∃ z : Int32, f76 3 = z := ⟨_, rfl⟩
  have b90 : Bd v88 (0) (40000) := (by rw [← ee89]; exact b78 3)
  obtain ⟨f91, c92, b93⟩ := invM_12 hI
  refine lv_aload_n hx hb dX12_copyShore_0 rfl (lv_at hl 0 rfl) ?_
  obtain ⟨v94, v95, v97, v99, v101, v102, w103, v104, v106, v107, v108, v109, v111, v113, v115, v117, v119, v120, v121, c122, b96, b98, b100, b105, b110, b112, b114, b116, b118⟩ := invM_0 hI
  have c122 : S 0 = .inr (12, [.int v94, .ref (ad 1), .ref (ad 2), .ref (ad 3), .ref (ad 4), .ref (ad 5), .int v95, .int v97, .int v99, .int v101, .int v102, .long w103, .int v104, .int v106, .int v107, .int v108, .ref (ad 6), .ref (ad 7), .ref (ad 8), .ref (ad 9), .ref (ad 10), .ref (ad 11), .ref (ad 12), .ref (ad 13), .ref (ad 14), .ref (ad 15), .int v109, .int v111, .ref (ad 16), .int v113, .int v115, .int v117, .int v119, .int v120, .ref (ad 17), .ref (ad 18), .int v121, .ref (ad 19)]) := c122
  refine xget E hQ 0 (by decide) c122 rfl 16 (by decide) q1484 rfl dX12_copyShore_1 ?_
  refine lv_iconst (v := 1) hx hb dX12_copyShore_4 (by decide) ?_
  refine lv_iload_n hx hb dX12_copyShore_5 rfl (lv_at hl 1 rfl) ?_
  refine lv_iload_n hx hb dX12_copyShore_6 rfl (lv_at hl 2 rfl) ?_
  refine xcSv E hs hQ hml hl.1 (uCopyRow l g ad 20 hD S 6 (by decide) 5 (by decide) f76 1 0 1 (by decide) (by decide) (by decide) c77) mX12_copyRow q1743 rfl ⟨(Nat.le_of_ble_eq_true rfl), (Nat.le_of_ble_eq_true rfl)⟩ ⟨(Nat.le_of_ble_eq_true rfl), (Nat.le_of_ble_eq_true rfl)⟩ (Nat.le_of_ble_eq_true rfl) rfl dX12_copyShore_7 (fun S123 H locs eS123 hQ => ?_)
  have hI := invM_up_6 hI eS123 ⟨_, rfl, cp_b b78⟩
  have b125 : ∀ j, Bd ((cpF f76 1 0 1 1) j) (0) (40000) := cp_b b78
  have c124 : S123 6 = .inl (g.2 0, 5, .inl (cpF f76 1 0 1 1)) := up_at eS123 rfl
  refine lv_aload_n hx hb dX12_copyShore_10 rfl (lv_at hl 0 rfl) ?_
  have c126 : S123 0 = .inr (12, [.int v94, .ref (ad 1), .ref (ad 2), .ref (ad 3), .ref (ad 4), .ref (ad 5), .int v95, .int v97, .int v99, .int v101, .int v102, .long w103, .int v104, .int v106, .int v107, .int v108, .ref (ad 6), .ref (ad 7), .ref (ad 8), .ref (ad 9), .ref (ad 10), .ref (ad 11), .ref (ad 12), .ref (ad 13), .ref (ad 14), .ref (ad 15), .int v109, .int v111, .ref (ad 16), .int v113, .int v115, .int v117, .int v119, .int v120, .ref (ad 17), .ref (ad 18), .int v121, .ref (ad 19)]) := (up_ne eS123 (by decide) c122)
  refine xget E hQ 0 (by decide) c126 rfl 17 (by decide) q1485 rfl dX12_copyShore_11 ?_
  refine lv_bipush (v := 10) hx hb dX12_copyShore_14 (by decide) ?_
  refine lv_iload_n hx hb dX12_copyShore_16 rfl (lv_at hl 1 rfl) ?_
  refine lv_iload_n hx hb dX12_copyShore_17 rfl (lv_at hl 2 rfl) ?_
  have c127 : S123 7 = .inl (g.2 0, 50, .inl f1) := (up_ne eS123 (by decide) c2)
  refine xcSv E hs hQ hml hl.1 (uCopyRow l g ad 20 hD S123 7 (by decide) 50 (by decide) f1 10 0 1 (by decide) (by decide) (by decide) c127) mX12_copyRow q1743 rfl ⟨(Nat.le_of_ble_eq_true rfl), (Nat.le_of_ble_eq_true rfl)⟩ ⟨(Nat.le_of_ble_eq_true rfl), (Nat.le_of_ble_eq_true rfl)⟩ (Nat.le_of_ble_eq_true rfl) rfl dX12_copyShore_18 (fun S128 H locs eS128 hQ => ?_)
  have hI := invM_up_7 hI eS128 ⟨_, rfl, ⟨cp_m (q := 1) b3.1 (by decide), cp_m (q := 1) b3.2.1 (by decide), cp_m (q := 1) b3.2.2.1 (by decide), cp_m (q := 1) b3.2.2.2.1 (by decide), cp_m (q := 1) b3.2.2.2.2.1 (by decide), cp_m (q := 1) b3.2.2.2.2.2.1 (by decide), cp_m (q := 1) b3.2.2.2.2.2.2.1 (by decide), cp_m (q := 1) b3.2.2.2.2.2.2.2 (by decide)⟩⟩
  have b130 : (∀ j, j % 10 = 0 → Bd ((cpF f1 10 0 1 10) j) (0) (12)) ∧ (∀ j, j % 10 = 1 → Bd ((cpF f1 10 0 1 10) j) (0) (12)) ∧ (∀ j, j % 10 = 2 → Bd ((cpF f1 10 0 1 10) j) (0) (6)) ∧ (∀ j, j % 10 = 3 → Bd ((cpF f1 10 0 1 10) j) (0) (12)) ∧ (∀ j, j % 10 = 6 → Bd ((cpF f1 10 0 1 10) j) (0) (8)) ∧ (∀ j, j % 10 = 7 → Bd ((cpF f1 10 0 1 10) j) (0) (6)) ∧ (∀ j, j % 10 = 8 → Bd ((cpF f1 10 0 1 10) j) (0) (3)) ∧ (∀ j, j % 10 = 9 → Bd ((cpF f1 10 0 1 10) j) (0) (40)) := ⟨cp_m (q := 1) b3.1 (by decide), cp_m (q := 1) b3.2.1 (by decide), cp_m (q := 1) b3.2.2.1 (by decide), cp_m (q := 1) b3.2.2.2.1 (by decide), cp_m (q := 1) b3.2.2.2.2.1 (by decide), cp_m (q := 1) b3.2.2.2.2.2.1 (by decide), cp_m (q := 1) b3.2.2.2.2.2.2.1 (by decide), cp_m (q := 1) b3.2.2.2.2.2.2.2 (by decide)⟩
  have c129 : S128 7 = .inl (g.2 0, 50, .inl (cpF f1 10 0 1 10)) := up_at eS128 rfl
  refine lv_aload_n hx hb dX12_copyShore_21 rfl (lv_at hl 0 rfl) ?_
  have c131 : S128 0 = .inr (12, [.int v94, .ref (ad 1), .ref (ad 2), .ref (ad 3), .ref (ad 4), .ref (ad 5), .int v95, .int v97, .int v99, .int v101, .int v102, .long w103, .int v104, .int v106, .int v107, .int v108, .ref (ad 6), .ref (ad 7), .ref (ad 8), .ref (ad 9), .ref (ad 10), .ref (ad 11), .ref (ad 12), .ref (ad 13), .ref (ad 14), .ref (ad 15), .int v109, .int v111, .ref (ad 16), .int v113, .int v115, .int v117, .int v119, .int v120, .ref (ad 17), .ref (ad 18), .int v121, .ref (ad 19)]) := (up_ne eS128 (by decide) c126)
  refine xget E hQ 0 (by decide) c131 rfl 18 (by decide) q1486 rfl dX12_copyShore_22 ?_
  refine lv_bipush (v := 24) hx hb dX12_copyShore_25 (by decide) ?_
  refine lv_iload_n hx hb dX12_copyShore_27 rfl (lv_at hl 1 rfl) ?_
  refine lv_iload_n hx hb dX12_copyShore_28 rfl (lv_at hl 2 rfl) ?_
  obtain ⟨f132, c133⟩ := invM_8 hI
  refine xcSv E hs hQ hml hl.1 (uCopyRow l g ad 20 hD S128 8 (by decide) 120 (by decide) f132 24 0 1 (by decide) (by decide) (by decide) c133) mX12_copyRow q1743 rfl ⟨(Nat.le_of_ble_eq_true rfl), (Nat.le_of_ble_eq_true rfl)⟩ ⟨(Nat.le_of_ble_eq_true rfl), (Nat.le_of_ble_eq_true rfl)⟩ (Nat.le_of_ble_eq_true rfl) rfl dX12_copyShore_29 (fun S135 H locs eS135 hQ => ?_)
  have hI := invM_up_8 hI eS135 ⟨_, rfl⟩
  have c136 : S135 8 = .inl (g.2 0, 120, .inl (cpF f132 24 0 1 24)) := up_at eS135 rfl
  refine lv_aload_n hx hb dX12_copyShore_32 rfl (lv_at hl 0 rfl) ?_
  have c137 : S135 0 = .inr (12, [.int v94, .ref (ad 1), .ref (ad 2), .ref (ad 3), .ref (ad 4), .ref (ad 5), .int v95, .int v97, .int v99, .int v101, .int v102, .long w103, .int v104, .int v106, .int v107, .int v108, .ref (ad 6), .ref (ad 7), .ref (ad 8), .ref (ad 9), .ref (ad 10), .ref (ad 11), .ref (ad 12), .ref (ad 13), .ref (ad 14), .ref (ad 15), .int v109, .int v111, .ref (ad 16), .int v113, .int v115, .int v117, .int v119, .int v120, .ref (ad 17), .ref (ad 18), .int v121, .ref (ad 19)]) := (up_ne eS135 (by decide) c131)
  refine xget E hQ 0 (by decide) c137 rfl 19 (by decide) q1487 rfl dX12_copyShore_33 ?_
  refine lv_bipush (v := 24) hx hb dX12_copyShore_36 (by decide) ?_
  refine lv_iload_n hx hb dX12_copyShore_38 rfl (lv_at hl 1 rfl) ?_
  refine lv_iload_n hx hb dX12_copyShore_39 rfl (lv_at hl 2 rfl) ?_
  obtain ⟨f138, c139, b140⟩ := invM_9 hI
  refine xcSv E hs hQ hml hl.1 (uCopyRow l g ad 20 hD S135 9 (by decide) 120 (by decide) f138 24 0 1 (by decide) (by decide) (by decide) c139) mX12_copyRow q1743 rfl ⟨(Nat.le_of_ble_eq_true rfl), (Nat.le_of_ble_eq_true rfl)⟩ ⟨(Nat.le_of_ble_eq_true rfl), (Nat.le_of_ble_eq_true rfl)⟩ (Nat.le_of_ble_eq_true rfl) rfl dX12_copyShore_40 (fun S141 H locs eS141 hQ => ?_)
  have hI := invM_up_9 hI eS141 ⟨_, rfl, ⟨cp_m (q := 8) b140.1 (by decide), cp_m (q := 8) b140.2 (by decide)⟩⟩
  have b143 : (∀ j, j % 3 = 1 → Bd ((cpF f138 24 0 1 24) j) (0) (11)) ∧ (∀ j, j % 3 = 2 → Bd ((cpF f138 24 0 1 24) j) (0) (99)) := ⟨cp_m (q := 8) b140.1 (by decide), cp_m (q := 8) b140.2 (by decide)⟩
  have c142 : S141 9 = .inl (g.2 0, 120, .inl (cpF f138 24 0 1 24)) := up_at eS141 rfl
  refine lv_aload_n hx hb dX12_copyShore_43 rfl (lv_at hl 0 rfl) ?_
  have c144 : S141 0 = .inr (12, [.int v94, .ref (ad 1), .ref (ad 2), .ref (ad 3), .ref (ad 4), .ref (ad 5), .int v95, .int v97, .int v99, .int v101, .int v102, .long w103, .int v104, .int v106, .int v107, .int v108, .ref (ad 6), .ref (ad 7), .ref (ad 8), .ref (ad 9), .ref (ad 10), .ref (ad 11), .ref (ad 12), .ref (ad 13), .ref (ad 14), .ref (ad 15), .int v109, .int v111, .ref (ad 16), .int v113, .int v115, .int v117, .int v119, .int v120, .ref (ad 17), .ref (ad 18), .int v121, .ref (ad 19)]) := (up_ne eS141 (by decide) c137)
  refine xget E hQ 0 (by decide) c144 rfl 20 (by decide) q1488 rfl dX12_copyShore_44 ?_
  refine lv_bipush (v := 24) hx hb dX12_copyShore_47 (by decide) ?_
  refine lv_iload_n hx hb dX12_copyShore_49 rfl (lv_at hl 1 rfl) ?_
  refine lv_iload_n hx hb dX12_copyShore_50 rfl (lv_at hl 2 rfl) ?_
  obtain ⟨f145, c146⟩ := invM_10 hI
  refine xcSv E hs hQ hml hl.1 (uCopyRow l g ad 20 hD S141 10 (by decide) 120 (by decide) f145 24 0 1 (by decide) (by decide) (by decide) c146) mX12_copyRow q1743 rfl ⟨(Nat.le_of_ble_eq_true rfl), (Nat.le_of_ble_eq_true rfl)⟩ ⟨(Nat.le_of_ble_eq_true rfl), (Nat.le_of_ble_eq_true rfl)⟩ (Nat.le_of_ble_eq_true rfl) rfl dX12_copyShore_51 (fun S148 H locs eS148 hQ => ?_)
  have hI := invM_up_10 hI eS148 ⟨_, rfl⟩
  have c149 : S148 10 = .inl (g.2 0, 120, .inl (cpF f145 24 0 1 24)) := up_at eS148 rfl
  refine lv_aload_n hx hb dX12_copyShore_54 rfl (lv_at hl 0 rfl) ?_
  have c150 : S148 0 = .inr (12, [.int v94, .ref (ad 1), .ref (ad 2), .ref (ad 3), .ref (ad 4), .ref (ad 5), .int v95, .int v97, .int v99, .int v101, .int v102, .long w103, .int v104, .int v106, .int v107, .int v108, .ref (ad 6), .ref (ad 7), .ref (ad 8), .ref (ad 9), .ref (ad 10), .ref (ad 11), .ref (ad 12), .ref (ad 13), .ref (ad 14), .ref (ad 15), .int v109, .int v111, .ref (ad 16), .int v113, .int v115, .int v117, .int v119, .int v120, .ref (ad 17), .ref (ad 18), .int v121, .ref (ad 19)]) := (up_ne eS148 (by decide) c144)
  refine xget E hQ 0 (by decide) c150 rfl 21 (by decide) q1489 rfl dX12_copyShore_55 ?_
  refine lv_iconst (v := 3) hx hb dX12_copyShore_58 (by decide) ?_
  refine lv_iload_n hx hb dX12_copyShore_59 rfl (lv_at hl 1 rfl) ?_
  refine lv_iload_n hx hb dX12_copyShore_60 rfl (lv_at hl 2 rfl) ?_
  obtain ⟨f151, c152, b153⟩ := invM_11 hI
  refine xcSv E hs hQ hml hl.1 (uCopyRow l g ad 20 hD S148 11 (by decide) 15 (by decide) f151 3 0 1 (by decide) (by decide) (by decide) c152) mX12_copyRow q1743 rfl ⟨(Nat.le_of_ble_eq_true rfl), (Nat.le_of_ble_eq_true rfl)⟩ ⟨(Nat.le_of_ble_eq_true rfl), (Nat.le_of_ble_eq_true rfl)⟩ (Nat.le_of_ble_eq_true rfl) rfl dX12_copyShore_61 (fun S154 H locs eS154 hQ => ?_)
  have hI := invM_up_11 hI eS154 ⟨_, rfl, cp_b b153⟩
  have b156 : ∀ j, Bd ((cpF f151 3 0 1 3) j) (0) (11) := cp_b b153
  have c155 : S154 11 = .inl (g.2 0, 15, .inl (cpF f151 3 0 1 3)) := up_at eS154 rfl
  refine lv_aload_n hx hb dX12_copyShore_64 rfl (lv_at hl 0 rfl) ?_
  have c157 : S154 0 = .inr (12, [.int v94, .ref (ad 1), .ref (ad 2), .ref (ad 3), .ref (ad 4), .ref (ad 5), .int v95, .int v97, .int v99, .int v101, .int v102, .long w103, .int v104, .int v106, .int v107, .int v108, .ref (ad 6), .ref (ad 7), .ref (ad 8), .ref (ad 9), .ref (ad 10), .ref (ad 11), .ref (ad 12), .ref (ad 13), .ref (ad 14), .ref (ad 15), .int v109, .int v111, .ref (ad 16), .int v113, .int v115, .int v117, .int v119, .int v120, .ref (ad 17), .ref (ad 18), .int v121, .ref (ad 19)]) := (up_ne eS154 (by decide) c150)
  refine xget E hQ 0 (by decide) c157 rfl 22 (by decide) q1490 rfl dX12_copyShore_65 ?_
  refine lv_sipush (v := 160) hx hb dX12_copyShore_68 (by decide) ?_
  refine lv_iload_n hx hb dX12_copyShore_71 rfl (lv_at hl 1 rfl) ?_
  refine lv_iload_n hx hb dX12_copyShore_72 rfl (lv_at hl 2 rfl) ?_
  have c158 : S154 12 = .inl (g.2 0, 800, .inl f91) := (up_ne eS154 (by decide) (up_ne eS148 (by decide) (up_ne eS141 (by decide) (up_ne eS135 (by decide) (up_ne eS128 (by decide) (up_ne eS123 (by decide) c92))))))
  refine xcSv E hs hQ hml hl.1 (uCopyRow l g ad 20 hD S154 12 (by decide) 800 (by decide) f91 160 0 1 (by decide) (by decide) (by decide) c158) mX12_copyRow q1743 rfl ⟨(Nat.le_of_ble_eq_true rfl), (Nat.le_of_ble_eq_true rfl)⟩ ⟨(Nat.le_of_ble_eq_true rfl), (Nat.le_of_ble_eq_true rfl)⟩ (Nat.le_of_ble_eq_true rfl) rfl dX12_copyShore_73 (fun S159 H locs eS159 hQ => ?_)
  have hI := invM_up_12 hI eS159 ⟨_, rfl, ⟨cp_m (q := 40) b93.1 (by decide), cp_m (q := 40) b93.2 (by decide)⟩⟩
  have b161 : (∀ j, j % 4 = 1 → Bd ((cpF f91 160 0 1 160) j) (0) (7)) ∧ (∀ j, j % 4 = 2 → Bd ((cpF f91 160 0 1 160) j) (0) (400)) := ⟨cp_m (q := 40) b93.1 (by decide), cp_m (q := 40) b93.2 (by decide)⟩
  have c160 : S159 12 = .inl (g.2 0, 800, .inl (cpF f91 160 0 1 160)) := up_at eS159 rfl
  have q162 : elm (S 7) 0 = v4.toInt := (elm_of c2 0).trans (congrArg Int32.toInt (ee5))
  have c163 : S159 7 = .inl (g.2 0, 50, .inl (cpF f1 10 0 1 10)) := (up_ne eS159 (by decide) (up_ne eS154 (by decide) (up_ne eS148 (by decide) (up_ne eS141 (by decide) (up_ne eS135 (by decide) c129)))))
  have q164 : elm (S159 7) 10 = v4.toInt := (elm_of c163 10).trans (congrArg Int32.toInt (((show cpF f1 10 0 1 10 10 = f1 0 from rfl).trans (ee5))))
  have q165 : elm (S 7) 1 = v10.toInt := (elm_of c2 1).trans (congrArg Int32.toInt (ee11))
  have q166 : elm (S159 7) 11 = v10.toInt := (elm_of c163 11).trans (congrArg Int32.toInt (((show cpF f1 10 0 1 10 11 = f1 1 from rfl).trans (ee11))))
  have q167 : elm (S 7) 3 = v16.toInt := (elm_of c2 3).trans (congrArg Int32.toInt (ee17))
  have q168 : elm (S159 7) 13 = v16.toInt := (elm_of c163 13).trans (congrArg Int32.toInt (((show cpF f1 10 0 1 10 13 = f1 3 from rfl).trans (ee17))))
  have q169 : elm (S 7) 6 = v22.toInt := (elm_of c2 6).trans (congrArg Int32.toInt (ee23))
  have q170 : elm (S159 7) 16 = v22.toInt := (elm_of c163 16).trans (congrArg Int32.toInt (((show cpF f1 10 0 1 10 16 = f1 6 from rfl).trans (ee23))))
  have q171 : elm (S 7) 8 = v28.toInt := (elm_of c2 8).trans (congrArg Int32.toInt (ee29))
  have q172 : elm (S159 7) 18 = v28.toInt := (elm_of c163 18).trans (congrArg Int32.toInt (((show cpF f1 10 0 1 10 18 = f1 8 from rfl).trans (ee29))))
  have q173 : elm (S 7) 9 = v34.toInt := (elm_of c2 9).trans (congrArg Int32.toInt (ee35))
  have q174 : elm (S159 7) 19 = v34.toInt := (elm_of c163 19).trans (congrArg Int32.toInt (((show cpF f1 10 0 1 10 19 = f1 9 from rfl).trans (ee35))))
  have q175 : elm (S159 7) 0 = v4.toInt := (elm_of c163 0).trans (congrArg Int32.toInt (((show cpF f1 10 0 1 10 0 = f1 0 from rfl).trans (ee5))))
  have q176 : elm (S159 7) 1 = v10.toInt := (elm_of c163 1).trans (congrArg Int32.toInt (((show cpF f1 10 0 1 10 1 = f1 1 from rfl).trans (ee11))))
  have q177 : elm (S159 7) 3 = v16.toInt := (elm_of c163 3).trans (congrArg Int32.toInt (((show cpF f1 10 0 1 10 3 = f1 3 from rfl).trans (ee17))))
  have q178 : elm (S159 7) 6 = v22.toInt := (elm_of c163 6).trans (congrArg Int32.toInt (((show cpF f1 10 0 1 10 6 = f1 6 from rfl).trans (ee23))))
  have q179 : elm (S159 7) 8 = v28.toInt := (elm_of c163 8).trans (congrArg Int32.toInt (((show cpF f1 10 0 1 10 8 = f1 8 from rfl).trans (ee29))))
  have q180 : elm (S159 7) 9 = v34.toInt := (elm_of c163 9).trans (congrArg Int32.toInt (((show cpF f1 10 0 1 10 9 = f1 9 from rfl).trans (ee35))))
  have q181 : elm (S 7) 20 = v40.toInt := (elm_of c2 20).trans (congrArg Int32.toInt (ee41))
  have q182 : elm (S159 7) 20 = v40.toInt := (elm_of c163 20).trans (congrArg Int32.toInt (((show cpF f1 10 0 1 10 20 = f1 20 from rfl).trans (ee41))))
  have q183 : elm (S 7) 21 = v43.toInt := (elm_of c2 21).trans (congrArg Int32.toInt (ee44))
  have q184 : elm (S159 7) 21 = v43.toInt := (elm_of c163 21).trans (congrArg Int32.toInt (((show cpF f1 10 0 1 10 21 = f1 21 from rfl).trans (ee44))))
  have q185 : elm (S 7) 23 = v46.toInt := (elm_of c2 23).trans (congrArg Int32.toInt (ee47))
  have q186 : elm (S159 7) 23 = v46.toInt := (elm_of c163 23).trans (congrArg Int32.toInt (((show cpF f1 10 0 1 10 23 = f1 23 from rfl).trans (ee47))))
  have q187 : elm (S 7) 26 = v49.toInt := (elm_of c2 26).trans (congrArg Int32.toInt (ee50))
  have q188 : elm (S159 7) 26 = v49.toInt := (elm_of c163 26).trans (congrArg Int32.toInt (((show cpF f1 10 0 1 10 26 = f1 26 from rfl).trans (ee50))))
  have q189 : elm (S 7) 28 = v52.toInt := (elm_of c2 28).trans (congrArg Int32.toInt (ee53))
  have q190 : elm (S159 7) 28 = v52.toInt := (elm_of c163 28).trans (congrArg Int32.toInt (((show cpF f1 10 0 1 10 28 = f1 28 from rfl).trans (ee53))))
  have q191 : elm (S 7) 29 = v55.toInt := (elm_of c2 29).trans (congrArg Int32.toInt (ee56))
  have q192 : elm (S159 7) 29 = v55.toInt := (elm_of c163 29).trans (congrArg Int32.toInt (((show cpF f1 10 0 1 10 29 = f1 29 from rfl).trans (ee56))))
  have q193 : elm (S 7) 30 = v58.toInt := (elm_of c2 30).trans (congrArg Int32.toInt (ee59))
  have q194 : elm (S159 7) 30 = v58.toInt := (elm_of c163 30).trans (congrArg Int32.toInt (((show cpF f1 10 0 1 10 30 = f1 30 from rfl).trans (ee59))))
  have q195 : elm (S 7) 31 = v61.toInt := (elm_of c2 31).trans (congrArg Int32.toInt (ee62))
  have q196 : elm (S159 7) 31 = v61.toInt := (elm_of c163 31).trans (congrArg Int32.toInt (((show cpF f1 10 0 1 10 31 = f1 31 from rfl).trans (ee62))))
  have q197 : elm (S 7) 33 = v64.toInt := (elm_of c2 33).trans (congrArg Int32.toInt (ee65))
  have q198 : elm (S159 7) 33 = v64.toInt := (elm_of c163 33).trans (congrArg Int32.toInt (((show cpF f1 10 0 1 10 33 = f1 33 from rfl).trans (ee65))))
  have q199 : elm (S 7) 36 = v67.toInt := (elm_of c2 36).trans (congrArg Int32.toInt (ee68))
  have q200 : elm (S159 7) 36 = v67.toInt := (elm_of c163 36).trans (congrArg Int32.toInt (((show cpF f1 10 0 1 10 36 = f1 36 from rfl).trans (ee68))))
  have q201 : elm (S 7) 38 = v70.toInt := (elm_of c2 38).trans (congrArg Int32.toInt (ee71))
  have q202 : elm (S159 7) 38 = v70.toInt := (elm_of c163 38).trans (congrArg Int32.toInt (((show cpF f1 10 0 1 10 38 = f1 38 from rfl).trans (ee71))))
  have q203 : elm (S 7) 39 = v73.toInt := (elm_of c2 39).trans (congrArg Int32.toInt (ee74))
  have q204 : elm (S159 7) 39 = v73.toInt := (elm_of c163 39).trans (congrArg Int32.toInt (((show cpF f1 10 0 1 10 39 = f1 39 from rfl).trans (ee74))))
  have q205 : elm (S 6) 0 = v79.toInt := (elm_of c77 0).trans (congrArg Int32.toInt (ee80))
  have c206 : S159 6 = .inl (g.2 0, 5, .inl (cpF f76 1 0 1 1)) := (up_ne eS159 (by decide) (up_ne eS154 (by decide) (up_ne eS148 (by decide) (up_ne eS141 (by decide) (up_ne eS135 (by decide) (up_ne eS128 (by decide) c124))))))
  have q207 : elm (S159 6) 1 = v79.toInt := (elm_of c206 1).trans (congrArg Int32.toInt (((show cpF f76 1 0 1 1 1 = f76 0 from rfl).trans (ee80))))
  have q208 : elm (S159 6) 0 = v79.toInt := (elm_of c206 0).trans (congrArg Int32.toInt (((show cpF f76 1 0 1 1 0 = f76 0 from rfl).trans (ee80))))
  have q209 : elm (S 6) 2 = v85.toInt := (elm_of c77 2).trans (congrArg Int32.toInt (ee86))
  have q210 : elm (S159 6) 2 = v85.toInt := (elm_of c206 2).trans (congrArg Int32.toInt (((show cpF f76 1 0 1 1 2 = f76 2 from rfl).trans (ee86))))
  have q211 : elm (S 6) 3 = v88.toInt := (elm_of c77 3).trans (congrArg Int32.toInt (ee89))
  have q212 : elm (S159 6) 3 = v88.toInt := (elm_of c206 3).trans (congrArg Int32.toInt (((show cpF f76 1 0 1 1 3 = f76 3 from rfl).trans (ee89))))
  exact xrv E hr hlk hQ (⟨hI, (up_o (up_o (up_o (up_o (up_o (up_o (up_o o_refl eS123 (by decide)) eS128 (by decide)) eS135 (by decide)) eS141 (by decide)) eS148 (by decide)) eS154 (by decide)) eS159 (by decide)), ⟨by omega, by omega⟩, ⟨by omega, by omega⟩, ⟨by omega, by omega⟩, ⟨by omega, by omega⟩, ⟨by omega, by omega⟩, ⟨by omega, by omega⟩, ⟨by omega, by omega⟩, ⟨by omega, by omega⟩, ⟨by omega, by omega⟩, ⟨by omega, by omega⟩, ⟨by omega, by omega⟩, ⟨by omega, by omega⟩, ⟨by omega, by omega⟩, ⟨by omega, by omega⟩, ⟨by omega, by omega⟩, ⟨by omega, by omega⟩, ⟨by omega, by omega⟩, ⟨by omega, by omega⟩, ⟨by omega, by omega⟩, ⟨by omega, by omega⟩, ⟨by omega, by omega⟩, ⟨by omega, by omega⟩, ⟨by omega, by omega⟩, ⟨by omega, by omega⟩, ⟨by omega, by omega⟩, ⟨by omega, by omega⟩, ⟨by omega, by omega⟩, ⟨by omega, by omega⟩, (at_cpo c2 c92 c163 c160 b3.2.2.2.2.2.2.2 (by decide) hAT0), (at_cpb c2 c92 c163 c160 b3.2.2.2.2.2.2.2 hAT0), (at_cpo c2 c92 c163 c160 b3.2.2.2.2.2.2.2 (by decide) hAT2), (at_cpo c2 c92 c163 c160 b3.2.2.2.2.2.2.2 (by decide) hAT3)⟩) dX12_copyShore_76
set_option maxHeartbeats 4000000 in
set_option maxRecDepth 100000 in
theorem gX12_copyShore_0_2 (l : Launch) (g : GG) (ad : Nat → Nat) (hD : Dj ad 20) (S : SS) (hI : InvM g ad S) (hAT0 : ATp (S 7) (S 12) 0) (hAT1 : ATp (S 7) (S 12) 1) (hAT2 : ATp (S 7) (S 12) 2) (hAT3 : ATp (S 7) (S 12) 3) : Met l yX12_copyShore (wG (.code yX12_copyShore cX12_copyShore 3 none)) (Rm 1) (XPre g ad 20 S [.ref (ad 0), .int 0, .int 2]) (va_Qv (fun S' => InvM g ad S' ∧ (∀ j, j ∉ ([6, 7, 8, 9, 10, 11, 12] : List Nat) → S' j = S j) ∧ (0 ≤ elm (S 7) 0 + (-1) * elm (S' 7) 20 ∧ 0 ≤ elm (S' 7) 20 + (-1) * elm (S 7) 0) ∧ (0 ≤ elm (S 7) 1 + (-1) * elm (S' 7) 21 ∧ 0 ≤ elm (S' 7) 21 + (-1) * elm (S 7) 1) ∧ (0 ≤ elm (S 7) 3 + (-1) * elm (S' 7) 23 ∧ 0 ≤ elm (S' 7) 23 + (-1) * elm (S 7) 3) ∧ (0 ≤ elm (S 7) 6 + (-1) * elm (S' 7) 26 ∧ 0 ≤ elm (S' 7) 26 + (-1) * elm (S 7) 6) ∧ (0 ≤ elm (S 7) 8 + (-1) * elm (S' 7) 28 ∧ 0 ≤ elm (S' 7) 28 + (-1) * elm (S 7) 8) ∧ (0 ≤ elm (S 7) 9 + (-1) * elm (S' 7) 29 ∧ 0 ≤ elm (S' 7) 29 + (-1) * elm (S 7) 9) ∧ (0 ≤ elm (S 7) 0 + (-1) * elm (S' 7) 0 ∧ 0 ≤ elm (S' 7) 0 + (-1) * elm (S 7) 0) ∧ (0 ≤ elm (S 7) 1 + (-1) * elm (S' 7) 1 ∧ 0 ≤ elm (S' 7) 1 + (-1) * elm (S 7) 1) ∧ (0 ≤ elm (S 7) 3 + (-1) * elm (S' 7) 3 ∧ 0 ≤ elm (S' 7) 3 + (-1) * elm (S 7) 3) ∧ (0 ≤ elm (S 7) 6 + (-1) * elm (S' 7) 6 ∧ 0 ≤ elm (S' 7) 6 + (-1) * elm (S 7) 6) ∧ (0 ≤ elm (S 7) 8 + (-1) * elm (S' 7) 8 ∧ 0 ≤ elm (S' 7) 8 + (-1) * elm (S 7) 8) ∧ (0 ≤ elm (S 7) 9 + (-1) * elm (S' 7) 9 ∧ 0 ≤ elm (S' 7) 9 + (-1) * elm (S 7) 9) ∧ (0 ≤ elm (S 7) 10 + (-1) * elm (S' 7) 10 ∧ 0 ≤ elm (S' 7) 10 + (-1) * elm (S 7) 10) ∧ (0 ≤ elm (S 7) 11 + (-1) * elm (S' 7) 11 ∧ 0 ≤ elm (S' 7) 11 + (-1) * elm (S 7) 11) ∧ (0 ≤ elm (S 7) 13 + (-1) * elm (S' 7) 13 ∧ 0 ≤ elm (S' 7) 13 + (-1) * elm (S 7) 13) ∧ (0 ≤ elm (S 7) 16 + (-1) * elm (S' 7) 16 ∧ 0 ≤ elm (S' 7) 16 + (-1) * elm (S 7) 16) ∧ (0 ≤ elm (S 7) 18 + (-1) * elm (S' 7) 18 ∧ 0 ≤ elm (S' 7) 18 + (-1) * elm (S 7) 18) ∧ (0 ≤ elm (S 7) 19 + (-1) * elm (S' 7) 19 ∧ 0 ≤ elm (S' 7) 19 + (-1) * elm (S 7) 19) ∧ (0 ≤ elm (S 7) 30 + (-1) * elm (S' 7) 30 ∧ 0 ≤ elm (S' 7) 30 + (-1) * elm (S 7) 30) ∧ (0 ≤ elm (S 7) 31 + (-1) * elm (S' 7) 31 ∧ 0 ≤ elm (S' 7) 31 + (-1) * elm (S 7) 31) ∧ (0 ≤ elm (S 7) 33 + (-1) * elm (S' 7) 33 ∧ 0 ≤ elm (S' 7) 33 + (-1) * elm (S 7) 33) ∧ (0 ≤ elm (S 7) 36 + (-1) * elm (S' 7) 36 ∧ 0 ≤ elm (S' 7) 36 + (-1) * elm (S 7) 36) ∧ (0 ≤ elm (S 7) 38 + (-1) * elm (S' 7) 38 ∧ 0 ≤ elm (S' 7) 38 + (-1) * elm (S 7) 38) ∧ (0 ≤ elm (S 7) 39 + (-1) * elm (S' 7) 39 ∧ 0 ≤ elm (S' 7) 39 + (-1) * elm (S 7) 39) ∧ (0 ≤ elm (S 6) 0 + (-1) * elm (S' 6) 2 ∧ 0 ≤ elm (S' 6) 2 + (-1) * elm (S 6) 0) ∧ (0 ≤ elm (S 6) 0 + (-1) * elm (S' 6) 0 ∧ 0 ≤ elm (S' 6) 0 + (-1) * elm (S 6) 0) ∧ (0 ≤ elm (S 6) 1 + (-1) * elm (S' 6) 1 ∧ 0 ≤ elm (S' 6) 1 + (-1) * elm (S 6) 1) ∧ (0 ≤ elm (S 6) 3 + (-1) * elm (S' 6) 3 ∧ 0 ≤ elm (S' 6) 3 + (-1) * elm (S 6) 3) ∧ (ATp (S' 7) (S' 12) 0) ∧ (ATp (S' 7) (S' 12) 1) ∧ (ATp (S' 7) (S' 12) 2) ∧ (ATp (S' 7) (S' 12) 3)) (QB g ad 20) (FA ad 20)) 0 0 (FA ad 20) := by
  refine xmet cX12_copyShore "EbbWreckModel" (by decide) rfl (Nat.le_of_ble_eq_true rfl) (fun p e s m below meth c E hr hlk hml hQ ls hl => ?_)
  have hx := E.1
  have hb := E.2.1
  have hs : Sp ad 20 (FA ad 20) := Sp.fa hD
  have hl : lv_has ls 3 [(0, .ref (ad 0)), (1, .int 0), (2, .int 2)] := hl
  obtain ⟨f1, c2, b3⟩ := invM_7 hI
  obtain ⟨v4, ee5⟩ : ∃ z : Int32, f1 0 = z := ⟨_, rfl⟩
  have b6 : Bd v4 (0) (12) := (by rw [← ee5]; exact b3.1 0 (by decide))
  obtain ⟨v7, ee8⟩ : ∃ z : Int32, f1 20 = z := ⟨_, rfl⟩
  have b9 : Bd v7 (0) (12) := (by rw [← ee8]; exact b3.1 20 (by decide))
  obtain ⟨v10, ee11⟩ : ∃ z : Int32, f1 1 = z := ⟨_, rfl⟩
  have b12 : Bd v10 (0) (12) := (by rw [← ee11]; exact b3.2.1 1 (by decide))
  obtain ⟨v13, ee14⟩ : ∃ z : Int32, f1 21 = z := ⟨_, rfl⟩
  have b15 : Bd v13 (0) (12) := (by rw [← ee14]; exact b3.2.1 21 (by decide))
  obtain ⟨v16, ee17⟩ : ∃ z : Int32, f1 3 = z := ⟨_, rfl⟩
  have b18 : Bd v16 (0) (12) := (by rw [← ee17]; exact b3.2.2.2.1 3 (by decide))
  obtain ⟨v19, ee20⟩ : ∃ z : Int32, f1 23 = z := ⟨_, rfl⟩
  have b21 : Bd v19 (0) (12) := (by rw [← ee20]; exact b3.2.2.2.1 23 (by decide))
  obtain ⟨v22, ee23⟩ : ∃ z : Int32, f1 6 = z := ⟨_, rfl⟩
  have b24 : Bd v22 (0) (8) := (by rw [← ee23]; exact b3.2.2.2.2.1 6 (by decide))
  obtain ⟨v25, ee26⟩ : ∃ z : Int32, f1 26 = z := ⟨_, rfl⟩
  have b27 : Bd v25 (0) (8) := (by rw [← ee26]; exact b3.2.2.2.2.1 26 (by decide))
  obtain ⟨v28, ee29⟩ : ∃ z : Int32, f1 8 = z := ⟨_, rfl⟩
  have b30 : Bd v28 (0) (3) := (by rw [← ee29]; exact b3.2.2.2.2.2.2.1 8 (by decide))
  obtain ⟨v31, ee32⟩ : ∃ z : Int32, f1 28 = z := ⟨_, rfl⟩
  have b33 : Bd v31 (0) (3) := (by rw [← ee32]; exact b3.2.2.2.2.2.2.1 28 (by decide))
  obtain ⟨v34, ee35⟩ : ∃ z : Int32, f1 9 = z := ⟨_, rfl⟩
  have b36 : Bd v34 (0) (40) := (by rw [← ee35]; exact b3.2.2.2.2.2.2.2 9 (by decide))
  obtain ⟨v37, ee38⟩ : ∃ z : Int32, f1 29 = z := ⟨_, rfl⟩
  have b39 : Bd v37 (0) (40) := (by rw [← ee38]; exact b3.2.2.2.2.2.2.2 29 (by decide))
  obtain ⟨v40, ee41⟩ : ∃ z : Int32, f1 10 = z := ⟨_, rfl⟩
  have b42 : Bd v40 (0) (12) := (by rw [← ee41]; exact b3.1 10 (by decide))
  obtain ⟨v43, ee44⟩ : ∃ z : Int32, f1 11 = z := ⟨_, rfl⟩
  have b45 : Bd v43 (0) (12) := (by rw [← ee44]; exact b3.2.1 11 (by decide))
  obtain ⟨v46, ee47⟩ : ∃ z : Int32, f1 13 = z := ⟨_, rfl⟩
  have b48 : Bd v46 (0) (12) := (by rw [← ee47]; exact b3.2.2.2.1 13 (by decide))
  obtain ⟨v49, ee50⟩ : ∃ z : Int32, f1 16 = z := ⟨_, rfl⟩
  have b51 : Bd v49 (0) (8) := (by rw [← ee50]; exact b3.2.2.2.2.1 16 (by decide))
  obtain ⟨v52, ee53⟩ : ∃ z : Int32, f1 18 = z := ⟨_, rfl⟩
  have b54 : Bd v52 (0) (3) := (by rw [← ee53]; exact b3.2.2.2.2.2.2.1 18 (by decide))
  obtain ⟨v55, ee56⟩ : ∃ z : Int32, f1 19 = z := ⟨_, rfl⟩
  have b57 : Bd v55 (0) (40) := (by rw [← ee56]; exact b3.2.2.2.2.2.2.2 19 (by decide))
  obtain ⟨v58, ee59⟩ : ∃ z : Int32, f1 30 = z := ⟨_, rfl⟩
  have b60 : Bd v58 (0) (12) := (by rw [← ee59]; exact b3.1 30 (by decide))
  obtain ⟨v61, ee62⟩ : ∃ z : Int32, f1 31 = z := ⟨_, rfl⟩
  have b63 : Bd v61 (0) (12) := (by rw [← ee62]; exact b3.2.1 31 (by decide))
  obtain ⟨v64, ee65⟩ : ∃ z : Int32, f1 33 = z := ⟨_, rfl⟩
  have b66 : Bd v64 (0) (12) := (by rw [← ee65]; exact b3.2.2.2.1 33 (by decide))
  obtain ⟨v67, ee68⟩ : ∃ z : Int32, f1 36 = z := ⟨_, rfl⟩
  have b69 : Bd v67 (0) (8) := (by rw [← ee68]; exact b3.2.2.2.2.1 36 (by decide))
  obtain ⟨v70, ee71⟩ : ∃ z : Int32, f1 38 = z := ⟨_, rfl⟩
  have b72 : Bd v70 (0) (3) := (by rw [← ee71]; exact b3.2.2.2.2.2.2.1 38 (by decide))
  obtain ⟨v73, ee74⟩ : ∃ z : Int32, f1 39 = z := ⟨_, rfl⟩
  have b75 : Bd v73 (0) (40) := (by rw [← ee74]; exact b3.2.2.2.2.2.2.2 39 (by decide))
  obtain ⟨f76, c77, b78⟩ := invM_6 hI
  obtain ⟨v79, ee80⟩ : ∃ z : Int32, f76 0 = z := ⟨_, rfl⟩
  have b81 : Bd v79 (0) (40000) := (by rw [← ee80]; exact b78 0)
  obtain ⟨v82, ee83⟩ : ∃ z : Int32, f76 2 = z := ⟨_, rfl⟩
  have b84 : Bd v82 (0) (40000) := (by rw [← ee83]; exact b78 2)
  obtain ⟨v85, ee86⟩ : ∃ z : Int32, f76 1 = z := ⟨_, rfl⟩
  have b87 : Bd v85 (0) (40000) := (by rw [← ee86]; exact b78 1)
  obtain ⟨v88, ee89⟩ : ∃ z : Int32, f76 3 = z := ⟨_, rfl⟩
  have b90 : Bd v88 (0) (40000) := (by rw [← ee89]; exact b78 3)
  obtain ⟨f91, c92, b93⟩ := invM_12 hI
  refine lv_aload_n hx hb dX12_copyShore_0 rfl (lv_at hl 0 rfl) ?_
  obtain ⟨v94, v95, v97, v99, v101, v102, w103, v104, v106, v107, v108, v109, v111, v113, v115, v117, v119, v120, v121, c122, b96, b98, b100, b105, b110, b112, b114, b116, b118⟩ := invM_0 hI
  have c122 : S 0 = .inr (12, [.int v94, .ref (ad 1), .ref (ad 2), .ref (ad 3), .ref (ad 4), .ref (ad 5), .int v95, .int v97, .int v99, .int v101, .int v102, .long w103, .int v104, .int v106, .int v107, .int v108, .ref (ad 6), .ref (ad 7), .ref (ad 8), .ref (ad 9), .ref (ad 10), .ref (ad 11), .ref (ad 12), .ref (ad 13), .ref (ad 14), .ref (ad 15), .int v109, .int v111, .ref (ad 16), .int v113, .int v115, .int v117, .int v119, .int v120, .ref (ad 17), .ref (ad 18), .int v121, .ref (ad 19)]) := c122
  refine xget E hQ 0 (by decide) c122 rfl 16 (by decide) q1484 rfl dX12_copyShore_1 ?_
  refine lv_iconst (v := 1) hx hb dX12_copyShore_4 (by decide) ?_
  refine lv_iload_n hx hb dX12_copyShore_5 rfl (lv_at hl 1 rfl) ?_
  refine lv_iload_n hx hb dX12_copyShore_6 rfl (lv_at hl 2 rfl) ?_
  refine xcSv E hs hQ hml hl.1 (uCopyRow l g ad 20 hD S 6 (by decide) 5 (by decide) f76 1 0 2 (by decide) (by decide) (by decide) c77) mX12_copyRow q1743 rfl ⟨(Nat.le_of_ble_eq_true rfl), (Nat.le_of_ble_eq_true rfl)⟩ ⟨(Nat.le_of_ble_eq_true rfl), (Nat.le_of_ble_eq_true rfl)⟩ (Nat.le_of_ble_eq_true rfl) rfl dX12_copyShore_7 (fun S123 H locs eS123 hQ => ?_)
  have hI := invM_up_6 hI eS123 ⟨_, rfl, cp_b b78⟩
  have b125 : ∀ j, Bd ((cpF f76 1 0 2 1) j) (0) (40000) := cp_b b78
  have c124 : S123 6 = .inl (g.2 0, 5, .inl (cpF f76 1 0 2 1)) := up_at eS123 rfl
  refine lv_aload_n hx hb dX12_copyShore_10 rfl (lv_at hl 0 rfl) ?_
  have c126 : S123 0 = .inr (12, [.int v94, .ref (ad 1), .ref (ad 2), .ref (ad 3), .ref (ad 4), .ref (ad 5), .int v95, .int v97, .int v99, .int v101, .int v102, .long w103, .int v104, .int v106, .int v107, .int v108, .ref (ad 6), .ref (ad 7), .ref (ad 8), .ref (ad 9), .ref (ad 10), .ref (ad 11), .ref (ad 12), .ref (ad 13), .ref (ad 14), .ref (ad 15), .int v109, .int v111, .ref (ad 16), .int v113, .int v115, .int v117, .int v119, .int v120, .ref (ad 17), .ref (ad 18), .int v121, .ref (ad 19)]) := (up_ne eS123 (by decide) c122)
  refine xget E hQ 0 (by decide) c126 rfl 17 (by decide) q1485 rfl dX12_copyShore_11 ?_
  refine lv_bipush (v := 10) hx hb dX12_copyShore_14 (by decide) ?_
  refine lv_iload_n hx hb dX12_copyShore_16 rfl (lv_at hl 1 rfl) ?_
  refine lv_iload_n hx hb dX12_copyShore_17 rfl (lv_at hl 2 rfl) ?_
  have c127 : S123 7 = .inl (g.2 0, 50, .inl f1) := (up_ne eS123 (by decide) c2)
  refine xcSv E hs hQ hml hl.1 (uCopyRow l g ad 20 hD S123 7 (by decide) 50 (by decide) f1 10 0 2 (by decide) (by decide) (by decide) c127) mX12_copyRow q1743 rfl ⟨(Nat.le_of_ble_eq_true rfl), (Nat.le_of_ble_eq_true rfl)⟩ ⟨(Nat.le_of_ble_eq_true rfl), (Nat.le_of_ble_eq_true rfl)⟩ (Nat.le_of_ble_eq_true rfl) rfl dX12_copyShore_18 (fun S128 H locs eS128 hQ => ?_)
  have hI := invM_up_7 hI eS128 ⟨_, rfl, ⟨cp_m (q := 1) b3.1 (by decide), cp_m (q := 1) b3.2.1 (by decide), cp_m (q := 1) b3.2.2.1 (by decide), cp_m (q := 1) b3.2.2.2.1 (by decide), cp_m (q := 1) b3.2.2.2.2.1 (by decide), cp_m (q := 1) b3.2.2.2.2.2.1 (by decide), cp_m (q := 1) b3.2.2.2.2.2.2.1 (by decide), cp_m (q := 1) b3.2.2.2.2.2.2.2 (by decide)⟩⟩
  have b130 : (∀ j, j % 10 = 0 → Bd ((cpF f1 10 0 2 10) j) (0) (12)) ∧ (∀ j, j % 10 = 1 → Bd ((cpF f1 10 0 2 10) j) (0) (12)) ∧ (∀ j, j % 10 = 2 → Bd ((cpF f1 10 0 2 10) j) (0) (6)) ∧ (∀ j, j % 10 = 3 → Bd ((cpF f1 10 0 2 10) j) (0) (12)) ∧ (∀ j, j % 10 = 6 → Bd ((cpF f1 10 0 2 10) j) (0) (8)) ∧ (∀ j, j % 10 = 7 → Bd ((cpF f1 10 0 2 10) j) (0) (6)) ∧ (∀ j, j % 10 = 8 → Bd ((cpF f1 10 0 2 10) j) (0) (3)) ∧ (∀ j, j % 10 = 9 → Bd ((cpF f1 10 0 2 10) j) (0) (40)) := ⟨cp_m (q := 1) b3.1 (by decide), cp_m (q := 1) b3.2.1 (by decide), cp_m (q := 1) b3.2.2.1 (by decide), cp_m (q := 1) b3.2.2.2.1 (by decide), cp_m (q := 1) b3.2.2.2.2.1 (by decide), cp_m (q := 1) b3.2.2.2.2.2.1 (by decide), cp_m (q := 1) b3.2.2.2.2.2.2.1 (by decide), cp_m (q := 1) b3.2.2.2.2.2.2.2 (by decide)⟩
  have c129 : S128 7 = .inl (g.2 0, 50, .inl (cpF f1 10 0 2 10)) := up_at eS128 rfl
  refine lv_aload_n hx hb dX12_copyShore_21 rfl (lv_at hl 0 rfl) ?_
  have c131 : S128 0 = .inr (12, [.int v94, .ref (ad 1), .ref (ad 2), .ref (ad 3), .ref (ad 4), .ref (ad 5), .int v95, .int v97, .int v99, .int v101, .int v102, .long w103, .int v104, .int v106, .int v107, .int v108, .ref (ad 6), .ref (ad 7), .ref (ad 8), .ref (ad 9), .ref (ad 10), .ref (ad 11), .ref (ad 12), .ref (ad 13), .ref (ad 14), .ref (ad 15), .int v109, .int v111, .ref (ad 16), .int v113, .int v115, .int v117, .int v119, .int v120, .ref (ad 17), .ref (ad 18), .int v121, .ref (ad 19)]) := (up_ne eS128 (by decide) c126)
  refine xget E hQ 0 (by decide) c131 rfl 18 (by decide) q1486 rfl dX12_copyShore_22 ?_
  refine lv_bipush (v := 24) hx hb dX12_copyShore_25 (by decide) ?_
  refine lv_iload_n hx hb dX12_copyShore_27 rfl (lv_at hl 1 rfl) ?_
  refine lv_iload_n hx hb dX12_copyShore_28 rfl (lv_at hl 2 rfl) ?_
  obtain ⟨f132, c133⟩ := invM_8 hI
  refine xcSv E hs hQ hml hl.1 (uCopyRow l g ad 20 hD S128 8 (by decide) 120 (by decide) f132 24 0 2 (by decide) (by decide) (by decide) c133) mX12_copyRow q1743 rfl ⟨(Nat.le_of_ble_eq_true rfl), (Nat.le_of_ble_eq_true rfl)⟩ ⟨(Nat.le_of_ble_eq_true rfl), (Nat.le_of_ble_eq_true rfl)⟩ (Nat.le_of_ble_eq_true rfl) rfl dX12_copyShore_29 (fun S135 H locs eS135 hQ => ?_)
  have hI := invM_up_8 hI eS135 ⟨_, rfl⟩
  have c136 : S135 8 = .inl (g.2 0, 120, .inl (cpF f132 24 0 2 24)) := up_at eS135 rfl
  refine lv_aload_n hx hb dX12_copyShore_32 rfl (lv_at hl 0 rfl) ?_
  have c137 : S135 0 = .inr (12, [.int v94, .ref (ad 1), .ref (ad 2), .ref (ad 3), .ref (ad 4), .ref (ad 5), .int v95, .int v97, .int v99, .int v101, .int v102, .long w103, .int v104, .int v106, .int v107, .int v108, .ref (ad 6), .ref (ad 7), .ref (ad 8), .ref (ad 9), .ref (ad 10), .ref (ad 11), .ref (ad 12), .ref (ad 13), .ref (ad 14), .ref (ad 15), .int v109, .int v111, .ref (ad 16), .int v113, .int v115, .int v117, .int v119, .int v120, .ref (ad 17), .ref (ad 18), .int v121, .ref (ad 19)]) := (up_ne eS135 (by decide) c131)
  refine xget E hQ 0 (by decide) c137 rfl 19 (by decide) q1487 rfl dX12_copyShore_33 ?_
  refine lv_bipush (v := 24) hx hb dX12_copyShore_36 (by decide) ?_
  refine lv_iload_n hx hb dX12_copyShore_38 rfl (lv_at hl 1 rfl) ?_
  refine lv_iload_n hx hb dX12_copyShore_39 rfl (lv_at hl 2 rfl) ?_
  obtain ⟨f138, c139, b140⟩ := invM_9 hI
  refine xcSv E hs hQ hml hl.1 (uCopyRow l g ad 20 hD S135 9 (by decide) 120 (by decide) f138 24 0 2 (by decide) (by decide) (by decide) c139) mX12_copyRow q1743 rfl ⟨(Nat.le_of_ble_eq_true rfl), (Nat.le_of_ble_eq_true rfl)⟩ ⟨(Nat.le_of_ble_eq_true rfl), (Nat.le_of_ble_eq_true rfl)⟩ (Nat.le_of_ble_eq_true rfl) rfl dX12_copyShore_40 (fun S141 H locs eS141 hQ => ?_)
  have hI := invM_up_9 hI eS141 ⟨_, rfl, ⟨cp_m (q := 8) b140.1 (by decide), cp_m (q := 8) b140.2 (by decide)⟩⟩
  have b143 : (∀ j, j % 3 = 1 → Bd ((cpF f138 24 0 2 24) j) (0) (11)) ∧ (∀ j, j % 3 = 2 → Bd ((cpF f138 24 0 2 24) j) (0) (99)) := ⟨cp_m (q := 8) b140.1 (by decide), cp_m (q := 8) b140.2 (by decide)⟩
  have c142 : S141 9 = .inl (g.2 0, 120, .inl (cpF f138 24 0 2 24)) := up_at eS141 rfl
  refine lv_aload_n hx hb dX12_copyShore_43 rfl (lv_at hl 0 rfl) ?_
  have c144 : S141 0 = .inr (12, [.int v94, .ref (ad 1), .ref (ad 2), .ref (ad 3), .ref (ad 4), .ref (ad 5), .int v95, .int v97, .int v99, .int v101, .int v102, .long w103, .int v104, .int v106, .int v107, .int v108, .ref (ad 6), .ref (ad 7), .ref (ad 8), .ref (ad 9), .ref (ad 10), .ref (ad 11), .ref (ad 12), .ref (ad 13), .ref (ad 14), .ref (ad 15), .int v109, .int v111, .ref (ad 16), .int v113, .int v115, .int v117, .int v119, .int v120, .ref (ad 17), .ref (ad 18), .int v121, .ref (ad 19)]) := (up_ne eS141 (by decide) c137)
  refine xget E hQ 0 (by decide) c144 rfl 20 (by decide) q1488 rfl dX12_copyShore_44 ?_
  refine lv_bipush (v := 24) hx hb dX12_copyShore_47 (by decide) ?_
  refine lv_iload_n hx hb dX12_copyShore_49 rfl (lv_at hl 1 rfl) ?_
  refine lv_iload_n hx hb dX12_copyShore_50 rfl (lv_at hl 2 rfl) ?_
  obtain ⟨f145, c146⟩ := invM_10 hI
  refine xcSv E hs hQ hml hl.1 (uCopyRow l g ad 20 hD S141 10 (by decide) 120 (by decide) f145 24 0 2 (by decide) (by decide) (by decide) c146) mX12_copyRow q1743 rfl ⟨(Nat.le_of_ble_eq_true rfl), (Nat.le_of_ble_eq_true rfl)⟩ ⟨(Nat.le_of_ble_eq_true rfl), (Nat.le_of_ble_eq_true rfl)⟩ (Nat.le_of_ble_eq_true rfl) rfl dX12_copyShore_51 (fun S148 H locs eS148 hQ => ?_)
  have hI := invM_up_10 hI eS148 ⟨_, rfl⟩
  have c149 : S148 10 = .inl (g.2 0, 120, .inl (cpF f145 24 0 2 24)) := up_at eS148 rfl
  refine lv_aload_n hx hb dX12_copyShore_54 rfl (lv_at hl 0 rfl) ?_
  have c150 : S148 0 = .inr (12, [.int v94, .ref (ad 1), .ref (ad 2), .ref (ad 3), .ref (ad 4), .ref (ad 5), .int v95, .int v97, .int v99, .int v101, .int v102, .long w103, .int v104, .int v106, .int v107, .int v108, .ref (ad 6), .ref (ad 7), .ref (ad 8), .ref (ad 9), .ref (ad 10), .ref (ad 11), .ref (ad 12), .ref (ad 13), .ref (ad 14), .ref (ad 15), .int v109, .int v111, .ref (ad 16), .int v113, .int v115, .int v117, .int v119, .int v120, .ref (ad 17), .ref (ad 18), .int v121, .ref (ad 19)]) := (up_ne eS148 (by decide) c144)
  refine xget E hQ 0 (by decide) c150 rfl 21 (by decide) q1489 rfl dX12_copyShore_55 ?_
  refine lv_iconst (v := 3) hx hb dX12_copyShore_58 (by decide) ?_
  refine lv_iload_n hx hb dX12_copyShore_59 rfl (lv_at hl 1 rfl) ?_
  refine lv_iload_n hx hb dX12_copyShore_60 rfl (lv_at hl 2 rfl) ?_
  obtain ⟨f151, c152, b153⟩ := invM_11 hI
  refine xcSv E hs hQ hml hl.1 (uCopyRow l g ad 20 hD S148 11 (by decide) 15 (by decide) f151 3 0 2 (by decide) (by decide) (by decide) c152) mX12_copyRow q1743 rfl ⟨(Nat.le_of_ble_eq_true rfl), (Nat.le_of_ble_eq_true rfl)⟩ ⟨(Nat.le_of_ble_eq_true rfl), (Nat.le_of_ble_eq_true rfl)⟩ (Nat.le_of_ble_eq_true rfl) rfl dX12_copyShore_61 (fun S154 H locs eS154 hQ => ?_)
  have hI := invM_up_11 hI eS154 ⟨_, rfl, cp_b b153⟩
  have b156 : ∀ j, Bd ((cpF f151 3 0 2 3) j) (0) (11) := cp_b b153
  have c155 : S154 11 = .inl (g.2 0, 15, .inl (cpF f151 3 0 2 3)) := up_at eS154 rfl
  refine lv_aload_n hx hb dX12_copyShore_64 rfl (lv_at hl 0 rfl) ?_
  have c157 : S154 0 = .inr (12, [.int v94, .ref (ad 1), .ref (ad 2), .ref (ad 3), .ref (ad 4), .ref (ad 5), .int v95, .int v97, .int v99, .int v101, .int v102, .long w103, .int v104, .int v106, .int v107, .int v108, .ref (ad 6), .ref (ad 7), .ref (ad 8), .ref (ad 9), .ref (ad 10), .ref (ad 11), .ref (ad 12), .ref (ad 13), .ref (ad 14), .ref (ad 15), .int v109, .int v111, .ref (ad 16), .int v113, .int v115, .int v117, .int v119, .int v120, .ref (ad 17), .ref (ad 18), .int v121, .ref (ad 19)]) := (up_ne eS154 (by decide) c150)
  refine xget E hQ 0 (by decide) c157 rfl 22 (by decide) q1490 rfl dX12_copyShore_65 ?_
  refine lv_sipush (v := 160) hx hb dX12_copyShore_68 (by decide) ?_
  refine lv_iload_n hx hb dX12_copyShore_71 rfl (lv_at hl 1 rfl) ?_
  refine lv_iload_n hx hb dX12_copyShore_72 rfl (lv_at hl 2 rfl) ?_
  have c158 : S154 12 = .inl (g.2 0, 800, .inl f91) := (up_ne eS154 (by decide) (up_ne eS148 (by decide) (up_ne eS141 (by decide) (up_ne eS135 (by decide) (up_ne eS128 (by decide) (up_ne eS123 (by decide) c92))))))
  refine xcSv E hs hQ hml hl.1 (uCopyRow l g ad 20 hD S154 12 (by decide) 800 (by decide) f91 160 0 2 (by decide) (by decide) (by decide) c158) mX12_copyRow q1743 rfl ⟨(Nat.le_of_ble_eq_true rfl), (Nat.le_of_ble_eq_true rfl)⟩ ⟨(Nat.le_of_ble_eq_true rfl), (Nat.le_of_ble_eq_true rfl)⟩ (Nat.le_of_ble_eq_true rfl) rfl dX12_copyShore_73 (fun S159 H locs eS159 hQ => ?_)
  have hI := invM_up_12 hI eS159 ⟨_, rfl, ⟨cp_m (q := 40) b93.1 (by decide), cp_m (q := 40) b93.2 (by decide)⟩⟩
  have b161 : (∀ j, j % 4 = 1 → Bd ((cpF f91 160 0 2 160) j) (0) (7)) ∧ (∀ j, j % 4 = 2 → Bd ((cpF f91 160 0 2 160) j) (0) (400)) := ⟨cp_m (q := 40) b93.1 (by decide), cp_m (q := 40) b93.2 (by decide)⟩
  have c160 : S159 12 = .inl (g.2 0, 800, .inl (cpF f91 160 0 2 160)) := up_at eS159 rfl
  have q162 : elm (S 7) 0 = v4.toInt := (elm_of c2 0).trans (congrArg Int32.toInt (ee5))
  have c163 : S159 7 = .inl (g.2 0, 50, .inl (cpF f1 10 0 2 10)) := (up_ne eS159 (by decide) (up_ne eS154 (by decide) (up_ne eS148 (by decide) (up_ne eS141 (by decide) (up_ne eS135 (by decide) c129)))))
  have q164 : elm (S159 7) 20 = v4.toInt := (elm_of c163 20).trans (congrArg Int32.toInt (((show cpF f1 10 0 2 10 20 = f1 0 from rfl).trans (ee5))))
  have q165 : elm (S 7) 1 = v10.toInt := (elm_of c2 1).trans (congrArg Int32.toInt (ee11))
  have q166 : elm (S159 7) 21 = v10.toInt := (elm_of c163 21).trans (congrArg Int32.toInt (((show cpF f1 10 0 2 10 21 = f1 1 from rfl).trans (ee11))))
  have q167 : elm (S 7) 3 = v16.toInt := (elm_of c2 3).trans (congrArg Int32.toInt (ee17))
  have q168 : elm (S159 7) 23 = v16.toInt := (elm_of c163 23).trans (congrArg Int32.toInt (((show cpF f1 10 0 2 10 23 = f1 3 from rfl).trans (ee17))))
  have q169 : elm (S 7) 6 = v22.toInt := (elm_of c2 6).trans (congrArg Int32.toInt (ee23))
  have q170 : elm (S159 7) 26 = v22.toInt := (elm_of c163 26).trans (congrArg Int32.toInt (((show cpF f1 10 0 2 10 26 = f1 6 from rfl).trans (ee23))))
  have q171 : elm (S 7) 8 = v28.toInt := (elm_of c2 8).trans (congrArg Int32.toInt (ee29))
  have q172 : elm (S159 7) 28 = v28.toInt := (elm_of c163 28).trans (congrArg Int32.toInt (((show cpF f1 10 0 2 10 28 = f1 8 from rfl).trans (ee29))))
  have q173 : elm (S 7) 9 = v34.toInt := (elm_of c2 9).trans (congrArg Int32.toInt (ee35))
  have q174 : elm (S159 7) 29 = v34.toInt := (elm_of c163 29).trans (congrArg Int32.toInt (((show cpF f1 10 0 2 10 29 = f1 9 from rfl).trans (ee35))))
  have q175 : elm (S159 7) 0 = v4.toInt := (elm_of c163 0).trans (congrArg Int32.toInt (((show cpF f1 10 0 2 10 0 = f1 0 from rfl).trans (ee5))))
  have q176 : elm (S159 7) 1 = v10.toInt := (elm_of c163 1).trans (congrArg Int32.toInt (((show cpF f1 10 0 2 10 1 = f1 1 from rfl).trans (ee11))))
  have q177 : elm (S159 7) 3 = v16.toInt := (elm_of c163 3).trans (congrArg Int32.toInt (((show cpF f1 10 0 2 10 3 = f1 3 from rfl).trans (ee17))))
  have q178 : elm (S159 7) 6 = v22.toInt := (elm_of c163 6).trans (congrArg Int32.toInt (((show cpF f1 10 0 2 10 6 = f1 6 from rfl).trans (ee23))))
  have q179 : elm (S159 7) 8 = v28.toInt := (elm_of c163 8).trans (congrArg Int32.toInt (((show cpF f1 10 0 2 10 8 = f1 8 from rfl).trans (ee29))))
  have q180 : elm (S159 7) 9 = v34.toInt := (elm_of c163 9).trans (congrArg Int32.toInt (((show cpF f1 10 0 2 10 9 = f1 9 from rfl).trans (ee35))))
  have q181 : elm (S 7) 10 = v40.toInt := (elm_of c2 10).trans (congrArg Int32.toInt (ee41))
  have q182 : elm (S159 7) 10 = v40.toInt := (elm_of c163 10).trans (congrArg Int32.toInt (((show cpF f1 10 0 2 10 10 = f1 10 from rfl).trans (ee41))))
  have q183 : elm (S 7) 11 = v43.toInt := (elm_of c2 11).trans (congrArg Int32.toInt (ee44))
  have q184 : elm (S159 7) 11 = v43.toInt := (elm_of c163 11).trans (congrArg Int32.toInt (((show cpF f1 10 0 2 10 11 = f1 11 from rfl).trans (ee44))))
  have q185 : elm (S 7) 13 = v46.toInt := (elm_of c2 13).trans (congrArg Int32.toInt (ee47))
  have q186 : elm (S159 7) 13 = v46.toInt := (elm_of c163 13).trans (congrArg Int32.toInt (((show cpF f1 10 0 2 10 13 = f1 13 from rfl).trans (ee47))))
  have q187 : elm (S 7) 16 = v49.toInt := (elm_of c2 16).trans (congrArg Int32.toInt (ee50))
  have q188 : elm (S159 7) 16 = v49.toInt := (elm_of c163 16).trans (congrArg Int32.toInt (((show cpF f1 10 0 2 10 16 = f1 16 from rfl).trans (ee50))))
  have q189 : elm (S 7) 18 = v52.toInt := (elm_of c2 18).trans (congrArg Int32.toInt (ee53))
  have q190 : elm (S159 7) 18 = v52.toInt := (elm_of c163 18).trans (congrArg Int32.toInt (((show cpF f1 10 0 2 10 18 = f1 18 from rfl).trans (ee53))))
  have q191 : elm (S 7) 19 = v55.toInt := (elm_of c2 19).trans (congrArg Int32.toInt (ee56))
  have q192 : elm (S159 7) 19 = v55.toInt := (elm_of c163 19).trans (congrArg Int32.toInt (((show cpF f1 10 0 2 10 19 = f1 19 from rfl).trans (ee56))))
  have q193 : elm (S 7) 30 = v58.toInt := (elm_of c2 30).trans (congrArg Int32.toInt (ee59))
  have q194 : elm (S159 7) 30 = v58.toInt := (elm_of c163 30).trans (congrArg Int32.toInt (((show cpF f1 10 0 2 10 30 = f1 30 from rfl).trans (ee59))))
  have q195 : elm (S 7) 31 = v61.toInt := (elm_of c2 31).trans (congrArg Int32.toInt (ee62))
  have q196 : elm (S159 7) 31 = v61.toInt := (elm_of c163 31).trans (congrArg Int32.toInt (((show cpF f1 10 0 2 10 31 = f1 31 from rfl).trans (ee62))))
  have q197 : elm (S 7) 33 = v64.toInt := (elm_of c2 33).trans (congrArg Int32.toInt (ee65))
  have q198 : elm (S159 7) 33 = v64.toInt := (elm_of c163 33).trans (congrArg Int32.toInt (((show cpF f1 10 0 2 10 33 = f1 33 from rfl).trans (ee65))))
  have q199 : elm (S 7) 36 = v67.toInt := (elm_of c2 36).trans (congrArg Int32.toInt (ee68))
  have q200 : elm (S159 7) 36 = v67.toInt := (elm_of c163 36).trans (congrArg Int32.toInt (((show cpF f1 10 0 2 10 36 = f1 36 from rfl).trans (ee68))))
  have q201 : elm (S 7) 38 = v70.toInt := (elm_of c2 38).trans (congrArg Int32.toInt (ee71))
  have q202 : elm (S159 7) 38 = v70.toInt := (elm_of c163 38).trans (congrArg Int32.toInt (((show cpF f1 10 0 2 10 38 = f1 38 from rfl).trans (ee71))))
  have q203 : elm (S 7) 39 = v73.toInt := (elm_of c2 39).trans (congrArg Int32.toInt (ee74))
  have q204 : elm (S159 7) 39 = v73.toInt := (elm_of c163 39).trans (congrArg Int32.toInt (((show cpF f1 10 0 2 10 39 = f1 39 from rfl).trans (ee74))))
  have q205 : elm (S 6) 0 = v79.toInt := (elm_of c77 0).trans (congrArg Int32.toInt (ee80))
  have c206 : S159 6 = .inl (g.2 0, 5, .inl (cpF f76 1 0 2 1)) := (up_ne eS159 (by decide) (up_ne eS154 (by decide) (up_ne eS148 (by decide) (up_ne eS141 (by decide) (up_ne eS135 (by decide) (up_ne eS128 (by decide) c124))))))
  have q207 : elm (S159 6) 2 = v79.toInt := (elm_of c206 2).trans (congrArg Int32.toInt (((show cpF f76 1 0 2 1 2 = f76 0 from rfl).trans (ee80))))
  have q208 : elm (S159 6) 0 = v79.toInt := (elm_of c206 0).trans (congrArg Int32.toInt (((show cpF f76 1 0 2 1 0 = f76 0 from rfl).trans (ee80))))
  have q209 : elm (S 6) 1 = v85.toInt := (elm_of c77 1).trans (congrArg Int32.toInt (ee86))
  have q210 : elm (S159 6) 1 = v85.toInt := (elm_of c206 1).trans (congrArg Int32.toInt (((show cpF f76 1 0 2 1 1 = f76 1 from rfl).trans (ee86))))
  have q211 : elm (S 6) 3 = v88.toInt := (elm_of c77 3).trans (congrArg Int32.toInt (ee89))
  have q212 : elm (S159 6) 3 = v88.toInt := (elm_of c206 3).trans (congrArg Int32.toInt (((show cpF f76 1 0 2 1 3 = f76 3 from rfl).trans (ee89))))
  exact xrv E hr hlk hQ (⟨hI, (up_o (up_o (up_o (up_o (up_o (up_o (up_o o_refl eS123 (by decide)) eS128 (by decide)) eS135 (by decide)) eS141 (by decide)) eS148 (by decide)) eS154 (by decide)) eS159 (by decide)), ⟨by omega, by omega⟩, ⟨by omega, by omega⟩, ⟨by omega, by omega⟩, ⟨by omega, by omega⟩, ⟨by omega, by omega⟩, ⟨by omega, by omega⟩, ⟨by omega, by omega⟩, ⟨by omega, by omega⟩, ⟨by omega, by omega⟩, ⟨by omega, by omega⟩, ⟨by omega, by omega⟩, ⟨by omega, by omega⟩, ⟨by omega, by omega⟩, ⟨by omega, by omega⟩, ⟨by omega, by omega⟩, ⟨by omega, by omega⟩, ⟨by omega, by omega⟩, ⟨by omega, by omega⟩, ⟨by omega, by omega⟩, ⟨by omega, by omega⟩, ⟨by omega, by omega⟩, ⟨by omega, by omega⟩, ⟨by omega, by omega⟩, ⟨by omega, by omega⟩, ⟨by omega, by omega⟩, ⟨by omega, by omega⟩, ⟨by omega, by omega⟩, ⟨by omega, by omega⟩, (at_cpo c2 c92 c163 c160 b3.2.2.2.2.2.2.2 (by decide) hAT0), (at_cpo c2 c92 c163 c160 b3.2.2.2.2.2.2.2 (by decide) hAT1), (at_cpb c2 c92 c163 c160 b3.2.2.2.2.2.2.2 hAT0), (at_cpo c2 c92 c163 c160 b3.2.2.2.2.2.2.2 (by decide) hAT3)⟩) dX12_copyShore_76
set_option maxHeartbeats 4000000 in
set_option maxRecDepth 100000 in
theorem gX12_copyShore_0_3 (l : Launch) (g : GG) (ad : Nat → Nat) (hD : Dj ad 20) (S : SS) (hI : InvM g ad S) (hAT0 : ATp (S 7) (S 12) 0) (hAT1 : ATp (S 7) (S 12) 1) (hAT2 : ATp (S 7) (S 12) 2) (hAT3 : ATp (S 7) (S 12) 3) : Met l yX12_copyShore (wG (.code yX12_copyShore cX12_copyShore 3 none)) (Rm 1) (XPre g ad 20 S [.ref (ad 0), .int 0, .int 3]) (va_Qv (fun S' => InvM g ad S' ∧ (∀ j, j ∉ ([6, 7, 8, 9, 10, 11, 12] : List Nat) → S' j = S j) ∧ (0 ≤ elm (S 7) 0 + (-1) * elm (S' 7) 30 ∧ 0 ≤ elm (S' 7) 30 + (-1) * elm (S 7) 0) ∧ (0 ≤ elm (S 7) 1 + (-1) * elm (S' 7) 31 ∧ 0 ≤ elm (S' 7) 31 + (-1) * elm (S 7) 1) ∧ (0 ≤ elm (S 7) 3 + (-1) * elm (S' 7) 33 ∧ 0 ≤ elm (S' 7) 33 + (-1) * elm (S 7) 3) ∧ (0 ≤ elm (S 7) 6 + (-1) * elm (S' 7) 36 ∧ 0 ≤ elm (S' 7) 36 + (-1) * elm (S 7) 6) ∧ (0 ≤ elm (S 7) 8 + (-1) * elm (S' 7) 38 ∧ 0 ≤ elm (S' 7) 38 + (-1) * elm (S 7) 8) ∧ (0 ≤ elm (S 7) 9 + (-1) * elm (S' 7) 39 ∧ 0 ≤ elm (S' 7) 39 + (-1) * elm (S 7) 9) ∧ (0 ≤ elm (S 7) 0 + (-1) * elm (S' 7) 0 ∧ 0 ≤ elm (S' 7) 0 + (-1) * elm (S 7) 0) ∧ (0 ≤ elm (S 7) 1 + (-1) * elm (S' 7) 1 ∧ 0 ≤ elm (S' 7) 1 + (-1) * elm (S 7) 1) ∧ (0 ≤ elm (S 7) 3 + (-1) * elm (S' 7) 3 ∧ 0 ≤ elm (S' 7) 3 + (-1) * elm (S 7) 3) ∧ (0 ≤ elm (S 7) 6 + (-1) * elm (S' 7) 6 ∧ 0 ≤ elm (S' 7) 6 + (-1) * elm (S 7) 6) ∧ (0 ≤ elm (S 7) 8 + (-1) * elm (S' 7) 8 ∧ 0 ≤ elm (S' 7) 8 + (-1) * elm (S 7) 8) ∧ (0 ≤ elm (S 7) 9 + (-1) * elm (S' 7) 9 ∧ 0 ≤ elm (S' 7) 9 + (-1) * elm (S 7) 9) ∧ (0 ≤ elm (S 7) 10 + (-1) * elm (S' 7) 10 ∧ 0 ≤ elm (S' 7) 10 + (-1) * elm (S 7) 10) ∧ (0 ≤ elm (S 7) 11 + (-1) * elm (S' 7) 11 ∧ 0 ≤ elm (S' 7) 11 + (-1) * elm (S 7) 11) ∧ (0 ≤ elm (S 7) 13 + (-1) * elm (S' 7) 13 ∧ 0 ≤ elm (S' 7) 13 + (-1) * elm (S 7) 13) ∧ (0 ≤ elm (S 7) 16 + (-1) * elm (S' 7) 16 ∧ 0 ≤ elm (S' 7) 16 + (-1) * elm (S 7) 16) ∧ (0 ≤ elm (S 7) 18 + (-1) * elm (S' 7) 18 ∧ 0 ≤ elm (S' 7) 18 + (-1) * elm (S 7) 18) ∧ (0 ≤ elm (S 7) 19 + (-1) * elm (S' 7) 19 ∧ 0 ≤ elm (S' 7) 19 + (-1) * elm (S 7) 19) ∧ (0 ≤ elm (S 7) 20 + (-1) * elm (S' 7) 20 ∧ 0 ≤ elm (S' 7) 20 + (-1) * elm (S 7) 20) ∧ (0 ≤ elm (S 7) 21 + (-1) * elm (S' 7) 21 ∧ 0 ≤ elm (S' 7) 21 + (-1) * elm (S 7) 21) ∧ (0 ≤ elm (S 7) 23 + (-1) * elm (S' 7) 23 ∧ 0 ≤ elm (S' 7) 23 + (-1) * elm (S 7) 23) ∧ (0 ≤ elm (S 7) 26 + (-1) * elm (S' 7) 26 ∧ 0 ≤ elm (S' 7) 26 + (-1) * elm (S 7) 26) ∧ (0 ≤ elm (S 7) 28 + (-1) * elm (S' 7) 28 ∧ 0 ≤ elm (S' 7) 28 + (-1) * elm (S 7) 28) ∧ (0 ≤ elm (S 7) 29 + (-1) * elm (S' 7) 29 ∧ 0 ≤ elm (S' 7) 29 + (-1) * elm (S 7) 29) ∧ (0 ≤ elm (S 6) 0 + (-1) * elm (S' 6) 3 ∧ 0 ≤ elm (S' 6) 3 + (-1) * elm (S 6) 0) ∧ (0 ≤ elm (S 6) 0 + (-1) * elm (S' 6) 0 ∧ 0 ≤ elm (S' 6) 0 + (-1) * elm (S 6) 0) ∧ (0 ≤ elm (S 6) 1 + (-1) * elm (S' 6) 1 ∧ 0 ≤ elm (S' 6) 1 + (-1) * elm (S 6) 1) ∧ (0 ≤ elm (S 6) 2 + (-1) * elm (S' 6) 2 ∧ 0 ≤ elm (S' 6) 2 + (-1) * elm (S 6) 2) ∧ (ATp (S' 7) (S' 12) 0) ∧ (ATp (S' 7) (S' 12) 1) ∧ (ATp (S' 7) (S' 12) 2) ∧ (ATp (S' 7) (S' 12) 3)) (QB g ad 20) (FA ad 20)) 0 0 (FA ad 20) := by
  refine xmet cX12_copyShore "EbbWreckModel" (by decide) rfl (Nat.le_of_ble_eq_true rfl) (fun p e s m below meth c E hr hlk hml hQ ls hl => ?_)
  have hx := E.1
  have hb := E.2.1
  have hs : Sp ad 20 (FA ad 20) := Sp.fa hD
  have hl : lv_has ls 3 [(0, .ref (ad 0)), (1, .int 0), (2, .int 3)] := hl
  obtain ⟨f1, c2, b3⟩ := invM_7 hI
  obtain ⟨v4, ee5⟩ : ∃ z : Int32, f1 0 = z := ⟨_, rfl⟩
  have b6 : Bd v4 (0) (12) := (by rw [← ee5]; exact b3.1 0 (by decide))
  obtain ⟨v7, ee8⟩ : ∃ z : Int32, f1 30 = z := ⟨_, rfl⟩
  have b9 : Bd v7 (0) (12) := (by rw [← ee8]; exact b3.1 30 (by decide))
  obtain ⟨v10, ee11⟩ : ∃ z : Int32, f1 1 = z := ⟨_, rfl⟩
  have b12 : Bd v10 (0) (12) := (by rw [← ee11]; exact b3.2.1 1 (by decide))
  obtain ⟨v13, ee14⟩ : ∃ z : Int32, f1 31 = z := ⟨_, rfl⟩
  have b15 : Bd v13 (0) (12) := (by rw [← ee14]; exact b3.2.1 31 (by decide))
  obtain ⟨v16, ee17⟩ : ∃ z : Int32, f1 3 = z := ⟨_, rfl⟩
  have b18 : Bd v16 (0) (12) := (by rw [← ee17]; exact b3.2.2.2.1 3 (by decide))
  obtain ⟨v19, ee20⟩ : ∃ z : Int32, f1 33 = z := ⟨_, rfl⟩
  have b21 : Bd v19 (0) (12) := (by rw [← ee20]; exact b3.2.2.2.1 33 (by decide))
  obtain ⟨v22, ee23⟩ : ∃ z : Int32, f1 6 = z := ⟨_, rfl⟩
  have b24 : Bd v22 (0) (8) := (by rw [← ee23]; exact b3.2.2.2.2.1 6 (by decide))
  obtain ⟨v25, ee26⟩ : ∃ z : Int32, f1 36 = z := ⟨_, rfl⟩
  have b27 : Bd v25 (0) (8) := (by rw [← ee26]; exact b3.2.2.2.2.1 36 (by decide))
  obtain ⟨v28, ee29⟩ : ∃ z : Int32, f1 8 = z := ⟨_, rfl⟩
  have b30 : Bd v28 (0) (3) := (by rw [← ee29]; exact b3.2.2.2.2.2.2.1 8 (by decide))
  obtain ⟨v31, ee32⟩ : ∃ z : Int32, f1 38 = z := ⟨_, rfl⟩
  have b33 : Bd v31 (0) (3) := (by rw [← ee32]; exact b3.2.2.2.2.2.2.1 38 (by decide))
  obtain ⟨v34, ee35⟩ : ∃ z : Int32, f1 9 = z := ⟨_, rfl⟩
  have b36 : Bd v34 (0) (40) := (by rw [← ee35]; exact b3.2.2.2.2.2.2.2 9 (by decide))
  obtain ⟨v37, ee38⟩ : ∃ z : Int32, f1 39 = z := ⟨_, rfl⟩
  have b39 : Bd v37 (0) (40) := (by rw [← ee38]; exact b3.2.2.2.2.2.2.2 39 (by decide))
  obtain ⟨v40, ee41⟩ : ∃ z : Int32, f1 10 = z := ⟨_, rfl⟩
  have b42 : Bd v40 (0) (12) := (by rw [← ee41]; exact b3.1 10 (by decide))
  obtain ⟨v43, ee44⟩ : ∃ z : Int32, f1 11 = z := ⟨_, rfl⟩
  have b45 : Bd v43 (0) (12) := (by rw [← ee44]; exact b3.2.1 11 (by decide))
  obtain ⟨v46, ee47⟩ : ∃ z : Int32, f1 13 = z := ⟨_, rfl⟩
  have b48 : Bd v46 (0) (12) := (by rw [← ee47]; exact b3.2.2.2.1 13 (by decide))
  obtain ⟨v49, ee50⟩ : ∃ z : Int32, f1 16 = z := ⟨_, rfl⟩
  have b51 : Bd v49 (0) (8) := (by rw [← ee50]; exact b3.2.2.2.2.1 16 (by decide))
  obtain ⟨v52, ee53⟩ : ∃ z : Int32, f1 18 = z := ⟨_, rfl⟩
  have b54 : Bd v52 (0) (3) := (by rw [← ee53]; exact b3.2.2.2.2.2.2.1 18 (by decide))
  obtain ⟨v55, ee56⟩ : ∃ z : Int32, f1 19 = z := ⟨_, rfl⟩
  have b57 : Bd v55 (0) (40) := (by rw [← ee56]; exact b3.2.2.2.2.2.2.2 19 (by decide))
  obtain ⟨v58, ee59⟩ : ∃ z : Int32, f1 20 = z := ⟨_, rfl⟩
  have b60 : Bd v58 (0) (12) := (by rw [← ee59]; exact b3.1 20 (by decide))
  obtain ⟨v61, ee62⟩ : ∃ z : Int32, f1 21 = z := ⟨_, rfl⟩
  have b63 : Bd v61 (0) (12) := (by rw [← ee62]; exact b3.2.1 21 (by decide))
  obtain ⟨v64, ee65⟩ : ∃ z : Int32, f1 23 = z := ⟨_, rfl⟩
  have b66 : Bd v64 (0) (12) := (by rw [← ee65]; exact b3.2.2.2.1 23 (by decide))
  obtain ⟨v67, ee68⟩ : ∃ z : Int32, f1 26 = z := ⟨_, rfl⟩
  have b69 : Bd v67 (0) (8) := (by rw [← ee68]; exact b3.2.2.2.2.1 26 (by decide))
  obtain ⟨v70, ee71⟩ : ∃ z : Int32, f1 28 = z := ⟨_, rfl⟩
  have b72 : Bd v70 (0) (3) := (by rw [← ee71]; exact b3.2.2.2.2.2.2.1 28 (by decide))
  obtain ⟨v73, ee74⟩ : ∃ z : Int32, f1 29 = z := ⟨_, rfl⟩
  have b75 : Bd v73 (0) (40) := (by rw [← ee74]; exact b3.2.2.2.2.2.2.2 29 (by decide))
  obtain ⟨f76, c77, b78⟩ := invM_6 hI
  obtain ⟨v79, ee80⟩ : ∃ z : Int32, f76 0 = z := ⟨_, rfl⟩
  have b81 : Bd v79 (0) (40000) := (by rw [← ee80]; exact b78 0)
  obtain ⟨v82, ee83⟩ : ∃ z : Int32, f76 3 = z := ⟨_, rfl⟩
  have b84 : Bd v82 (0) (40000) := (by rw [← ee83]; exact b78 3)
  obtain ⟨v85, ee86⟩ : ∃ z : Int32, f76 1 = z := ⟨_, rfl⟩
  have b87 : Bd v85 (0) (40000) := (by rw [← ee86]; exact b78 1)
  obtain ⟨v88, ee89⟩ : ∃ z : Int32, f76 2 = z := ⟨_, rfl⟩
  have b90 : Bd v88 (0) (40000) := (by rw [← ee89]; exact b78 2)
  obtain ⟨f91, c92, b93⟩ := invM_12 hI
  refine lv_aload_n hx hb dX12_copyShore_0 rfl (lv_at hl 0 rfl) ?_
  obtain ⟨v94, v95, v97, v99, v101, v102, w103, v104, v106, v107, v108, v109, v111, v113, v115, v117, v119, v120, v121, c122, b96, b98, b100, b105, b110, b112, b114, b116, b118⟩ := invM_0 hI
  have c122 : S 0 = .inr (12, [.int v94, .ref (ad 1), .ref (ad 2), .ref (ad 3), .ref (ad 4), .ref (ad 5), .int v95, .int v97, .int v99, .int v101, .int v102, .long w103, .int v104, .int v106, .int v107, .int v108, .ref (ad 6), .ref (ad 7), .ref (ad 8), .ref (ad 9), .ref (ad 10), .ref (ad 11), .ref (ad 12), .ref (ad 13), .ref (ad 14), .ref (ad 15), .int v109, .int v111, .ref (ad 16), .int v113, .int v115, .int v117, .int v119, .int v120, .ref (ad 17), .ref (ad 18), .int v121, .ref (ad 19)]) := c122
  refine xget E hQ 0 (by decide) c122 rfl 16 (by decide) q1484 rfl dX12_copyShore_1 ?_
  refine lv_iconst (v := 1) hx hb dX12_copyShore_4 (by decide) ?_
  refine lv_iload_n hx hb dX12_copyShore_5 rfl (lv_at hl 1 rfl) ?_
  refine lv_iload_n hx hb dX12_copyShore_6 rfl (lv_at hl 2 rfl) ?_
  refine xcSv E hs hQ hml hl.1 (uCopyRow l g ad 20 hD S 6 (by decide) 5 (by decide) f76 1 0 3 (by decide) (by decide) (by decide) c77) mX12_copyRow q1743 rfl ⟨(Nat.le_of_ble_eq_true rfl), (Nat.le_of_ble_eq_true rfl)⟩ ⟨(Nat.le_of_ble_eq_true rfl), (Nat.le_of_ble_eq_true rfl)⟩ (Nat.le_of_ble_eq_true rfl) rfl dX12_copyShore_7 (fun S123 H locs eS123 hQ => ?_)
  have hI := invM_up_6 hI eS123 ⟨_, rfl, cp_b b78⟩
  have b125 : ∀ j, Bd ((cpF f76 1 0 3 1) j) (0) (40000) := cp_b b78
  have c124 : S123 6 = .inl (g.2 0, 5, .inl (cpF f76 1 0 3 1)) := up_at eS123 rfl
  refine lv_aload_n hx hb dX12_copyShore_10 rfl (lv_at hl 0 rfl) ?_
  have c126 : S123 0 = .inr (12, [.int v94, .ref (ad 1), .ref (ad 2), .ref (ad 3), .ref (ad 4), .ref (ad 5), .int v95, .int v97, .int v99, .int v101, .int v102, .long w103, .int v104, .int v106, .int v107, .int v108, .ref (ad 6), .ref (ad 7), .ref (ad 8), .ref (ad 9), .ref (ad 10), .ref (ad 11), .ref (ad 12), .ref (ad 13), .ref (ad 14), .ref (ad 15), .int v109, .int v111, .ref (ad 16), .int v113, .int v115, .int v117, .int v119, .int v120, .ref (ad 17), .ref (ad 18), .int v121, .ref (ad 19)]) := (up_ne eS123 (by decide) c122)
  refine xget E hQ 0 (by decide) c126 rfl 17 (by decide) q1485 rfl dX12_copyShore_11 ?_
  refine lv_bipush (v := 10) hx hb dX12_copyShore_14 (by decide) ?_
  refine lv_iload_n hx hb dX12_copyShore_16 rfl (lv_at hl 1 rfl) ?_
  refine lv_iload_n hx hb dX12_copyShore_17 rfl (lv_at hl 2 rfl) ?_
  have c127 : S123 7 = .inl (g.2 0, 50, .inl f1) := (up_ne eS123 (by decide) c2)
  refine xcSv E hs hQ hml hl.1 (uCopyRow l g ad 20 hD S123 7 (by decide) 50 (by decide) f1 10 0 3 (by decide) (by decide) (by decide) c127) mX12_copyRow q1743 rfl ⟨(Nat.le_of_ble_eq_true rfl), (Nat.le_of_ble_eq_true rfl)⟩ ⟨(Nat.le_of_ble_eq_true rfl), (Nat.le_of_ble_eq_true rfl)⟩ (Nat.le_of_ble_eq_true rfl) rfl dX12_copyShore_18 (fun S128 H locs eS128 hQ => ?_)
  have hI := invM_up_7 hI eS128 ⟨_, rfl, ⟨cp_m (q := 1) b3.1 (by decide), cp_m (q := 1) b3.2.1 (by decide), cp_m (q := 1) b3.2.2.1 (by decide), cp_m (q := 1) b3.2.2.2.1 (by decide), cp_m (q := 1) b3.2.2.2.2.1 (by decide), cp_m (q := 1) b3.2.2.2.2.2.1 (by decide), cp_m (q := 1) b3.2.2.2.2.2.2.1 (by decide), cp_m (q := 1) b3.2.2.2.2.2.2.2 (by decide)⟩⟩
  have b130 : (∀ j, j % 10 = 0 → Bd ((cpF f1 10 0 3 10) j) (0) (12)) ∧ (∀ j, j % 10 = 1 → Bd ((cpF f1 10 0 3 10) j) (0) (12)) ∧ (∀ j, j % 10 = 2 → Bd ((cpF f1 10 0 3 10) j) (0) (6)) ∧ (∀ j, j % 10 = 3 → Bd ((cpF f1 10 0 3 10) j) (0) (12)) ∧ (∀ j, j % 10 = 6 → Bd ((cpF f1 10 0 3 10) j) (0) (8)) ∧ (∀ j, j % 10 = 7 → Bd ((cpF f1 10 0 3 10) j) (0) (6)) ∧ (∀ j, j % 10 = 8 → Bd ((cpF f1 10 0 3 10) j) (0) (3)) ∧ (∀ j, j % 10 = 9 → Bd ((cpF f1 10 0 3 10) j) (0) (40)) := ⟨cp_m (q := 1) b3.1 (by decide), cp_m (q := 1) b3.2.1 (by decide), cp_m (q := 1) b3.2.2.1 (by decide), cp_m (q := 1) b3.2.2.2.1 (by decide), cp_m (q := 1) b3.2.2.2.2.1 (by decide), cp_m (q := 1) b3.2.2.2.2.2.1 (by decide), cp_m (q := 1) b3.2.2.2.2.2.2.1 (by decide), cp_m (q := 1) b3.2.2.2.2.2.2.2 (by decide)⟩
  have c129 : S128 7 = .inl (g.2 0, 50, .inl (cpF f1 10 0 3 10)) := up_at eS128 rfl
  refine lv_aload_n hx hb dX12_copyShore_21 rfl (lv_at hl 0 rfl) ?_
  have c131 : S128 0 = .inr (12, [.int v94, .ref (ad 1), .ref (ad 2), .ref (ad 3), .ref (ad 4), .ref (ad 5), .int v95, .int v97, .int v99, .int v101, .int v102, .long w103, .int v104, .int v106, .int v107, .int v108, .ref (ad 6), .ref (ad 7), .ref (ad 8), .ref (ad 9), .ref (ad 10), .ref (ad 11), .ref (ad 12), .ref (ad 13), .ref (ad 14), .ref (ad 15), .int v109, .int v111, .ref (ad 16), .int v113, .int v115, .int v117, .int v119, .int v120, .ref (ad 17), .ref (ad 18), .int v121, .ref (ad 19)]) := (up_ne eS128 (by decide) c126)
  refine xget E hQ 0 (by decide) c131 rfl 18 (by decide) q1486 rfl dX12_copyShore_22 ?_
  refine lv_bipush (v := 24) hx hb dX12_copyShore_25 (by decide) ?_
  refine lv_iload_n hx hb dX12_copyShore_27 rfl (lv_at hl 1 rfl) ?_
  refine lv_iload_n hx hb dX12_copyShore_28 rfl (lv_at hl 2 rfl) ?_
  obtain ⟨f132, c133⟩ := invM_8 hI
  refine xcSv E hs hQ hml hl.1 (uCopyRow l g ad 20 hD S128 8 (by decide) 120 (by decide) f132 24 0 3 (by decide) (by decide) (by decide) c133) mX12_copyRow q1743 rfl ⟨(Nat.le_of_ble_eq_true rfl), (Nat.le_of_ble_eq_true rfl)⟩ ⟨(Nat.le_of_ble_eq_true rfl), (Nat.le_of_ble_eq_true rfl)⟩ (Nat.le_of_ble_eq_true rfl) rfl dX12_copyShore_29 (fun S135 H locs eS135 hQ => ?_)
  have hI := invM_up_8 hI eS135 ⟨_, rfl⟩
  have c136 : S135 8 = .inl (g.2 0, 120, .inl (cpF f132 24 0 3 24)) := up_at eS135 rfl
  refine lv_aload_n hx hb dX12_copyShore_32 rfl (lv_at hl 0 rfl) ?_
  have c137 : S135 0 = .inr (12, [.int v94, .ref (ad 1), .ref (ad 2), .ref (ad 3), .ref (ad 4), .ref (ad 5), .int v95, .int v97, .int v99, .int v101, .int v102, .long w103, .int v104, .int v106, .int v107, .int v108, .ref (ad 6), .ref (ad 7), .ref (ad 8), .ref (ad 9), .ref (ad 10), .ref (ad 11), .ref (ad 12), .ref (ad 13), .ref (ad 14), .ref (ad 15), .int v109, .int v111, .ref (ad 16), .int v113, .int v115, .int v117, .int v119, .int v120, .ref (ad 17), .ref (ad 18), .int v121, .ref (ad 19)]) := (up_ne eS135 (by decide) c131)
  refine xget E hQ 0 (by decide) c137 rfl 19 (by decide) q1487 rfl dX12_copyShore_33 ?_
  refine lv_bipush (v := 24) hx hb dX12_copyShore_36 (by decide) ?_
  refine lv_iload_n hx hb dX12_copyShore_38 rfl (lv_at hl 1 rfl) ?_
  refine lv_iload_n hx hb dX12_copyShore_39 rfl (lv_at hl 2 rfl) ?_
  obtain ⟨f138, c139, b140⟩ := invM_9 hI
  refine xcSv E hs hQ hml hl.1 (uCopyRow l g ad 20 hD S135 9 (by decide) 120 (by decide) f138 24 0 3 (by decide) (by decide) (by decide) c139) mX12_copyRow q1743 rfl ⟨(Nat.le_of_ble_eq_true rfl), (Nat.le_of_ble_eq_true rfl)⟩ ⟨(Nat.le_of_ble_eq_true rfl), (Nat.le_of_ble_eq_true rfl)⟩ (Nat.le_of_ble_eq_true rfl) rfl dX12_copyShore_40 (fun S141 H locs eS141 hQ => ?_)
  have hI := invM_up_9 hI eS141 ⟨_, rfl, ⟨cp_m (q := 8) b140.1 (by decide), cp_m (q := 8) b140.2 (by decide)⟩⟩
  have b143 : (∀ j, j % 3 = 1 → Bd ((cpF f138 24 0 3 24) j) (0) (11)) ∧ (∀ j, j % 3 = 2 → Bd ((cpF f138 24 0 3 24) j) (0) (99)) := ⟨cp_m (q := 8) b140.1 (by decide), cp_m (q := 8) b140.2 (by decide)⟩
  have c142 : S141 9 = .inl (g.2 0, 120, .inl (cpF f138 24 0 3 24)) := up_at eS141 rfl
  refine lv_aload_n hx hb dX12_copyShore_43 rfl (lv_at hl 0 rfl) ?_
  have c144 : S141 0 = .inr (12, [.int v94, .ref (ad 1), .ref (ad 2), .ref (ad 3), .ref (ad 4), .ref (ad 5), .int v95, .int v97, .int v99, .int v101, .int v102, .long w103, .int v104, .int v106, .int v107, .int v108, .ref (ad 6), .ref (ad 7), .ref (ad 8), .ref (ad 9), .ref (ad 10), .ref (ad 11), .ref (ad 12), .ref (ad 13), .ref (ad 14), .ref (ad 15), .int v109, .int v111, .ref (ad 16), .int v113, .int v115, .int v117, .int v119, .int v120, .ref (ad 17), .ref (ad 18), .int v121, .ref (ad 19)]) := (up_ne eS141 (by decide) c137)
  refine xget E hQ 0 (by decide) c144 rfl 20 (by decide) q1488 rfl dX12_copyShore_44 ?_
  refine lv_bipush (v := 24) hx hb dX12_copyShore_47 (by decide) ?_
  refine lv_iload_n hx hb dX12_copyShore_49 rfl (lv_at hl 1 rfl) ?_
  refine lv_iload_n hx hb dX12_copyShore_50 rfl (lv_at hl 2 rfl) ?_
  obtain ⟨f145, c146⟩ := invM_10 hI
  refine xcSv E hs hQ hml hl.1 (uCopyRow l g ad 20 hD S141 10 (by decide) 120 (by decide) f145 24 0 3 (by decide) (by decide) (by decide) c146) mX12_copyRow q1743 rfl ⟨(Nat.le_of_ble_eq_true rfl), (Nat.le_of_ble_eq_true rfl)⟩ ⟨(Nat.le_of_ble_eq_true rfl), (Nat.le_of_ble_eq_true rfl)⟩ (Nat.le_of_ble_eq_true rfl) rfl dX12_copyShore_51 (fun S148 H locs eS148 hQ => ?_)
  have hI := invM_up_10 hI eS148 ⟨_, rfl⟩
  have c149 : S148 10 = .inl (g.2 0, 120, .inl (cpF f145 24 0 3 24)) := up_at eS148 rfl
  refine lv_aload_n hx hb dX12_copyShore_54 rfl (lv_at hl 0 rfl) ?_
  have c150 : S148 0 = .inr (12, [.int v94, .ref (ad 1), .ref (ad 2), .ref (ad 3), .ref (ad 4), .ref (ad 5), .int v95, .int v97, .int v99, .int v101, .int v102, .long w103, .int v104, .int v106, .int v107, .int v108, .ref (ad 6), .ref (ad 7), .ref (ad 8), .ref (ad 9), .ref (ad 10), .ref (ad 11), .ref (ad 12), .ref (ad 13), .ref (ad 14), .ref (ad 15), .int v109, .int v111, .ref (ad 16), .int v113, .int v115, .int v117, .int v119, .int v120, .ref (ad 17), .ref (ad 18), .int v121, .ref (ad 19)]) := (up_ne eS148 (by decide) c144)
  refine xget E hQ 0 (by decide) c150 rfl 21 (by decide) q1489 rfl dX12_copyShore_55 ?_
  refine lv_iconst (v := 3) hx hb dX12_copyShore_58 (by decide) ?_
  refine lv_iload_n hx hb dX12_copyShore_59 rfl (lv_at hl 1 rfl) ?_
  refine lv_iload_n hx hb dX12_copyShore_60 rfl (lv_at hl 2 rfl) ?_
  obtain ⟨f151, c152, b153⟩ := invM_11 hI
  refine xcSv E hs hQ hml hl.1 (uCopyRow l g ad 20 hD S148 11 (by decide) 15 (by decide) f151 3 0 3 (by decide) (by decide) (by decide) c152) mX12_copyRow q1743 rfl ⟨(Nat.le_of_ble_eq_true rfl), (Nat.le_of_ble_eq_true rfl)⟩ ⟨(Nat.le_of_ble_eq_true rfl), (Nat.le_of_ble_eq_true rfl)⟩ (Nat.le_of_ble_eq_true rfl) rfl dX12_copyShore_61 (fun S154 H locs eS154 hQ => ?_)
  have hI := invM_up_11 hI eS154 ⟨_, rfl, cp_b b153⟩
  have b156 : ∀ j, Bd ((cpF f151 3 0 3 3) j) (0) (11) := cp_b b153
  have c155 : S154 11 = .inl (g.2 0, 15, .inl (cpF f151 3 0 3 3)) := up_at eS154 rfl
  refine lv_aload_n hx hb dX12_copyShore_64 rfl (lv_at hl 0 rfl) ?_
  have c157 : S154 0 = .inr (12, [.int v94, .ref (ad 1), .ref (ad 2), .ref (ad 3), .ref (ad 4), .ref (ad 5), .int v95, .int v97, .int v99, .int v101, .int v102, .long w103, .int v104, .int v106, .int v107, .int v108, .ref (ad 6), .ref (ad 7), .ref (ad 8), .ref (ad 9), .ref (ad 10), .ref (ad 11), .ref (ad 12), .ref (ad 13), .ref (ad 14), .ref (ad 15), .int v109, .int v111, .ref (ad 16), .int v113, .int v115, .int v117, .int v119, .int v120, .ref (ad 17), .ref (ad 18), .int v121, .ref (ad 19)]) := (up_ne eS154 (by decide) c150)
  refine xget E hQ 0 (by decide) c157 rfl 22 (by decide) q1490 rfl dX12_copyShore_65 ?_
  refine lv_sipush (v := 160) hx hb dX12_copyShore_68 (by decide) ?_
  refine lv_iload_n hx hb dX12_copyShore_71 rfl (lv_at hl 1 rfl) ?_
  refine lv_iload_n hx hb dX12_copyShore_72 rfl (lv_at hl 2 rfl) ?_
  have c158 : S154 12 = .inl (g.2 0, 800, .inl f91) := (up_ne eS154 (by decide) (up_ne eS148 (by decide) (up_ne eS141 (by decide) (up_ne eS135 (by decide) (up_ne eS128 (by decide) (up_ne eS123 (by decide) c92))))))
  refine xcSv E hs hQ hml hl.1 (uCopyRow l g ad 20 hD S154 12 (by decide) 800 (by decide) f91 160 0 3 (by decide) (by decide) (by decide) c158) mX12_copyRow q1743 rfl ⟨(Nat.le_of_ble_eq_true rfl), (Nat.le_of_ble_eq_true rfl)⟩ ⟨(Nat.le_of_ble_eq_true rfl), (Nat.le_of_ble_eq_true rfl)⟩ (Nat.le_of_ble_eq_true rfl) rfl dX12_copyShore_73 (fun S159 H locs eS159 hQ => ?_)
  have hI := invM_up_12 hI eS159 ⟨_, rfl, ⟨cp_m (q := 40) b93.1 (by decide), cp_m (q := 40) b93.2 (by decide)⟩⟩
  have b161 : (∀ j, j % 4 = 1 → Bd ((cpF f91 160 0 3 160) j) (0) (7)) ∧ (∀ j, j % 4 = 2 → Bd ((cpF f91 160 0 3 160) j) (0) (400)) := ⟨cp_m (q := 40) b93.1 (by decide), cp_m (q := 40) b93.2 (by decide)⟩
  have c160 : S159 12 = .inl (g.2 0, 800, .inl (cpF f91 160 0 3 160)) := up_at eS159 rfl
  have q162 : elm (S 7) 0 = v4.toInt := (elm_of c2 0).trans (congrArg Int32.toInt (ee5))
  have c163 : S159 7 = .inl (g.2 0, 50, .inl (cpF f1 10 0 3 10)) := (up_ne eS159 (by decide) (up_ne eS154 (by decide) (up_ne eS148 (by decide) (up_ne eS141 (by decide) (up_ne eS135 (by decide) c129)))))
  have q164 : elm (S159 7) 30 = v4.toInt := (elm_of c163 30).trans (congrArg Int32.toInt (((show cpF f1 10 0 3 10 30 = f1 0 from rfl).trans (ee5))))
  have q165 : elm (S 7) 1 = v10.toInt := (elm_of c2 1).trans (congrArg Int32.toInt (ee11))
  have q166 : elm (S159 7) 31 = v10.toInt := (elm_of c163 31).trans (congrArg Int32.toInt (((show cpF f1 10 0 3 10 31 = f1 1 from rfl).trans (ee11))))
  have q167 : elm (S 7) 3 = v16.toInt := (elm_of c2 3).trans (congrArg Int32.toInt (ee17))
  have q168 : elm (S159 7) 33 = v16.toInt := (elm_of c163 33).trans (congrArg Int32.toInt (((show cpF f1 10 0 3 10 33 = f1 3 from rfl).trans (ee17))))
  have q169 : elm (S 7) 6 = v22.toInt := (elm_of c2 6).trans (congrArg Int32.toInt (ee23))
  have q170 : elm (S159 7) 36 = v22.toInt := (elm_of c163 36).trans (congrArg Int32.toInt (((show cpF f1 10 0 3 10 36 = f1 6 from rfl).trans (ee23))))
  have q171 : elm (S 7) 8 = v28.toInt := (elm_of c2 8).trans (congrArg Int32.toInt (ee29))
  have q172 : elm (S159 7) 38 = v28.toInt := (elm_of c163 38).trans (congrArg Int32.toInt (((show cpF f1 10 0 3 10 38 = f1 8 from rfl).trans (ee29))))
  have q173 : elm (S 7) 9 = v34.toInt := (elm_of c2 9).trans (congrArg Int32.toInt (ee35))
  have q174 : elm (S159 7) 39 = v34.toInt := (elm_of c163 39).trans (congrArg Int32.toInt (((show cpF f1 10 0 3 10 39 = f1 9 from rfl).trans (ee35))))
  have q175 : elm (S159 7) 0 = v4.toInt := (elm_of c163 0).trans (congrArg Int32.toInt (((show cpF f1 10 0 3 10 0 = f1 0 from rfl).trans (ee5))))
  have q176 : elm (S159 7) 1 = v10.toInt := (elm_of c163 1).trans (congrArg Int32.toInt (((show cpF f1 10 0 3 10 1 = f1 1 from rfl).trans (ee11))))
  have q177 : elm (S159 7) 3 = v16.toInt := (elm_of c163 3).trans (congrArg Int32.toInt (((show cpF f1 10 0 3 10 3 = f1 3 from rfl).trans (ee17))))
  have q178 : elm (S159 7) 6 = v22.toInt := (elm_of c163 6).trans (congrArg Int32.toInt (((show cpF f1 10 0 3 10 6 = f1 6 from rfl).trans (ee23))))
  have q179 : elm (S159 7) 8 = v28.toInt := (elm_of c163 8).trans (congrArg Int32.toInt (((show cpF f1 10 0 3 10 8 = f1 8 from rfl).trans (ee29))))
  have q180 : elm (S159 7) 9 = v34.toInt := (elm_of c163 9).trans (congrArg Int32.toInt (((show cpF f1 10 0 3 10 9 = f1 9 from rfl).trans (ee35))))
  have q181 : elm (S 7) 10 = v40.toInt := (elm_of c2 10).trans (congrArg Int32.toInt (ee41))
  have q182 : elm (S159 7) 10 = v40.toInt := (elm_of c163 10).trans (congrArg Int32.toInt (((show cpF f1 10 0 3 10 10 = f1 10 from rfl).trans (ee41))))
  have q183 : elm (S 7) 11 = v43.toInt := (elm_of c2 11).trans (congrArg Int32.toInt (ee44))
  have q184 : elm (S159 7) 11 = v43.toInt := (elm_of c163 11).trans (congrArg Int32.toInt (((show cpF f1 10 0 3 10 11 = f1 11 from rfl).trans (ee44))))
  have q185 : elm (S 7) 13 = v46.toInt := (elm_of c2 13).trans (congrArg Int32.toInt (ee47))
  have q186 : elm (S159 7) 13 = v46.toInt := (elm_of c163 13).trans (congrArg Int32.toInt (((show cpF f1 10 0 3 10 13 = f1 13 from rfl).trans (ee47))))
  have q187 : elm (S 7) 16 = v49.toInt := (elm_of c2 16).trans (congrArg Int32.toInt (ee50))
  have q188 : elm (S159 7) 16 = v49.toInt := (elm_of c163 16).trans (congrArg Int32.toInt (((show cpF f1 10 0 3 10 16 = f1 16 from rfl).trans (ee50))))
  have q189 : elm (S 7) 18 = v52.toInt := (elm_of c2 18).trans (congrArg Int32.toInt (ee53))
  have q190 : elm (S159 7) 18 = v52.toInt := (elm_of c163 18).trans (congrArg Int32.toInt (((show cpF f1 10 0 3 10 18 = f1 18 from rfl).trans (ee53))))
  have q191 : elm (S 7) 19 = v55.toInt := (elm_of c2 19).trans (congrArg Int32.toInt (ee56))
  have q192 : elm (S159 7) 19 = v55.toInt := (elm_of c163 19).trans (congrArg Int32.toInt (((show cpF f1 10 0 3 10 19 = f1 19 from rfl).trans (ee56))))
  have q193 : elm (S 7) 20 = v58.toInt := (elm_of c2 20).trans (congrArg Int32.toInt (ee59))
  have q194 : elm (S159 7) 20 = v58.toInt := (elm_of c163 20).trans (congrArg Int32.toInt (((show cpF f1 10 0 3 10 20 = f1 20 from rfl).trans (ee59))))
  have q195 : elm (S 7) 21 = v61.toInt := (elm_of c2 21).trans (congrArg Int32.toInt (ee62))
  have q196 : elm (S159 7) 21 = v61.toInt := (elm_of c163 21).trans (congrArg Int32.toInt (((show cpF f1 10 0 3 10 21 = f1 21 from rfl).trans (ee62))))
  have q197 : elm (S 7) 23 = v64.toInt := (elm_of c2 23).trans (congrArg Int32.toInt (ee65))
  have q198 : elm (S159 7) 23 = v64.toInt := (elm_of c163 23).trans (congrArg Int32.toInt (((show cpF f1 10 0 3 10 23 = f1 23 from rfl).trans (ee65))))
  have q199 : elm (S 7) 26 = v67.toInt := (elm_of c2 26).trans (congrArg Int32.toInt (ee68))
  have q200 : elm (S159 7) 26 = v67.toInt := (elm_of c163 26).trans (congrArg Int32.toInt (((show cpF f1 10 0 3 10 26 = f1 26 from rfl).trans (ee68))))
  have q201 : elm (S 7) 28 = v70.toInt := (elm_of c2 28).trans (congrArg Int32.toInt (ee71))
  have q202 : elm (S159 7) 28 = v70.toInt := (elm_of c163 28).trans (congrArg Int32.toInt (((show cpF f1 10 0 3 10 28 = f1 28 from rfl).trans (ee71))))
  have q203 : elm (S 7) 29 = v73.toInt := (elm_of c2 29).trans (congrArg Int32.toInt (ee74))
  have q204 : elm (S159 7) 29 = v73.toInt := (elm_of c163 29).trans (congrArg Int32.toInt (((show cpF f1 10 0 3 10 29 = f1 29 from rfl).trans (ee74))))
  have q205 : elm (S 6) 0 = v79.toInt := (elm_of c77 0).trans (congrArg Int32.toInt (ee80))
  have c206 : S159 6 = .inl (g.2 0, 5, .inl (cpF f76 1 0 3 1)) := (up_ne eS159 (by decide) (up_ne eS154 (by decide) (up_ne eS148 (by decide) (up_ne eS141 (by decide) (up_ne eS135 (by decide) (up_ne eS128 (by decide) c124))))))
  have q207 : elm (S159 6) 3 = v79.toInt := (elm_of c206 3).trans (congrArg Int32.toInt (((show cpF f76 1 0 3 1 3 = f76 0 from rfl).trans (ee80))))
  have q208 : elm (S159 6) 0 = v79.toInt := (elm_of c206 0).trans (congrArg Int32.toInt (((show cpF f76 1 0 3 1 0 = f76 0 from rfl).trans (ee80))))
  have q209 : elm (S 6) 1 = v85.toInt := (elm_of c77 1).trans (congrArg Int32.toInt (ee86))
  have q210 : elm (S159 6) 1 = v85.toInt := (elm_of c206 1).trans (congrArg Int32.toInt (((show cpF f76 1 0 3 1 1 = f76 1 from rfl).trans (ee86))))
  have q211 : elm (S 6) 2 = v88.toInt := (elm_of c77 2).trans (congrArg Int32.toInt (ee89))
  have q212 : elm (S159 6) 2 = v88.toInt := (elm_of c206 2).trans (congrArg Int32.toInt (((show cpF f76 1 0 3 1 2 = f76 2 from rfl).trans (ee89))))
  exact xrv E hr hlk hQ (⟨hI, (up_o (up_o (up_o (up_o (up_o (up_o (up_o o_refl eS123 (by decide)) eS128 (by decide)) eS135 (by decide)) eS141 (by decide)) eS148 (by decide)) eS154 (by decide)) eS159 (by decide)), ⟨by omega, by omega⟩, ⟨by omega, by omega⟩, ⟨by omega, by omega⟩, ⟨by omega, by omega⟩, ⟨by omega, by omega⟩, ⟨by omega, by omega⟩, ⟨by omega, by omega⟩, ⟨by omega, by omega⟩, ⟨by omega, by omega⟩, ⟨by omega, by omega⟩, ⟨by omega, by omega⟩, ⟨by omega, by omega⟩, ⟨by omega, by omega⟩, ⟨by omega, by omega⟩, ⟨by omega, by omega⟩, ⟨by omega, by omega⟩, ⟨by omega, by omega⟩, ⟨by omega, by omega⟩, ⟨by omega, by omega⟩, ⟨by omega, by omega⟩, ⟨by omega, by omega⟩, ⟨by omega, by omega⟩, ⟨by omega, by omega⟩, ⟨by omega, by omega⟩, ⟨by omega, by omega⟩, ⟨by omega, by omega⟩, ⟨by omega, by omega⟩, ⟨by omega, by omega⟩, (at_cpo c2 c92 c163 c160 b3.2.2.2.2.2.2.2 (by decide) hAT0), (at_cpo c2 c92 c163 c160 b3.2.2.2.2.2.2.2 (by decide) hAT1), (at_cpo c2 c92 c163 c160 b3.2.2.2.2.2.2.2 (by decide) hAT2), (at_cpb c2 c92 c163 c160 b3.2.2.2.2.2.2.2 hAT0)⟩) dX12_copyShore_76
set_option maxHeartbeats 4000000 in
set_option maxRecDepth 100000 in
theorem gX12_copyShore_1_0 (l : Launch) (g : GG) (ad : Nat → Nat) (hD : Dj ad 20) (S : SS) (hI : InvM g ad S) (hAT0 : ATp (S 7) (S 12) 0) (hAT1 : ATp (S 7) (S 12) 1) (hAT2 : ATp (S 7) (S 12) 2) (hAT3 : ATp (S 7) (S 12) 3) : Met l yX12_copyShore (wG (.code yX12_copyShore cX12_copyShore 3 none)) (Rm 1) (XPre g ad 20 S [.ref (ad 0), .int 1, .int 0]) (va_Qv (fun S' => InvM g ad S' ∧ (∀ j, j ∉ ([6, 7, 8, 9, 10, 11, 12] : List Nat) → S' j = S j) ∧ (0 ≤ elm (S 7) 10 + (-1) * elm (S' 7) 0 ∧ 0 ≤ elm (S' 7) 0 + (-1) * elm (S 7) 10) ∧ (0 ≤ elm (S 7) 11 + (-1) * elm (S' 7) 1 ∧ 0 ≤ elm (S' 7) 1 + (-1) * elm (S 7) 11) ∧ (0 ≤ elm (S 7) 13 + (-1) * elm (S' 7) 3 ∧ 0 ≤ elm (S' 7) 3 + (-1) * elm (S 7) 13) ∧ (0 ≤ elm (S 7) 16 + (-1) * elm (S' 7) 6 ∧ 0 ≤ elm (S' 7) 6 + (-1) * elm (S 7) 16) ∧ (0 ≤ elm (S 7) 18 + (-1) * elm (S' 7) 8 ∧ 0 ≤ elm (S' 7) 8 + (-1) * elm (S 7) 18) ∧ (0 ≤ elm (S 7) 19 + (-1) * elm (S' 7) 9 ∧ 0 ≤ elm (S' 7) 9 + (-1) * elm (S 7) 19) ∧ (0 ≤ elm (S 7) 10 + (-1) * elm (S' 7) 10 ∧ 0 ≤ elm (S' 7) 10 + (-1) * elm (S 7) 10) ∧ (0 ≤ elm (S 7) 11 + (-1) * elm (S' 7) 11 ∧ 0 ≤ elm (S' 7) 11 + (-1) * elm (S 7) 11) ∧ (0 ≤ elm (S 7) 13 + (-1) * elm (S' 7) 13 ∧ 0 ≤ elm (S' 7) 13 + (-1) * elm (S 7) 13) ∧ (0 ≤ elm (S 7) 16 + (-1) * elm (S' 7) 16 ∧ 0 ≤ elm (S' 7) 16 + (-1) * elm (S 7) 16) ∧ (0 ≤ elm (S 7) 18 + (-1) * elm (S' 7) 18 ∧ 0 ≤ elm (S' 7) 18 + (-1) * elm (S 7) 18) ∧ (0 ≤ elm (S 7) 19 + (-1) * elm (S' 7) 19 ∧ 0 ≤ elm (S' 7) 19 + (-1) * elm (S 7) 19) ∧ (0 ≤ elm (S 7) 20 + (-1) * elm (S' 7) 20 ∧ 0 ≤ elm (S' 7) 20 + (-1) * elm (S 7) 20) ∧ (0 ≤ elm (S 7) 21 + (-1) * elm (S' 7) 21 ∧ 0 ≤ elm (S' 7) 21 + (-1) * elm (S 7) 21) ∧ (0 ≤ elm (S 7) 23 + (-1) * elm (S' 7) 23 ∧ 0 ≤ elm (S' 7) 23 + (-1) * elm (S 7) 23) ∧ (0 ≤ elm (S 7) 26 + (-1) * elm (S' 7) 26 ∧ 0 ≤ elm (S' 7) 26 + (-1) * elm (S 7) 26) ∧ (0 ≤ elm (S 7) 28 + (-1) * elm (S' 7) 28 ∧ 0 ≤ elm (S' 7) 28 + (-1) * elm (S 7) 28) ∧ (0 ≤ elm (S 7) 29 + (-1) * elm (S' 7) 29 ∧ 0 ≤ elm (S' 7) 29 + (-1) * elm (S 7) 29) ∧ (0 ≤ elm (S 7) 30 + (-1) * elm (S' 7) 30 ∧ 0 ≤ elm (S' 7) 30 + (-1) * elm (S 7) 30) ∧ (0 ≤ elm (S 7) 31 + (-1) * elm (S' 7) 31 ∧ 0 ≤ elm (S' 7) 31 + (-1) * elm (S 7) 31) ∧ (0 ≤ elm (S 7) 33 + (-1) * elm (S' 7) 33 ∧ 0 ≤ elm (S' 7) 33 + (-1) * elm (S 7) 33) ∧ (0 ≤ elm (S 7) 36 + (-1) * elm (S' 7) 36 ∧ 0 ≤ elm (S' 7) 36 + (-1) * elm (S 7) 36) ∧ (0 ≤ elm (S 7) 38 + (-1) * elm (S' 7) 38 ∧ 0 ≤ elm (S' 7) 38 + (-1) * elm (S 7) 38) ∧ (0 ≤ elm (S 7) 39 + (-1) * elm (S' 7) 39 ∧ 0 ≤ elm (S' 7) 39 + (-1) * elm (S 7) 39) ∧ (0 ≤ elm (S 6) 1 + (-1) * elm (S' 6) 0 ∧ 0 ≤ elm (S' 6) 0 + (-1) * elm (S 6) 1) ∧ (0 ≤ elm (S 6) 1 + (-1) * elm (S' 6) 1 ∧ 0 ≤ elm (S' 6) 1 + (-1) * elm (S 6) 1) ∧ (0 ≤ elm (S 6) 2 + (-1) * elm (S' 6) 2 ∧ 0 ≤ elm (S' 6) 2 + (-1) * elm (S 6) 2) ∧ (0 ≤ elm (S 6) 3 + (-1) * elm (S' 6) 3 ∧ 0 ≤ elm (S' 6) 3 + (-1) * elm (S 6) 3) ∧ (ATp (S' 7) (S' 12) 0) ∧ (ATp (S' 7) (S' 12) 1) ∧ (ATp (S' 7) (S' 12) 2) ∧ (ATp (S' 7) (S' 12) 3)) (QB g ad 20) (FA ad 20)) 0 0 (FA ad 20) := by
  refine xmet cX12_copyShore "EbbWreckModel" (by decide) rfl (Nat.le_of_ble_eq_true rfl) (fun p e s m below meth c E hr hlk hml hQ ls hl => ?_)
  have hx := E.1
  have hb := E.2.1
  have hs : Sp ad 20 (FA ad 20) := Sp.fa hD
  have hl : lv_has ls 3 [(0, .ref (ad 0)), (1, .int 1), (2, .int 0)] := hl
  obtain ⟨f1, c2, b3⟩ := invM_7 hI
  obtain ⟨v4, ee5⟩ : ∃ z : Int32, f1 10 = z := ⟨_, rfl⟩
  have b6 : Bd v4 (0) (12) := (by rw [← ee5]; exact b3.1 10 (by decide))
  obtain ⟨v7, ee8⟩ : ∃ z : Int32, f1 0 = z := ⟨_, rfl⟩
  have b9 : Bd v7 (0) (12) := (by rw [← ee8]; exact b3.1 0 (by decide))
  obtain ⟨v10, ee11⟩ : ∃ z : Int32, f1 11 = z := ⟨_, rfl⟩
  have b12 : Bd v10 (0) (12) := (by rw [← ee11]; exact b3.2.1 11 (by decide))
  obtain ⟨v13, ee14⟩ : ∃ z : Int32, f1 1 = z := ⟨_, rfl⟩
  have b15 : Bd v13 (0) (12) := (by rw [← ee14]; exact b3.2.1 1 (by decide))
  obtain ⟨v16, ee17⟩ : ∃ z : Int32, f1 13 = z := ⟨_, rfl⟩
  have b18 : Bd v16 (0) (12) := (by rw [← ee17]; exact b3.2.2.2.1 13 (by decide))
  obtain ⟨v19, ee20⟩ : ∃ z : Int32, f1 3 = z := ⟨_, rfl⟩
  have b21 : Bd v19 (0) (12) := (by rw [← ee20]; exact b3.2.2.2.1 3 (by decide))
  obtain ⟨v22, ee23⟩ : ∃ z : Int32, f1 16 = z := ⟨_, rfl⟩
  have b24 : Bd v22 (0) (8) := (by rw [← ee23]; exact b3.2.2.2.2.1 16 (by decide))
  obtain ⟨v25, ee26⟩ : ∃ z : Int32, f1 6 = z := ⟨_, rfl⟩
  have b27 : Bd v25 (0) (8) := (by rw [← ee26]; exact b3.2.2.2.2.1 6 (by decide))
  obtain ⟨v28, ee29⟩ : ∃ z : Int32, f1 18 = z := ⟨_, rfl⟩
  have b30 : Bd v28 (0) (3) := (by rw [← ee29]; exact b3.2.2.2.2.2.2.1 18 (by decide))
  obtain ⟨v31, ee32⟩ : ∃ z : Int32, f1 8 = z := ⟨_, rfl⟩
  have b33 : Bd v31 (0) (3) := (by rw [← ee32]; exact b3.2.2.2.2.2.2.1 8 (by decide))
  obtain ⟨v34, ee35⟩ : ∃ z : Int32, f1 19 = z := ⟨_, rfl⟩
  have b36 : Bd v34 (0) (40) := (by rw [← ee35]; exact b3.2.2.2.2.2.2.2 19 (by decide))
  obtain ⟨v37, ee38⟩ : ∃ z : Int32, f1 9 = z := ⟨_, rfl⟩
  have b39 : Bd v37 (0) (40) := (by rw [← ee38]; exact b3.2.2.2.2.2.2.2 9 (by decide))
  obtain ⟨v40, ee41⟩ : ∃ z : Int32, f1 20 = z := ⟨_, rfl⟩
  have b42 : Bd v40 (0) (12) := (by rw [← ee41]; exact b3.1 20 (by decide))
  obtain ⟨v43, ee44⟩ : ∃ z : Int32, f1 21 = z := ⟨_, rfl⟩
  have b45 : Bd v43 (0) (12) := (by rw [← ee44]; exact b3.2.1 21 (by decide))
  obtain ⟨v46, ee47⟩ : ∃ z : Int32, f1 23 = z := ⟨_, rfl⟩
  have b48 : Bd v46 (0) (12) := (by rw [← ee47]; exact b3.2.2.2.1 23 (by decide))
  obtain ⟨v49, ee50⟩ : ∃ z : Int32, f1 26 = z := ⟨_, rfl⟩
  have b51 : Bd v49 (0) (8) := (by rw [← ee50]; exact b3.2.2.2.2.1 26 (by decide))
  obtain ⟨v52, ee53⟩ : ∃ z : Int32, f1 28 = z := ⟨_, rfl⟩
  have b54 : Bd v52 (0) (3) := (by rw [← ee53]; exact b3.2.2.2.2.2.2.1 28 (by decide))
  obtain ⟨v55, ee56⟩ : ∃ z : Int32, f1 29 = z := ⟨_, rfl⟩
  have b57 : Bd v55 (0) (40) := (by rw [← ee56]; exact b3.2.2.2.2.2.2.2 29 (by decide))
  obtain ⟨v58, ee59⟩ : ∃ z : Int32, f1 30 = z := ⟨_, rfl⟩
  have b60 : Bd v58 (0) (12) := (by rw [← ee59]; exact b3.1 30 (by decide))
  obtain ⟨v61, ee62⟩ : ∃ z : Int32, f1 31 = z := ⟨_, rfl⟩
  have b63 : Bd v61 (0) (12) := (by rw [← ee62]; exact b3.2.1 31 (by decide))
  obtain ⟨v64, ee65⟩ : ∃ z : Int32, f1 33 = z := ⟨_, rfl⟩
  have b66 : Bd v64 (0) (12) := (by rw [← ee65]; exact b3.2.2.2.1 33 (by decide))
  obtain ⟨v67, ee68⟩ : ∃ z : Int32, f1 36 = z := ⟨_, rfl⟩
  have b69 : Bd v67 (0) (8) := (by rw [← ee68]; exact b3.2.2.2.2.1 36 (by decide))
  obtain ⟨v70, ee71⟩ : ∃ z : Int32, f1 38 = z := ⟨_, rfl⟩
  have b72 : Bd v70 (0) (3) := (by rw [← ee71]; exact b3.2.2.2.2.2.2.1 38 (by decide))
  obtain ⟨v73, ee74⟩ : ∃ z : Int32, f1 39 = z := ⟨_, rfl⟩
  have b75 : Bd v73 (0) (40) := (by rw [← ee74]; exact b3.2.2.2.2.2.2.2 39 (by decide))
  obtain ⟨f76, c77, b78⟩ := invM_6 hI
  obtain ⟨v79, ee80⟩ : ∃ z : Int32, f76 1 = z := ⟨_, rfl⟩
  have b81 : Bd v79 (0) (40000) := (by rw [← ee80]; exact b78 1)
  obtain ⟨v82, ee83⟩ : ∃ z : Int32, f76 0 = z := ⟨_, rfl⟩
  have b84 : Bd v82 (0) (40000) := (by rw [← ee83]; exact b78 0)
  obtain ⟨v85, ee86⟩ : ∃ z : Int32, f76 2 = z := ⟨_, rfl⟩
  have b87 : Bd v85 (0) (40000) := (by rw [← ee86]; exact b78 2)
  obtain ⟨v88, ee89⟩ : ∃ z : Int32, f76 3 = z := ⟨_, rfl⟩
  have b90 : Bd v88 (0) (40000) := (by rw [← ee89]; exact b78 3)
  obtain ⟨f91, c92, b93⟩ := invM_12 hI
  refine lv_aload_n hx hb dX12_copyShore_0 rfl (lv_at hl 0 rfl) ?_
  obtain ⟨v94, v95, v97, v99, v101, v102, w103, v104, v106, v107, v108, v109, v111, v113, v115, v117, v119, v120, v121, c122, b96, b98, b100, b105, b110, b112, b114, b116, b118⟩ := invM_0 hI
  have c122 : S 0 = .inr (12, [.int v94, .ref (ad 1), .ref (ad 2), .ref (ad 3), .ref (ad 4), .ref (ad 5), .int v95, .int v97, .int v99, .int v101, .int v102, .long w103, .int v104, .int v106, .int v107, .int v108, .ref (ad 6), .ref (ad 7), .ref (ad 8), .ref (ad 9), .ref (ad 10), .ref (ad 11), .ref (ad 12), .ref (ad 13), .ref (ad 14), .ref (ad 15), .int v109, .int v111, .ref (ad 16), .int v113, .int v115, .int v117, .int v119, .int v120, .ref (ad 17), .ref (ad 18), .int v121, .ref (ad 19)]) := c122
  refine xget E hQ 0 (by decide) c122 rfl 16 (by decide) q1484 rfl dX12_copyShore_1 ?_
  refine lv_iconst (v := 1) hx hb dX12_copyShore_4 (by decide) ?_
  refine lv_iload_n hx hb dX12_copyShore_5 rfl (lv_at hl 1 rfl) ?_
  refine lv_iload_n hx hb dX12_copyShore_6 rfl (lv_at hl 2 rfl) ?_
  refine xcSv E hs hQ hml hl.1 (uCopyRow l g ad 20 hD S 6 (by decide) 5 (by decide) f76 1 1 0 (by decide) (by decide) (by decide) c77) mX12_copyRow q1743 rfl ⟨(Nat.le_of_ble_eq_true rfl), (Nat.le_of_ble_eq_true rfl)⟩ ⟨(Nat.le_of_ble_eq_true rfl), (Nat.le_of_ble_eq_true rfl)⟩ (Nat.le_of_ble_eq_true rfl) rfl dX12_copyShore_7 (fun S123 H locs eS123 hQ => ?_)
  have hI := invM_up_6 hI eS123 ⟨_, rfl, cp_b b78⟩
  have b125 : ∀ j, Bd ((cpF f76 1 1 0 1) j) (0) (40000) := cp_b b78
  have c124 : S123 6 = .inl (g.2 0, 5, .inl (cpF f76 1 1 0 1)) := up_at eS123 rfl
  refine lv_aload_n hx hb dX12_copyShore_10 rfl (lv_at hl 0 rfl) ?_
  have c126 : S123 0 = .inr (12, [.int v94, .ref (ad 1), .ref (ad 2), .ref (ad 3), .ref (ad 4), .ref (ad 5), .int v95, .int v97, .int v99, .int v101, .int v102, .long w103, .int v104, .int v106, .int v107, .int v108, .ref (ad 6), .ref (ad 7), .ref (ad 8), .ref (ad 9), .ref (ad 10), .ref (ad 11), .ref (ad 12), .ref (ad 13), .ref (ad 14), .ref (ad 15), .int v109, .int v111, .ref (ad 16), .int v113, .int v115, .int v117, .int v119, .int v120, .ref (ad 17), .ref (ad 18), .int v121, .ref (ad 19)]) := (up_ne eS123 (by decide) c122)
  refine xget E hQ 0 (by decide) c126 rfl 17 (by decide) q1485 rfl dX12_copyShore_11 ?_
  refine lv_bipush (v := 10) hx hb dX12_copyShore_14 (by decide) ?_
  refine lv_iload_n hx hb dX12_copyShore_16 rfl (lv_at hl 1 rfl) ?_
  refine lv_iload_n hx hb dX12_copyShore_17 rfl (lv_at hl 2 rfl) ?_
  have c127 : S123 7 = .inl (g.2 0, 50, .inl f1) := (up_ne eS123 (by decide) c2)
  refine xcSv E hs hQ hml hl.1 (uCopyRow l g ad 20 hD S123 7 (by decide) 50 (by decide) f1 10 1 0 (by decide) (by decide) (by decide) c127) mX12_copyRow q1743 rfl ⟨(Nat.le_of_ble_eq_true rfl), (Nat.le_of_ble_eq_true rfl)⟩ ⟨(Nat.le_of_ble_eq_true rfl), (Nat.le_of_ble_eq_true rfl)⟩ (Nat.le_of_ble_eq_true rfl) rfl dX12_copyShore_18 (fun S128 H locs eS128 hQ => ?_)
  have hI := invM_up_7 hI eS128 ⟨_, rfl, ⟨cp_m (q := 1) b3.1 (by decide), cp_m (q := 1) b3.2.1 (by decide), cp_m (q := 1) b3.2.2.1 (by decide), cp_m (q := 1) b3.2.2.2.1 (by decide), cp_m (q := 1) b3.2.2.2.2.1 (by decide), cp_m (q := 1) b3.2.2.2.2.2.1 (by decide), cp_m (q := 1) b3.2.2.2.2.2.2.1 (by decide), cp_m (q := 1) b3.2.2.2.2.2.2.2 (by decide)⟩⟩
  have b130 : (∀ j, j % 10 = 0 → Bd ((cpF f1 10 1 0 10) j) (0) (12)) ∧ (∀ j, j % 10 = 1 → Bd ((cpF f1 10 1 0 10) j) (0) (12)) ∧ (∀ j, j % 10 = 2 → Bd ((cpF f1 10 1 0 10) j) (0) (6)) ∧ (∀ j, j % 10 = 3 → Bd ((cpF f1 10 1 0 10) j) (0) (12)) ∧ (∀ j, j % 10 = 6 → Bd ((cpF f1 10 1 0 10) j) (0) (8)) ∧ (∀ j, j % 10 = 7 → Bd ((cpF f1 10 1 0 10) j) (0) (6)) ∧ (∀ j, j % 10 = 8 → Bd ((cpF f1 10 1 0 10) j) (0) (3)) ∧ (∀ j, j % 10 = 9 → Bd ((cpF f1 10 1 0 10) j) (0) (40)) := ⟨cp_m (q := 1) b3.1 (by decide), cp_m (q := 1) b3.2.1 (by decide), cp_m (q := 1) b3.2.2.1 (by decide), cp_m (q := 1) b3.2.2.2.1 (by decide), cp_m (q := 1) b3.2.2.2.2.1 (by decide), cp_m (q := 1) b3.2.2.2.2.2.1 (by decide), cp_m (q := 1) b3.2.2.2.2.2.2.1 (by decide), cp_m (q := 1) b3.2.2.2.2.2.2.2 (by decide)⟩
  have c129 : S128 7 = .inl (g.2 0, 50, .inl (cpF f1 10 1 0 10)) := up_at eS128 rfl
  refine lv_aload_n hx hb dX12_copyShore_21 rfl (lv_at hl 0 rfl) ?_
  have c131 : S128 0 = .inr (12, [.int v94, .ref (ad 1), .ref (ad 2), .ref (ad 3), .ref (ad 4), .ref (ad 5), .int v95, .int v97, .int v99, .int v101, .int v102, .long w103, .int v104, .int v106, .int v107, .int v108, .ref (ad 6), .ref (ad 7), .ref (ad 8), .ref (ad 9), .ref (ad 10), .ref (ad 11), .ref (ad 12), .ref (ad 13), .ref (ad 14), .ref (ad 15), .int v109, .int v111, .ref (ad 16), .int v113, .int v115, .int v117, .int v119, .int v120, .ref (ad 17), .ref (ad 18), .int v121, .ref (ad 19)]) := (up_ne eS128 (by decide) c126)
  refine xget E hQ 0 (by decide) c131 rfl 18 (by decide) q1486 rfl dX12_copyShore_22 ?_
  refine lv_bipush (v := 24) hx hb dX12_copyShore_25 (by decide) ?_
  refine lv_iload_n hx hb dX12_copyShore_27 rfl (lv_at hl 1 rfl) ?_
  refine lv_iload_n hx hb dX12_copyShore_28 rfl (lv_at hl 2 rfl) ?_
  obtain ⟨f132, c133⟩ := invM_8 hI
  refine xcSv E hs hQ hml hl.1 (uCopyRow l g ad 20 hD S128 8 (by decide) 120 (by decide) f132 24 1 0 (by decide) (by decide) (by decide) c133) mX12_copyRow q1743 rfl ⟨(Nat.le_of_ble_eq_true rfl), (Nat.le_of_ble_eq_true rfl)⟩ ⟨(Nat.le_of_ble_eq_true rfl), (Nat.le_of_ble_eq_true rfl)⟩ (Nat.le_of_ble_eq_true rfl) rfl dX12_copyShore_29 (fun S135 H locs eS135 hQ => ?_)
  have hI := invM_up_8 hI eS135 ⟨_, rfl⟩
  have c136 : S135 8 = .inl (g.2 0, 120, .inl (cpF f132 24 1 0 24)) := up_at eS135 rfl
  refine lv_aload_n hx hb dX12_copyShore_32 rfl (lv_at hl 0 rfl) ?_
  have c137 : S135 0 = .inr (12, [.int v94, .ref (ad 1), .ref (ad 2), .ref (ad 3), .ref (ad 4), .ref (ad 5), .int v95, .int v97, .int v99, .int v101, .int v102, .long w103, .int v104, .int v106, .int v107, .int v108, .ref (ad 6), .ref (ad 7), .ref (ad 8), .ref (ad 9), .ref (ad 10), .ref (ad 11), .ref (ad 12), .ref (ad 13), .ref (ad 14), .ref (ad 15), .int v109, .int v111, .ref (ad 16), .int v113, .int v115, .int v117, .int v119, .int v120, .ref (ad 17), .ref (ad 18), .int v121, .ref (ad 19)]) := (up_ne eS135 (by decide) c131)
  refine xget E hQ 0 (by decide) c137 rfl 19 (by decide) q1487 rfl dX12_copyShore_33 ?_
  refine lv_bipush (v := 24) hx hb dX12_copyShore_36 (by decide) ?_
  refine lv_iload_n hx hb dX12_copyShore_38 rfl (lv_at hl 1 rfl) ?_
  refine lv_iload_n hx hb dX12_copyShore_39 rfl (lv_at hl 2 rfl) ?_
  obtain ⟨f138, c139, b140⟩ := invM_9 hI
  refine xcSv E hs hQ hml hl.1 (uCopyRow l g ad 20 hD S135 9 (by decide) 120 (by decide) f138 24 1 0 (by decide) (by decide) (by decide) c139) mX12_copyRow q1743 rfl ⟨(Nat.le_of_ble_eq_true rfl), (Nat.le_of_ble_eq_true rfl)⟩ ⟨(Nat.le_of_ble_eq_true rfl), (Nat.le_of_ble_eq_true rfl)⟩ (Nat.le_of_ble_eq_true rfl) rfl dX12_copyShore_40 (fun S141 H locs eS141 hQ => ?_)
  have hI := invM_up_9 hI eS141 ⟨_, rfl, ⟨cp_m (q := 8) b140.1 (by decide), cp_m (q := 8) b140.2 (by decide)⟩⟩
  have b143 : (∀ j, j % 3 = 1 → Bd ((cpF f138 24 1 0 24) j) (0) (11)) ∧ (∀ j, j % 3 = 2 → Bd ((cpF f138 24 1 0 24) j) (0) (99)) := ⟨cp_m (q := 8) b140.1 (by decide), cp_m (q := 8) b140.2 (by decide)⟩
  have c142 : S141 9 = .inl (g.2 0, 120, .inl (cpF f138 24 1 0 24)) := up_at eS141 rfl
  refine lv_aload_n hx hb dX12_copyShore_43 rfl (lv_at hl 0 rfl) ?_
  have c144 : S141 0 = .inr (12, [.int v94, .ref (ad 1), .ref (ad 2), .ref (ad 3), .ref (ad 4), .ref (ad 5), .int v95, .int v97, .int v99, .int v101, .int v102, .long w103, .int v104, .int v106, .int v107, .int v108, .ref (ad 6), .ref (ad 7), .ref (ad 8), .ref (ad 9), .ref (ad 10), .ref (ad 11), .ref (ad 12), .ref (ad 13), .ref (ad 14), .ref (ad 15), .int v109, .int v111, .ref (ad 16), .int v113, .int v115, .int v117, .int v119, .int v120, .ref (ad 17), .ref (ad 18), .int v121, .ref (ad 19)]) := (up_ne eS141 (by decide) c137)
  refine xget E hQ 0 (by decide) c144 rfl 20 (by decide) q1488 rfl dX12_copyShore_44 ?_
  refine lv_bipush (v := 24) hx hb dX12_copyShore_47 (by decide) ?_
  refine lv_iload_n hx hb dX12_copyShore_49 rfl (lv_at hl 1 rfl) ?_
  refine lv_iload_n hx hb dX12_copyShore_50 rfl (lv_at hl 2 rfl) ?_
  obtain ⟨f145, c146⟩ := invM_10 hI
  refine xcSv E hs hQ hml hl.1 (uCopyRow l g ad 20 hD S141 10 (by decide) 120 (by decide) f145 24 1 0 (by decide) (by decide) (by decide) c146) mX12_copyRow q1743 rfl ⟨(Nat.le_of_ble_eq_true rfl), (Nat.le_of_ble_eq_true rfl)⟩ ⟨(Nat.le_of_ble_eq_true rfl), (Nat.le_of_ble_eq_true rfl)⟩ (Nat.le_of_ble_eq_true rfl) rfl dX12_copyShore_51 (fun S148 H locs eS148 hQ => ?_)
  have hI := invM_up_10 hI eS148 ⟨_, rfl⟩
  have c149 : S148 10 = .inl (g.2 0, 120, .inl (cpF f145 24 1 0 24)) := up_at eS148 rfl
  refine lv_aload_n hx hb dX12_copyShore_54 rfl (lv_at hl 0 rfl) ?_
  have c150 : S148 0 = .inr (12, [.int v94, .ref (ad 1), .ref (ad 2), .ref (ad 3), .ref (ad 4), .ref (ad 5), .int v95, .int v97, .int v99, .int v101, .int v102, .long w103, .int v104, .int v106, .int v107, .int v108, .ref (ad 6), .ref (ad 7), .ref (ad 8), .ref (ad 9), .ref (ad 10), .ref (ad 11), .ref (ad 12), .ref (ad 13), .ref (ad 14), .ref (ad 15), .int v109, .int v111, .ref (ad 16), .int v113, .int v115, .int v117, .int v119, .int v120, .ref (ad 17), .ref (ad 18), .int v121, .ref (ad 19)]) := (up_ne eS148 (by decide) c144)
  refine xget E hQ 0 (by decide) c150 rfl 21 (by decide) q1489 rfl dX12_copyShore_55 ?_
  refine lv_iconst (v := 3) hx hb dX12_copyShore_58 (by decide) ?_
  refine lv_iload_n hx hb dX12_copyShore_59 rfl (lv_at hl 1 rfl) ?_
  refine lv_iload_n hx hb dX12_copyShore_60 rfl (lv_at hl 2 rfl) ?_
  obtain ⟨f151, c152, b153⟩ := invM_11 hI
  refine xcSv E hs hQ hml hl.1 (uCopyRow l g ad 20 hD S148 11 (by decide) 15 (by decide) f151 3 1 0 (by decide) (by decide) (by decide) c152) mX12_copyRow q1743 rfl ⟨(Nat.le_of_ble_eq_true rfl), (Nat.le_of_ble_eq_true rfl)⟩ ⟨(Nat.le_of_ble_eq_true rfl), (Nat.le_of_ble_eq_true rfl)⟩ (Nat.le_of_ble_eq_true rfl) rfl dX12_copyShore_61 (fun S154 H locs eS154 hQ => ?_)
  have hI := invM_up_11 hI eS154 ⟨_, rfl, cp_b b153⟩
  have b156 : ∀ j, Bd ((cpF f151 3 1 0 3) j) (0) (11) := cp_b b153
  have c155 : S154 11 = .inl (g.2 0, 15, .inl (cpF f151 3 1 0 3)) := up_at eS154 rfl
  refine lv_aload_n hx hb dX12_copyShore_64 rfl (lv_at hl 0 rfl) ?_
  have c157 : S154 0 = .inr (12, [.int v94, .ref (ad 1), .ref (ad 2), .ref (ad 3), .ref (ad 4), .ref (ad 5), .int v95, .int v97, .int v99, .int v101, .int v102, .long w103, .int v104, .int v106, .int v107, .int v108, .ref (ad 6), .ref (ad 7), .ref (ad 8), .ref (ad 9), .ref (ad 10), .ref (ad 11), .ref (ad 12), .ref (ad 13), .ref (ad 14), .ref (ad 15), .int v109, .int v111, .ref (ad 16), .int v113, .int v115, .int v117, .int v119, .int v120, .ref (ad 17), .ref (ad 18), .int v121, .ref (ad 19)]) := (up_ne eS154 (by decide) c150)
  refine xget E hQ 0 (by decide) c157 rfl 22 (by decide) q1490 rfl dX12_copyShore_65 ?_
  refine lv_sipush (v := 160) hx hb dX12_copyShore_68 (by decide) ?_
  refine lv_iload_n hx hb dX12_copyShore_71 rfl (lv_at hl 1 rfl) ?_
  refine lv_iload_n hx hb dX12_copyShore_72 rfl (lv_at hl 2 rfl) ?_
  have c158 : S154 12 = .inl (g.2 0, 800, .inl f91) := (up_ne eS154 (by decide) (up_ne eS148 (by decide) (up_ne eS141 (by decide) (up_ne eS135 (by decide) (up_ne eS128 (by decide) (up_ne eS123 (by decide) c92))))))
  refine xcSv E hs hQ hml hl.1 (uCopyRow l g ad 20 hD S154 12 (by decide) 800 (by decide) f91 160 1 0 (by decide) (by decide) (by decide) c158) mX12_copyRow q1743 rfl ⟨(Nat.le_of_ble_eq_true rfl), (Nat.le_of_ble_eq_true rfl)⟩ ⟨(Nat.le_of_ble_eq_true rfl), (Nat.le_of_ble_eq_true rfl)⟩ (Nat.le_of_ble_eq_true rfl) rfl dX12_copyShore_73 (fun S159 H locs eS159 hQ => ?_)
  have hI := invM_up_12 hI eS159 ⟨_, rfl, ⟨cp_m (q := 40) b93.1 (by decide), cp_m (q := 40) b93.2 (by decide)⟩⟩
  have b161 : (∀ j, j % 4 = 1 → Bd ((cpF f91 160 1 0 160) j) (0) (7)) ∧ (∀ j, j % 4 = 2 → Bd ((cpF f91 160 1 0 160) j) (0) (400)) := ⟨cp_m (q := 40) b93.1 (by decide), cp_m (q := 40) b93.2 (by decide)⟩
  have c160 : S159 12 = .inl (g.2 0, 800, .inl (cpF f91 160 1 0 160)) := up_at eS159 rfl
  have q162 : elm (S 7) 10 = v4.toInt := (elm_of c2 10).trans (congrArg Int32.toInt (ee5))
  have c163 : S159 7 = .inl (g.2 0, 50, .inl (cpF f1 10 1 0 10)) := (up_ne eS159 (by decide) (up_ne eS154 (by decide) (up_ne eS148 (by decide) (up_ne eS141 (by decide) (up_ne eS135 (by decide) c129)))))
  have q164 : elm (S159 7) 0 = v4.toInt := (elm_of c163 0).trans (congrArg Int32.toInt (((show cpF f1 10 1 0 10 0 = f1 10 from rfl).trans (ee5))))
  have q165 : elm (S 7) 11 = v10.toInt := (elm_of c2 11).trans (congrArg Int32.toInt (ee11))
  have q166 : elm (S159 7) 1 = v10.toInt := (elm_of c163 1).trans (congrArg Int32.toInt (((show cpF f1 10 1 0 10 1 = f1 11 from rfl).trans (ee11))))
  have q167 : elm (S 7) 13 = v16.toInt := (elm_of c2 13).trans (congrArg Int32.toInt (ee17))
  have q168 : elm (S159 7) 3 = v16.toInt := (elm_of c163 3).trans (congrArg Int32.toInt (((show cpF f1 10 1 0 10 3 = f1 13 from rfl).trans (ee17))))
  have q169 : elm (S 7) 16 = v22.toInt := (elm_of c2 16).trans (congrArg Int32.toInt (ee23))
  have q170 : elm (S159 7) 6 = v22.toInt := (elm_of c163 6).trans (congrArg Int32.toInt (((show cpF f1 10 1 0 10 6 = f1 16 from rfl).trans (ee23))))
  have q171 : elm (S 7) 18 = v28.toInt := (elm_of c2 18).trans (congrArg Int32.toInt (ee29))
  have q172 : elm (S159 7) 8 = v28.toInt := (elm_of c163 8).trans (congrArg Int32.toInt (((show cpF f1 10 1 0 10 8 = f1 18 from rfl).trans (ee29))))
  have q173 : elm (S 7) 19 = v34.toInt := (elm_of c2 19).trans (congrArg Int32.toInt (ee35))
  have q174 : elm (S159 7) 9 = v34.toInt := (elm_of c163 9).trans (congrArg Int32.toInt (((show cpF f1 10 1 0 10 9 = f1 19 from rfl).trans (ee35))))
  have q175 : elm (S159 7) 10 = v4.toInt := (elm_of c163 10).trans (congrArg Int32.toInt (((show cpF f1 10 1 0 10 10 = f1 10 from rfl).trans (ee5))))
  have q176 : elm (S159 7) 11 = v10.toInt := (elm_of c163 11).trans (congrArg Int32.toInt (((show cpF f1 10 1 0 10 11 = f1 11 from rfl).trans (ee11))))
  have q177 : elm (S159 7) 13 = v16.toInt := (elm_of c163 13).trans (congrArg Int32.toInt (((show cpF f1 10 1 0 10 13 = f1 13 from rfl).trans (ee17))))
  have q178 : elm (S159 7) 16 = v22.toInt := (elm_of c163 16).trans (congrArg Int32.toInt (((show cpF f1 10 1 0 10 16 = f1 16 from rfl).trans (ee23))))
  have q179 : elm (S159 7) 18 = v28.toInt := (elm_of c163 18).trans (congrArg Int32.toInt (((show cpF f1 10 1 0 10 18 = f1 18 from rfl).trans (ee29))))
  have q180 : elm (S159 7) 19 = v34.toInt := (elm_of c163 19).trans (congrArg Int32.toInt (((show cpF f1 10 1 0 10 19 = f1 19 from rfl).trans (ee35))))
  have q181 : elm (S 7) 20 = v40.toInt := (elm_of c2 20).trans (congrArg Int32.toInt (ee41))
  have q182 : elm (S159 7) 20 = v40.toInt := (elm_of c163 20).trans (congrArg Int32.toInt (((show cpF f1 10 1 0 10 20 = f1 20 from rfl).trans (ee41))))
  have q183 : elm (S 7) 21 = v43.toInt := (elm_of c2 21).trans (congrArg Int32.toInt (ee44))
  have q184 : elm (S159 7) 21 = v43.toInt := (elm_of c163 21).trans (congrArg Int32.toInt (((show cpF f1 10 1 0 10 21 = f1 21 from rfl).trans (ee44))))
  have q185 : elm (S 7) 23 = v46.toInt := (elm_of c2 23).trans (congrArg Int32.toInt (ee47))
  have q186 : elm (S159 7) 23 = v46.toInt := (elm_of c163 23).trans (congrArg Int32.toInt (((show cpF f1 10 1 0 10 23 = f1 23 from rfl).trans (ee47))))
  have q187 : elm (S 7) 26 = v49.toInt := (elm_of c2 26).trans (congrArg Int32.toInt (ee50))
  have q188 : elm (S159 7) 26 = v49.toInt := (elm_of c163 26).trans (congrArg Int32.toInt (((show cpF f1 10 1 0 10 26 = f1 26 from rfl).trans (ee50))))
  have q189 : elm (S 7) 28 = v52.toInt := (elm_of c2 28).trans (congrArg Int32.toInt (ee53))
  have q190 : elm (S159 7) 28 = v52.toInt := (elm_of c163 28).trans (congrArg Int32.toInt (((show cpF f1 10 1 0 10 28 = f1 28 from rfl).trans (ee53))))
  have q191 : elm (S 7) 29 = v55.toInt := (elm_of c2 29).trans (congrArg Int32.toInt (ee56))
  have q192 : elm (S159 7) 29 = v55.toInt := (elm_of c163 29).trans (congrArg Int32.toInt (((show cpF f1 10 1 0 10 29 = f1 29 from rfl).trans (ee56))))
  have q193 : elm (S 7) 30 = v58.toInt := (elm_of c2 30).trans (congrArg Int32.toInt (ee59))
  have q194 : elm (S159 7) 30 = v58.toInt := (elm_of c163 30).trans (congrArg Int32.toInt (((show cpF f1 10 1 0 10 30 = f1 30 from rfl).trans (ee59))))
  have q195 : elm (S 7) 31 = v61.toInt := (elm_of c2 31).trans (congrArg Int32.toInt (ee62))
  have q196 : elm (S159 7) 31 = v61.toInt := (elm_of c163 31).trans (congrArg Int32.toInt (((show cpF f1 10 1 0 10 31 = f1 31 from rfl).trans (ee62))))
  have q197 : elm (S 7) 33 = v64.toInt := (elm_of c2 33).trans (congrArg Int32.toInt (ee65))
  have q198 : elm (S159 7) 33 = v64.toInt := (elm_of c163 33).trans (congrArg Int32.toInt (((show cpF f1 10 1 0 10 33 = f1 33 from rfl).trans (ee65))))
  have q199 : elm (S 7) 36 = v67.toInt := (elm_of c2 36).trans (congrArg Int32.toInt (ee68))
  have q200 : elm (S159 7) 36 = v67.toInt := (elm_of c163 36).trans (congrArg Int32.toInt (((show cpF f1 10 1 0 10 36 = f1 36 from rfl).trans (ee68))))
  have q201 : elm (S 7) 38 = v70.toInt := (elm_of c2 38).trans (congrArg Int32.toInt (ee71))
  have q202 : elm (S159 7) 38 = v70.toInt := (elm_of c163 38).trans (congrArg Int32.toInt (((show cpF f1 10 1 0 10 38 = f1 38 from rfl).trans (ee71))))
  have q203 : elm (S 7) 39 = v73.toInt := (elm_of c2 39).trans (congrArg Int32.toInt (ee74))
  have q204 : elm (S159 7) 39 = v73.toInt := (elm_of c163 39).trans (congrArg Int32.toInt (((show cpF f1 10 1 0 10 39 = f1 39 from rfl).trans (ee74))))
  have q205 : elm (S 6) 1 = v79.toInt := (elm_of c77 1).trans (congrArg Int32.toInt (ee80))
  have c206 : S159 6 = .inl (g.2 0, 5, .inl (cpF f76 1 1 0 1)) := (up_ne eS159 (by decide) (up_ne eS154 (by decide) (up_ne eS148 (by decide) (up_ne eS141 (by decide) (up_ne eS135 (by decide) (up_ne eS128 (by decide) c124))))))
  have q207 : elm (S159 6) 0 = v79.toInt := (elm_of c206 0).trans (congrArg Int32.toInt (((show cpF f76 1 1 0 1 0 = f76 1 from rfl).trans (ee80))))
  have q208 : elm (S159 6) 1 = v79.toInt := (elm_of c206 1).trans (congrArg Int32.toInt (((show cpF f76 1 1 0 1 1 = f76 1 from rfl).trans (ee80))))
  have q209 : elm (S 6) 2 = v85.toInt := (elm_of c77 2).trans (congrArg Int32.toInt (ee86))
  have q210 : elm (S159 6) 2 = v85.toInt := (elm_of c206 2).trans (congrArg Int32.toInt (((show cpF f76 1 1 0 1 2 = f76 2 from rfl).trans (ee86))))
  have q211 : elm (S 6) 3 = v88.toInt := (elm_of c77 3).trans (congrArg Int32.toInt (ee89))
  have q212 : elm (S159 6) 3 = v88.toInt := (elm_of c206 3).trans (congrArg Int32.toInt (((show cpF f76 1 1 0 1 3 = f76 3 from rfl).trans (ee89))))
  exact xrv E hr hlk hQ (⟨hI, (up_o (up_o (up_o (up_o (up_o (up_o (up_o o_refl eS123 (by decide)) eS128 (by decide)) eS135 (by decide)) eS141 (by decide)) eS148 (by decide)) eS154 (by decide)) eS159 (by decide)), ⟨by omega, by omega⟩, ⟨by omega, by omega⟩, ⟨by omega, by omega⟩, ⟨by omega, by omega⟩, ⟨by omega, by omega⟩, ⟨by omega, by omega⟩, ⟨by omega, by omega⟩, ⟨by omega, by omega⟩, ⟨by omega, by omega⟩, ⟨by omega, by omega⟩, ⟨by omega, by omega⟩, ⟨by omega, by omega⟩, ⟨by omega, by omega⟩, ⟨by omega, by omega⟩, ⟨by omega, by omega⟩, ⟨by omega, by omega⟩, ⟨by omega, by omega⟩, ⟨by omega, by omega⟩, ⟨by omega, by omega⟩, ⟨by omega, by omega⟩, ⟨by omega, by omega⟩, ⟨by omega, by omega⟩, ⟨by omega, by omega⟩, ⟨by omega, by omega⟩, ⟨by omega, by omega⟩, ⟨by omega, by omega⟩, ⟨by omega, by omega⟩, ⟨by omega, by omega⟩, (at_cpb c2 c92 c163 c160 b3.2.2.2.2.2.2.2 hAT1), (at_cpo c2 c92 c163 c160 b3.2.2.2.2.2.2.2 (by decide) hAT1), (at_cpo c2 c92 c163 c160 b3.2.2.2.2.2.2.2 (by decide) hAT2), (at_cpo c2 c92 c163 c160 b3.2.2.2.2.2.2.2 (by decide) hAT3)⟩) dX12_copyShore_76
set_option maxHeartbeats 4000000 in
set_option maxRecDepth 100000 in
theorem gX12_copyShore_2_0 (l : Launch) (g : GG) (ad : Nat → Nat) (hD : Dj ad 20) (S : SS) (hI : InvM g ad S) (hAT0 : ATp (S 7) (S 12) 0) (hAT1 : ATp (S 7) (S 12) 1) (hAT2 : ATp (S 7) (S 12) 2) (hAT3 : ATp (S 7) (S 12) 3) : Met l yX12_copyShore (wG (.code yX12_copyShore cX12_copyShore 3 none)) (Rm 1) (XPre g ad 20 S [.ref (ad 0), .int 2, .int 0]) (va_Qv (fun S' => InvM g ad S' ∧ (∀ j, j ∉ ([6, 7, 8, 9, 10, 11, 12] : List Nat) → S' j = S j) ∧ (0 ≤ elm (S 7) 20 + (-1) * elm (S' 7) 0 ∧ 0 ≤ elm (S' 7) 0 + (-1) * elm (S 7) 20) ∧ (0 ≤ elm (S 7) 21 + (-1) * elm (S' 7) 1 ∧ 0 ≤ elm (S' 7) 1 + (-1) * elm (S 7) 21) ∧ (0 ≤ elm (S 7) 23 + (-1) * elm (S' 7) 3 ∧ 0 ≤ elm (S' 7) 3 + (-1) * elm (S 7) 23) ∧ (0 ≤ elm (S 7) 26 + (-1) * elm (S' 7) 6 ∧ 0 ≤ elm (S' 7) 6 + (-1) * elm (S 7) 26) ∧ (0 ≤ elm (S 7) 28 + (-1) * elm (S' 7) 8 ∧ 0 ≤ elm (S' 7) 8 + (-1) * elm (S 7) 28) ∧ (0 ≤ elm (S 7) 29 + (-1) * elm (S' 7) 9 ∧ 0 ≤ elm (S' 7) 9 + (-1) * elm (S 7) 29) ∧ (0 ≤ elm (S 7) 10 + (-1) * elm (S' 7) 10 ∧ 0 ≤ elm (S' 7) 10 + (-1) * elm (S 7) 10) ∧ (0 ≤ elm (S 7) 11 + (-1) * elm (S' 7) 11 ∧ 0 ≤ elm (S' 7) 11 + (-1) * elm (S 7) 11) ∧ (0 ≤ elm (S 7) 13 + (-1) * elm (S' 7) 13 ∧ 0 ≤ elm (S' 7) 13 + (-1) * elm (S 7) 13) ∧ (0 ≤ elm (S 7) 16 + (-1) * elm (S' 7) 16 ∧ 0 ≤ elm (S' 7) 16 + (-1) * elm (S 7) 16) ∧ (0 ≤ elm (S 7) 18 + (-1) * elm (S' 7) 18 ∧ 0 ≤ elm (S' 7) 18 + (-1) * elm (S 7) 18) ∧ (0 ≤ elm (S 7) 19 + (-1) * elm (S' 7) 19 ∧ 0 ≤ elm (S' 7) 19 + (-1) * elm (S 7) 19) ∧ (0 ≤ elm (S 7) 20 + (-1) * elm (S' 7) 20 ∧ 0 ≤ elm (S' 7) 20 + (-1) * elm (S 7) 20) ∧ (0 ≤ elm (S 7) 21 + (-1) * elm (S' 7) 21 ∧ 0 ≤ elm (S' 7) 21 + (-1) * elm (S 7) 21) ∧ (0 ≤ elm (S 7) 23 + (-1) * elm (S' 7) 23 ∧ 0 ≤ elm (S' 7) 23 + (-1) * elm (S 7) 23) ∧ (0 ≤ elm (S 7) 26 + (-1) * elm (S' 7) 26 ∧ 0 ≤ elm (S' 7) 26 + (-1) * elm (S 7) 26) ∧ (0 ≤ elm (S 7) 28 + (-1) * elm (S' 7) 28 ∧ 0 ≤ elm (S' 7) 28 + (-1) * elm (S 7) 28) ∧ (0 ≤ elm (S 7) 29 + (-1) * elm (S' 7) 29 ∧ 0 ≤ elm (S' 7) 29 + (-1) * elm (S 7) 29) ∧ (0 ≤ elm (S 7) 30 + (-1) * elm (S' 7) 30 ∧ 0 ≤ elm (S' 7) 30 + (-1) * elm (S 7) 30) ∧ (0 ≤ elm (S 7) 31 + (-1) * elm (S' 7) 31 ∧ 0 ≤ elm (S' 7) 31 + (-1) * elm (S 7) 31) ∧ (0 ≤ elm (S 7) 33 + (-1) * elm (S' 7) 33 ∧ 0 ≤ elm (S' 7) 33 + (-1) * elm (S 7) 33) ∧ (0 ≤ elm (S 7) 36 + (-1) * elm (S' 7) 36 ∧ 0 ≤ elm (S' 7) 36 + (-1) * elm (S 7) 36) ∧ (0 ≤ elm (S 7) 38 + (-1) * elm (S' 7) 38 ∧ 0 ≤ elm (S' 7) 38 + (-1) * elm (S 7) 38) ∧ (0 ≤ elm (S 7) 39 + (-1) * elm (S' 7) 39 ∧ 0 ≤ elm (S' 7) 39 + (-1) * elm (S 7) 39) ∧ (0 ≤ elm (S 6) 2 + (-1) * elm (S' 6) 0 ∧ 0 ≤ elm (S' 6) 0 + (-1) * elm (S 6) 2) ∧ (0 ≤ elm (S 6) 1 + (-1) * elm (S' 6) 1 ∧ 0 ≤ elm (S' 6) 1 + (-1) * elm (S 6) 1) ∧ (0 ≤ elm (S 6) 2 + (-1) * elm (S' 6) 2 ∧ 0 ≤ elm (S' 6) 2 + (-1) * elm (S 6) 2) ∧ (0 ≤ elm (S 6) 3 + (-1) * elm (S' 6) 3 ∧ 0 ≤ elm (S' 6) 3 + (-1) * elm (S 6) 3) ∧ (ATp (S' 7) (S' 12) 0) ∧ (ATp (S' 7) (S' 12) 1) ∧ (ATp (S' 7) (S' 12) 2) ∧ (ATp (S' 7) (S' 12) 3)) (QB g ad 20) (FA ad 20)) 0 0 (FA ad 20) := by
  refine xmet cX12_copyShore "EbbWreckModel" (by decide) rfl (Nat.le_of_ble_eq_true rfl) (fun p e s m below meth c E hr hlk hml hQ ls hl => ?_)
  have hx := E.1
  have hb := E.2.1
  have hs : Sp ad 20 (FA ad 20) := Sp.fa hD
  have hl : lv_has ls 3 [(0, .ref (ad 0)), (1, .int 2), (2, .int 0)] := hl
  obtain ⟨f1, c2, b3⟩ := invM_7 hI
  obtain ⟨v4, ee5⟩ : ∃ z : Int32, f1 20 = z := ⟨_, rfl⟩
  have b6 : Bd v4 (0) (12) := (by rw [← ee5]; exact b3.1 20 (by decide))
  obtain ⟨v7, ee8⟩ : ∃ z : Int32, f1 0 = z := ⟨_, rfl⟩
  have b9 : Bd v7 (0) (12) := (by rw [← ee8]; exact b3.1 0 (by decide))
  obtain ⟨v10, ee11⟩ : ∃ z : Int32, f1 21 = z := ⟨_, rfl⟩
  have b12 : Bd v10 (0) (12) := (by rw [← ee11]; exact b3.2.1 21 (by decide))
  obtain ⟨v13, ee14⟩ : ∃ z : Int32, f1 1 = z := ⟨_, rfl⟩
  have b15 : Bd v13 (0) (12) := (by rw [← ee14]; exact b3.2.1 1 (by decide))
  obtain ⟨v16, ee17⟩ : ∃ z : Int32, f1 23 = z := ⟨_, rfl⟩
  have b18 : Bd v16 (0) (12) := (by rw [← ee17]; exact b3.2.2.2.1 23 (by decide))
  obtain ⟨v19, ee20⟩ : ∃ z : Int32, f1 3 = z := ⟨_, rfl⟩
  have b21 : Bd v19 (0) (12) := (by rw [← ee20]; exact b3.2.2.2.1 3 (by decide))
  obtain ⟨v22, ee23⟩ : ∃ z : Int32, f1 26 = z := ⟨_, rfl⟩
  have b24 : Bd v22 (0) (8) := (by rw [← ee23]; exact b3.2.2.2.2.1 26 (by decide))
  obtain ⟨v25, ee26⟩ : ∃ z : Int32, f1 6 = z := ⟨_, rfl⟩
  have b27 : Bd v25 (0) (8) := (by rw [← ee26]; exact b3.2.2.2.2.1 6 (by decide))
  obtain ⟨v28, ee29⟩ : ∃ z : Int32, f1 28 = z := ⟨_, rfl⟩
  have b30 : Bd v28 (0) (3) := (by rw [← ee29]; exact b3.2.2.2.2.2.2.1 28 (by decide))
  obtain ⟨v31, ee32⟩ : ∃ z : Int32, f1 8 = z := ⟨_, rfl⟩
  have b33 : Bd v31 (0) (3) := (by rw [← ee32]; exact b3.2.2.2.2.2.2.1 8 (by decide))
  obtain ⟨v34, ee35⟩ : ∃ z : Int32, f1 29 = z := ⟨_, rfl⟩
  have b36 : Bd v34 (0) (40) := (by rw [← ee35]; exact b3.2.2.2.2.2.2.2 29 (by decide))
  obtain ⟨v37, ee38⟩ : ∃ z : Int32, f1 9 = z := ⟨_, rfl⟩
  have b39 : Bd v37 (0) (40) := (by rw [← ee38]; exact b3.2.2.2.2.2.2.2 9 (by decide))
  obtain ⟨v40, ee41⟩ : ∃ z : Int32, f1 10 = z := ⟨_, rfl⟩
  have b42 : Bd v40 (0) (12) := (by rw [← ee41]; exact b3.1 10 (by decide))
  obtain ⟨v43, ee44⟩ : ∃ z : Int32, f1 11 = z := ⟨_, rfl⟩
  have b45 : Bd v43 (0) (12) := (by rw [← ee44]; exact b3.2.1 11 (by decide))
  obtain ⟨v46, ee47⟩ : ∃ z : Int32, f1 13 = z := ⟨_, rfl⟩
  have b48 : Bd v46 (0) (12) := (by rw [← ee47]; exact b3.2.2.2.1 13 (by decide))
  obtain ⟨v49, ee50⟩ : ∃ z : Int32, f1 16 = z := ⟨_, rfl⟩
  have b51 : Bd v49 (0) (8) := (by rw [← ee50]; exact b3.2.2.2.2.1 16 (by decide))
  obtain ⟨v52, ee53⟩ : ∃ z : Int32, f1 18 = z := ⟨_, rfl⟩
  have b54 : Bd v52 (0) (3) := (by rw [← ee53]; exact b3.2.2.2.2.2.2.1 18 (by decide))
  obtain ⟨v55, ee56⟩ : ∃ z : Int32, f1 19 = z := ⟨_, rfl⟩
  have b57 : Bd v55 (0) (40) := (by rw [← ee56]; exact b3.2.2.2.2.2.2.2 19 (by decide))
  obtain ⟨v58, ee59⟩ : ∃ z : Int32, f1 30 = z := ⟨_, rfl⟩
  have b60 : Bd v58 (0) (12) := (by rw [← ee59]; exact b3.1 30 (by decide))
  obtain ⟨v61, ee62⟩ : ∃ z : Int32, f1 31 = z := ⟨_, rfl⟩
  have b63 : Bd v61 (0) (12) := (by rw [← ee62]; exact b3.2.1 31 (by decide))
  obtain ⟨v64, ee65⟩ : ∃ z : Int32, f1 33 = z := ⟨_, rfl⟩
  have b66 : Bd v64 (0) (12) := (by rw [← ee65]; exact b3.2.2.2.1 33 (by decide))
  obtain ⟨v67, ee68⟩ : ∃ z : Int32, f1 36 = z := ⟨_, rfl⟩
  have b69 : Bd v67 (0) (8) := (by rw [← ee68]; exact b3.2.2.2.2.1 36 (by decide))
  obtain ⟨v70, ee71⟩ : ∃ z : Int32, f1 38 = z := ⟨_, rfl⟩
  have b72 : Bd v70 (0) (3) := (by rw [← ee71]; exact b3.2.2.2.2.2.2.1 38 (by decide))
  obtain ⟨v73, ee74⟩ : ∃ z : Int32, f1 39 = z := ⟨_, rfl⟩
  have b75 : Bd v73 (0) (40) := (by rw [← ee74]; exact b3.2.2.2.2.2.2.2 39 (by decide))
  obtain ⟨f76, c77, b78⟩ := invM_6 hI
  obtain ⟨v79, ee80⟩ : ∃ z : Int32, f76 2 = z := ⟨_, rfl⟩
  have b81 : Bd v79 (0) (40000) := (by rw [← ee80]; exact b78 2)
  obtain ⟨v82, ee83⟩ : ∃ z : Int32, f76 0 = z := ⟨_, rfl⟩
  have b84 : Bd v82 (0) (40000) := (by rw [← ee83]; exact b78 0)
  obtain ⟨v85, ee86⟩ : ∃ z : Int32, f76 1 = z := ⟨_, rfl⟩
  have b87 : Bd v85 (0) (40000) := (by rw [← ee86]; exact b78 1)
  obtain ⟨v88, ee89⟩ : ∃ z : Int32, f76 3 = z := ⟨_, rfl⟩
  have b90 : Bd v88 (0) (40000) := (by rw [← ee89]; exact b78 3)
  obtain ⟨f91, c92, b93⟩ := invM_12 hI
  refine lv_aload_n hx hb dX12_copyShore_0 rfl (lv_at hl 0 rfl) ?_
  obtain ⟨v94, v95, v97, v99, v101, v102, w103, v104, v106, v107, v108, v109, v111, v113, v115, v117, v119, v120, v121, c122, b96, b98, b100, b105, b110, b112, b114, b116, b118⟩ := invM_0 hI
  have c122 : S 0 = .inr (12, [.int v94, .ref (ad 1), .ref (ad 2), .ref (ad 3), .ref (ad 4), .ref (ad 5), .int v95, .int v97, .int v99, .int v101, .int v102, .long w103, .int v104, .int v106, .int v107, .int v108, .ref (ad 6), .ref (ad 7), .ref (ad 8), .ref (ad 9), .ref (ad 10), .ref (ad 11), .ref (ad 12), .ref (ad 13), .ref (ad 14), .ref (ad 15), .int v109, .int v111, .ref (ad 16), .int v113, .int v115, .int v117, .int v119, .int v120, .ref (ad 17), .ref (ad 18), .int v121, .ref (ad 19)]) := c122
  refine xget E hQ 0 (by decide) c122 rfl 16 (by decide) q1484 rfl dX12_copyShore_1 ?_
  refine lv_iconst (v := 1) hx hb dX12_copyShore_4 (by decide) ?_
  refine lv_iload_n hx hb dX12_copyShore_5 rfl (lv_at hl 1 rfl) ?_
  refine lv_iload_n hx hb dX12_copyShore_6 rfl (lv_at hl 2 rfl) ?_
  refine xcSv E hs hQ hml hl.1 (uCopyRow l g ad 20 hD S 6 (by decide) 5 (by decide) f76 1 2 0 (by decide) (by decide) (by decide) c77) mX12_copyRow q1743 rfl ⟨(Nat.le_of_ble_eq_true rfl), (Nat.le_of_ble_eq_true rfl)⟩ ⟨(Nat.le_of_ble_eq_true rfl), (Nat.le_of_ble_eq_true rfl)⟩ (Nat.le_of_ble_eq_true rfl) rfl dX12_copyShore_7 (fun S123 H locs eS123 hQ => ?_)
  have hI := invM_up_6 hI eS123 ⟨_, rfl, cp_b b78⟩
  have b125 : ∀ j, Bd ((cpF f76 1 2 0 1) j) (0) (40000) := cp_b b78
  have c124 : S123 6 = .inl (g.2 0, 5, .inl (cpF f76 1 2 0 1)) := up_at eS123 rfl
  refine lv_aload_n hx hb dX12_copyShore_10 rfl (lv_at hl 0 rfl) ?_
  have c126 : S123 0 = .inr (12, [.int v94, .ref (ad 1), .ref (ad 2), .ref (ad 3), .ref (ad 4), .ref (ad 5), .int v95, .int v97, .int v99, .int v101, .int v102, .long w103, .int v104, .int v106, .int v107, .int v108, .ref (ad 6), .ref (ad 7), .ref (ad 8), .ref (ad 9), .ref (ad 10), .ref (ad 11), .ref (ad 12), .ref (ad 13), .ref (ad 14), .ref (ad 15), .int v109, .int v111, .ref (ad 16), .int v113, .int v115, .int v117, .int v119, .int v120, .ref (ad 17), .ref (ad 18), .int v121, .ref (ad 19)]) := (up_ne eS123 (by decide) c122)
  refine xget E hQ 0 (by decide) c126 rfl 17 (by decide) q1485 rfl dX12_copyShore_11 ?_
  refine lv_bipush (v := 10) hx hb dX12_copyShore_14 (by decide) ?_
  refine lv_iload_n hx hb dX12_copyShore_16 rfl (lv_at hl 1 rfl) ?_
  refine lv_iload_n hx hb dX12_copyShore_17 rfl (lv_at hl 2 rfl) ?_
  have c127 : S123 7 = .inl (g.2 0, 50, .inl f1) := (up_ne eS123 (by decide) c2)
  refine xcSv E hs hQ hml hl.1 (uCopyRow l g ad 20 hD S123 7 (by decide) 50 (by decide) f1 10 2 0 (by decide) (by decide) (by decide) c127) mX12_copyRow q1743 rfl ⟨(Nat.le_of_ble_eq_true rfl), (Nat.le_of_ble_eq_true rfl)⟩ ⟨(Nat.le_of_ble_eq_true rfl), (Nat.le_of_ble_eq_true rfl)⟩ (Nat.le_of_ble_eq_true rfl) rfl dX12_copyShore_18 (fun S128 H locs eS128 hQ => ?_)
  have hI := invM_up_7 hI eS128 ⟨_, rfl, ⟨cp_m (q := 1) b3.1 (by decide), cp_m (q := 1) b3.2.1 (by decide), cp_m (q := 1) b3.2.2.1 (by decide), cp_m (q := 1) b3.2.2.2.1 (by decide), cp_m (q := 1) b3.2.2.2.2.1 (by decide), cp_m (q := 1) b3.2.2.2.2.2.1 (by decide), cp_m (q := 1) b3.2.2.2.2.2.2.1 (by decide), cp_m (q := 1) b3.2.2.2.2.2.2.2 (by decide)⟩⟩
  have b130 : (∀ j, j % 10 = 0 → Bd ((cpF f1 10 2 0 10) j) (0) (12)) ∧ (∀ j, j % 10 = 1 → Bd ((cpF f1 10 2 0 10) j) (0) (12)) ∧ (∀ j, j % 10 = 2 → Bd ((cpF f1 10 2 0 10) j) (0) (6)) ∧ (∀ j, j % 10 = 3 → Bd ((cpF f1 10 2 0 10) j) (0) (12)) ∧ (∀ j, j % 10 = 6 → Bd ((cpF f1 10 2 0 10) j) (0) (8)) ∧ (∀ j, j % 10 = 7 → Bd ((cpF f1 10 2 0 10) j) (0) (6)) ∧ (∀ j, j % 10 = 8 → Bd ((cpF f1 10 2 0 10) j) (0) (3)) ∧ (∀ j, j % 10 = 9 → Bd ((cpF f1 10 2 0 10) j) (0) (40)) := ⟨cp_m (q := 1) b3.1 (by decide), cp_m (q := 1) b3.2.1 (by decide), cp_m (q := 1) b3.2.2.1 (by decide), cp_m (q := 1) b3.2.2.2.1 (by decide), cp_m (q := 1) b3.2.2.2.2.1 (by decide), cp_m (q := 1) b3.2.2.2.2.2.1 (by decide), cp_m (q := 1) b3.2.2.2.2.2.2.1 (by decide), cp_m (q := 1) b3.2.2.2.2.2.2.2 (by decide)⟩
  have c129 : S128 7 = .inl (g.2 0, 50, .inl (cpF f1 10 2 0 10)) := up_at eS128 rfl
  refine lv_aload_n hx hb dX12_copyShore_21 rfl (lv_at hl 0 rfl) ?_
  have c131 : S128 0 = .inr (12, [.int v94, .ref (ad 1), .ref (ad 2), .ref (ad 3), .ref (ad 4), .ref (ad 5), .int v95, .int v97, .int v99, .int v101, .int v102, .long w103, .int v104, .int v106, .int v107, .int v108, .ref (ad 6), .ref (ad 7), .ref (ad 8), .ref (ad 9), .ref (ad 10), .ref (ad 11), .ref (ad 12), .ref (ad 13), .ref (ad 14), .ref (ad 15), .int v109, .int v111, .ref (ad 16), .int v113, .int v115, .int v117, .int v119, .int v120, .ref (ad 17), .ref (ad 18), .int v121, .ref (ad 19)]) := (up_ne eS128 (by decide) c126)
  refine xget E hQ 0 (by decide) c131 rfl 18 (by decide) q1486 rfl dX12_copyShore_22 ?_
  refine lv_bipush (v := 24) hx hb dX12_copyShore_25 (by decide) ?_
  refine lv_iload_n hx hb dX12_copyShore_27 rfl (lv_at hl 1 rfl) ?_
  refine lv_iload_n hx hb dX12_copyShore_28 rfl (lv_at hl 2 rfl) ?_
  obtain ⟨f132, c133⟩ := invM_8 hI
  refine xcSv E hs hQ hml hl.1 (uCopyRow l g ad 20 hD S128 8 (by decide) 120 (by decide) f132 24 2 0 (by decide) (by decide) (by decide) c133) mX12_copyRow q1743 rfl ⟨(Nat.le_of_ble_eq_true rfl), (Nat.le_of_ble_eq_true rfl)⟩ ⟨(Nat.le_of_ble_eq_true rfl), (Nat.le_of_ble_eq_true rfl)⟩ (Nat.le_of_ble_eq_true rfl) rfl dX12_copyShore_29 (fun S135 H locs eS135 hQ => ?_)
  have hI := invM_up_8 hI eS135 ⟨_, rfl⟩
  have c136 : S135 8 = .inl (g.2 0, 120, .inl (cpF f132 24 2 0 24)) := up_at eS135 rfl
  refine lv_aload_n hx hb dX12_copyShore_32 rfl (lv_at hl 0 rfl) ?_
  have c137 : S135 0 = .inr (12, [.int v94, .ref (ad 1), .ref (ad 2), .ref (ad 3), .ref (ad 4), .ref (ad 5), .int v95, .int v97, .int v99, .int v101, .int v102, .long w103, .int v104, .int v106, .int v107, .int v108, .ref (ad 6), .ref (ad 7), .ref (ad 8), .ref (ad 9), .ref (ad 10), .ref (ad 11), .ref (ad 12), .ref (ad 13), .ref (ad 14), .ref (ad 15), .int v109, .int v111, .ref (ad 16), .int v113, .int v115, .int v117, .int v119, .int v120, .ref (ad 17), .ref (ad 18), .int v121, .ref (ad 19)]) := (up_ne eS135 (by decide) c131)
  refine xget E hQ 0 (by decide) c137 rfl 19 (by decide) q1487 rfl dX12_copyShore_33 ?_
  refine lv_bipush (v := 24) hx hb dX12_copyShore_36 (by decide) ?_
  refine lv_iload_n hx hb dX12_copyShore_38 rfl (lv_at hl 1 rfl) ?_
  refine lv_iload_n hx hb dX12_copyShore_39 rfl (lv_at hl 2 rfl) ?_
  obtain ⟨f138, c139, b140⟩ := invM_9 hI
  refine xcSv E hs hQ hml hl.1 (uCopyRow l g ad 20 hD S135 9 (by decide) 120 (by decide) f138 24 2 0 (by decide) (by decide) (by decide) c139) mX12_copyRow q1743 rfl ⟨(Nat.le_of_ble_eq_true rfl), (Nat.le_of_ble_eq_true rfl)⟩ ⟨(Nat.le_of_ble_eq_true rfl), (Nat.le_of_ble_eq_true rfl)⟩ (Nat.le_of_ble_eq_true rfl) rfl dX12_copyShore_40 (fun S141 H locs eS141 hQ => ?_)
  have hI := invM_up_9 hI eS141 ⟨_, rfl, ⟨cp_m (q := 8) b140.1 (by decide), cp_m (q := 8) b140.2 (by decide)⟩⟩
  have b143 : (∀ j, j % 3 = 1 → Bd ((cpF f138 24 2 0 24) j) (0) (11)) ∧ (∀ j, j % 3 = 2 → Bd ((cpF f138 24 2 0 24) j) (0) (99)) := ⟨cp_m (q := 8) b140.1 (by decide), cp_m (q := 8) b140.2 (by decide)⟩
  have c142 : S141 9 = .inl (g.2 0, 120, .inl (cpF f138 24 2 0 24)) := up_at eS141 rfl
  refine lv_aload_n hx hb dX12_copyShore_43 rfl (lv_at hl 0 rfl) ?_
  have c144 : S141 0 = .inr (12, [.int v94, .ref (ad 1), .ref (ad 2), .ref (ad 3), .ref (ad 4), .ref (ad 5), .int v95, .int v97, .int v99, .int v101, .int v102, .long w103, .int v104, .int v106, .int v107, .int v108, .ref (ad 6), .ref (ad 7), .ref (ad 8), .ref (ad 9), .ref (ad 10), .ref (ad 11), .ref (ad 12), .ref (ad 13), .ref (ad 14), .ref (ad 15), .int v109, .int v111, .ref (ad 16), .int v113, .int v115, .int v117, .int v119, .int v120, .ref (ad 17), .ref (ad 18), .int v121, .ref (ad 19)]) := (up_ne eS141 (by decide) c137)
  refine xget E hQ 0 (by decide) c144 rfl 20 (by decide) q1488 rfl dX12_copyShore_44 ?_
  refine lv_bipush (v := 24) hx hb dX12_copyShore_47 (by decide) ?_
  refine lv_iload_n hx hb dX12_copyShore_49 rfl (lv_at hl 1 rfl) ?_
  refine lv_iload_n hx hb dX12_copyShore_50 rfl (lv_at hl 2 rfl) ?_
  obtain ⟨f145, c146⟩ := invM_10 hI
  refine xcSv E hs hQ hml hl.1 (uCopyRow l g ad 20 hD S141 10 (by decide) 120 (by decide) f145 24 2 0 (by decide) (by decide) (by decide) c146) mX12_copyRow q1743 rfl ⟨(Nat.le_of_ble_eq_true rfl), (Nat.le_of_ble_eq_true rfl)⟩ ⟨(Nat.le_of_ble_eq_true rfl), (Nat.le_of_ble_eq_true rfl)⟩ (Nat.le_of_ble_eq_true rfl) rfl dX12_copyShore_51 (fun S148 H locs eS148 hQ => ?_)
  have hI := invM_up_10 hI eS148 ⟨_, rfl⟩
  have c149 : S148 10 = .inl (g.2 0, 120, .inl (cpF f145 24 2 0 24)) := up_at eS148 rfl
  refine lv_aload_n hx hb dX12_copyShore_54 rfl (lv_at hl 0 rfl) ?_
  have c150 : S148 0 = .inr (12, [.int v94, .ref (ad 1), .ref (ad 2), .ref (ad 3), .ref (ad 4), .ref (ad 5), .int v95, .int v97, .int v99, .int v101, .int v102, .long w103, .int v104, .int v106, .int v107, .int v108, .ref (ad 6), .ref (ad 7), .ref (ad 8), .ref (ad 9), .ref (ad 10), .ref (ad 11), .ref (ad 12), .ref (ad 13), .ref (ad 14), .ref (ad 15), .int v109, .int v111, .ref (ad 16), .int v113, .int v115, .int v117, .int v119, .int v120, .ref (ad 17), .ref (ad 18), .int v121, .ref (ad 19)]) := (up_ne eS148 (by decide) c144)
  refine xget E hQ 0 (by decide) c150 rfl 21 (by decide) q1489 rfl dX12_copyShore_55 ?_
  refine lv_iconst (v := 3) hx hb dX12_copyShore_58 (by decide) ?_
  refine lv_iload_n hx hb dX12_copyShore_59 rfl (lv_at hl 1 rfl) ?_
  refine lv_iload_n hx hb dX12_copyShore_60 rfl (lv_at hl 2 rfl) ?_
  obtain ⟨f151, c152, b153⟩ := invM_11 hI
  refine xcSv E hs hQ hml hl.1 (uCopyRow l g ad 20 hD S148 11 (by decide) 15 (by decide) f151 3 2 0 (by decide) (by decide) (by decide) c152) mX12_copyRow q1743 rfl ⟨(Nat.le_of_ble_eq_true rfl), (Nat.le_of_ble_eq_true rfl)⟩ ⟨(Nat.le_of_ble_eq_true rfl), (Nat.le_of_ble_eq_true rfl)⟩ (Nat.le_of_ble_eq_true rfl) rfl dX12_copyShore_61 (fun S154 H locs eS154 hQ => ?_)
  have hI := invM_up_11 hI eS154 ⟨_, rfl, cp_b b153⟩
  have b156 : ∀ j, Bd ((cpF f151 3 2 0 3) j) (0) (11) := cp_b b153
  have c155 : S154 11 = .inl (g.2 0, 15, .inl (cpF f151 3 2 0 3)) := up_at eS154 rfl
  refine lv_aload_n hx hb dX12_copyShore_64 rfl (lv_at hl 0 rfl) ?_
  have c157 : S154 0 = .inr (12, [.int v94, .ref (ad 1), .ref (ad 2), .ref (ad 3), .ref (ad 4), .ref (ad 5), .int v95, .int v97, .int v99, .int v101, .int v102, .long w103, .int v104, .int v106, .int v107, .int v108, .ref (ad 6), .ref (ad 7), .ref (ad 8), .ref (ad 9), .ref (ad 10), .ref (ad 11), .ref (ad 12), .ref (ad 13), .ref (ad 14), .ref (ad 15), .int v109, .int v111, .ref (ad 16), .int v113, .int v115, .int v117, .int v119, .int v120, .ref (ad 17), .ref (ad 18), .int v121, .ref (ad 19)]) := (up_ne eS154 (by decide) c150)
  refine xget E hQ 0 (by decide) c157 rfl 22 (by decide) q1490 rfl dX12_copyShore_65 ?_
  refine lv_sipush (v := 160) hx hb dX12_copyShore_68 (by decide) ?_
  refine lv_iload_n hx hb dX12_copyShore_71 rfl (lv_at hl 1 rfl) ?_
  refine lv_iload_n hx hb dX12_copyShore_72 rfl (lv_at hl 2 rfl) ?_
  have c158 : S154 12 = .inl (g.2 0, 800, .inl f91) := (up_ne eS154 (by decide) (up_ne eS148 (by decide) (up_ne eS141 (by decide) (up_ne eS135 (by decide) (up_ne eS128 (by decide) (up_ne eS123 (by decide) c92))))))
  refine xcSv E hs hQ hml hl.1 (uCopyRow l g ad 20 hD S154 12 (by decide) 800 (by decide) f91 160 2 0 (by decide) (by decide) (by decide) c158) mX12_copyRow q1743 rfl ⟨(Nat.le_of_ble_eq_true rfl), (Nat.le_of_ble_eq_true rfl)⟩ ⟨(Nat.le_of_ble_eq_true rfl), (Nat.le_of_ble_eq_true rfl)⟩ (Nat.le_of_ble_eq_true rfl) rfl dX12_copyShore_73 (fun S159 H locs eS159 hQ => ?_)
  have hI := invM_up_12 hI eS159 ⟨_, rfl, ⟨cp_m (q := 40) b93.1 (by decide), cp_m (q := 40) b93.2 (by decide)⟩⟩
  have b161 : (∀ j, j % 4 = 1 → Bd ((cpF f91 160 2 0 160) j) (0) (7)) ∧ (∀ j, j % 4 = 2 → Bd ((cpF f91 160 2 0 160) j) (0) (400)) := ⟨cp_m (q := 40) b93.1 (by decide), cp_m (q := 40) b93.2 (by decide)⟩
  have c160 : S159 12 = .inl (g.2 0, 800, .inl (cpF f91 160 2 0 160)) := up_at eS159 rfl
  have q162 : elm (S 7) 20 = v4.toInt := (elm_of c2 20).trans (congrArg Int32.toInt (ee5))
  have c163 : S159 7 = .inl (g.2 0, 50, .inl (cpF f1 10 2 0 10)) := (up_ne eS159 (by decide) (up_ne eS154 (by decide) (up_ne eS148 (by decide) (up_ne eS141 (by decide) (up_ne eS135 (by decide) c129)))))
  have q164 : elm (S159 7) 0 = v4.toInt := (elm_of c163 0).trans (congrArg Int32.toInt (((show cpF f1 10 2 0 10 0 = f1 20 from rfl).trans (ee5))))
  have q165 : elm (S 7) 21 = v10.toInt := (elm_of c2 21).trans (congrArg Int32.toInt (ee11))
  have q166 : elm (S159 7) 1 = v10.toInt := (elm_of c163 1).trans (congrArg Int32.toInt (((show cpF f1 10 2 0 10 1 = f1 21 from rfl).trans (ee11))))
  have q167 : elm (S 7) 23 = v16.toInt := (elm_of c2 23).trans (congrArg Int32.toInt (ee17))
  have q168 : elm (S159 7) 3 = v16.toInt := (elm_of c163 3).trans (congrArg Int32.toInt (((show cpF f1 10 2 0 10 3 = f1 23 from rfl).trans (ee17))))
  have q169 : elm (S 7) 26 = v22.toInt := (elm_of c2 26).trans (congrArg Int32.toInt (ee23))
  have q170 : elm (S159 7) 6 = v22.toInt := (elm_of c163 6).trans (congrArg Int32.toInt (((show cpF f1 10 2 0 10 6 = f1 26 from rfl).trans (ee23))))
  have q171 : elm (S 7) 28 = v28.toInt := (elm_of c2 28).trans (congrArg Int32.toInt (ee29))
  have q172 : elm (S159 7) 8 = v28.toInt := (elm_of c163 8).trans (congrArg Int32.toInt (((show cpF f1 10 2 0 10 8 = f1 28 from rfl).trans (ee29))))
  have q173 : elm (S 7) 29 = v34.toInt := (elm_of c2 29).trans (congrArg Int32.toInt (ee35))
  have q174 : elm (S159 7) 9 = v34.toInt := (elm_of c163 9).trans (congrArg Int32.toInt (((show cpF f1 10 2 0 10 9 = f1 29 from rfl).trans (ee35))))
  have q175 : elm (S 7) 10 = v40.toInt := (elm_of c2 10).trans (congrArg Int32.toInt (ee41))
  have q176 : elm (S159 7) 10 = v40.toInt := (elm_of c163 10).trans (congrArg Int32.toInt (((show cpF f1 10 2 0 10 10 = f1 10 from rfl).trans (ee41))))
  have q177 : elm (S 7) 11 = v43.toInt := (elm_of c2 11).trans (congrArg Int32.toInt (ee44))
  have q178 : elm (S159 7) 11 = v43.toInt := (elm_of c163 11).trans (congrArg Int32.toInt (((show cpF f1 10 2 0 10 11 = f1 11 from rfl).trans (ee44))))
  have q179 : elm (S 7) 13 = v46.toInt := (elm_of c2 13).trans (congrArg Int32.toInt (ee47))
  have q180 : elm (S159 7) 13 = v46.toInt := (elm_of c163 13).trans (congrArg Int32.toInt (((show cpF f1 10 2 0 10 13 = f1 13 from rfl).trans (ee47))))
  have q181 : elm (S 7) 16 = v49.toInt := (elm_of c2 16).trans (congrArg Int32.toInt (ee50))
  have q182 : elm (S159 7) 16 = v49.toInt := (elm_of c163 16).trans (congrArg Int32.toInt (((show cpF f1 10 2 0 10 16 = f1 16 from rfl).trans (ee50))))
  have q183 : elm (S 7) 18 = v52.toInt := (elm_of c2 18).trans (congrArg Int32.toInt (ee53))
  have q184 : elm (S159 7) 18 = v52.toInt := (elm_of c163 18).trans (congrArg Int32.toInt (((show cpF f1 10 2 0 10 18 = f1 18 from rfl).trans (ee53))))
  have q185 : elm (S 7) 19 = v55.toInt := (elm_of c2 19).trans (congrArg Int32.toInt (ee56))
  have q186 : elm (S159 7) 19 = v55.toInt := (elm_of c163 19).trans (congrArg Int32.toInt (((show cpF f1 10 2 0 10 19 = f1 19 from rfl).trans (ee56))))
  have q187 : elm (S159 7) 20 = v4.toInt := (elm_of c163 20).trans (congrArg Int32.toInt (((show cpF f1 10 2 0 10 20 = f1 20 from rfl).trans (ee5))))
  have q188 : elm (S159 7) 21 = v10.toInt := (elm_of c163 21).trans (congrArg Int32.toInt (((show cpF f1 10 2 0 10 21 = f1 21 from rfl).trans (ee11))))
  have q189 : elm (S159 7) 23 = v16.toInt := (elm_of c163 23).trans (congrArg Int32.toInt (((show cpF f1 10 2 0 10 23 = f1 23 from rfl).trans (ee17))))
  have q190 : elm (S159 7) 26 = v22.toInt := (elm_of c163 26).trans (congrArg Int32.toInt (((show cpF f1 10 2 0 10 26 = f1 26 from rfl).trans (ee23))))
  have q191 : elm (S159 7) 28 = v28.toInt := (elm_of c163 28).trans (congrArg Int32.toInt (((show cpF f1 10 2 0 10 28 = f1 28 from rfl).trans (ee29))))
  have q192 : elm (S159 7) 29 = v34.toInt := (elm_of c163 29).trans (congrArg Int32.toInt (((show cpF f1 10 2 0 10 29 = f1 29 from rfl).trans (ee35))))
  have q193 : elm (S 7) 30 = v58.toInt := (elm_of c2 30).trans (congrArg Int32.toInt (ee59))
  have q194 : elm (S159 7) 30 = v58.toInt := (elm_of c163 30).trans (congrArg Int32.toInt (((show cpF f1 10 2 0 10 30 = f1 30 from rfl).trans (ee59))))
  have q195 : elm (S 7) 31 = v61.toInt := (elm_of c2 31).trans (congrArg Int32.toInt (ee62))
  have q196 : elm (S159 7) 31 = v61.toInt := (elm_of c163 31).trans (congrArg Int32.toInt (((show cpF f1 10 2 0 10 31 = f1 31 from rfl).trans (ee62))))
  have q197 : elm (S 7) 33 = v64.toInt := (elm_of c2 33).trans (congrArg Int32.toInt (ee65))
  have q198 : elm (S159 7) 33 = v64.toInt := (elm_of c163 33).trans (congrArg Int32.toInt (((show cpF f1 10 2 0 10 33 = f1 33 from rfl).trans (ee65))))
  have q199 : elm (S 7) 36 = v67.toInt := (elm_of c2 36).trans (congrArg Int32.toInt (ee68))
  have q200 : elm (S159 7) 36 = v67.toInt := (elm_of c163 36).trans (congrArg Int32.toInt (((show cpF f1 10 2 0 10 36 = f1 36 from rfl).trans (ee68))))
  have q201 : elm (S 7) 38 = v70.toInt := (elm_of c2 38).trans (congrArg Int32.toInt (ee71))
  have q202 : elm (S159 7) 38 = v70.toInt := (elm_of c163 38).trans (congrArg Int32.toInt (((show cpF f1 10 2 0 10 38 = f1 38 from rfl).trans (ee71))))
  have q203 : elm (S 7) 39 = v73.toInt := (elm_of c2 39).trans (congrArg Int32.toInt (ee74))
  have q204 : elm (S159 7) 39 = v73.toInt := (elm_of c163 39).trans (congrArg Int32.toInt (((show cpF f1 10 2 0 10 39 = f1 39 from rfl).trans (ee74))))
  have q205 : elm (S 6) 2 = v79.toInt := (elm_of c77 2).trans (congrArg Int32.toInt (ee80))
  have c206 : S159 6 = .inl (g.2 0, 5, .inl (cpF f76 1 2 0 1)) := (up_ne eS159 (by decide) (up_ne eS154 (by decide) (up_ne eS148 (by decide) (up_ne eS141 (by decide) (up_ne eS135 (by decide) (up_ne eS128 (by decide) c124))))))
  have q207 : elm (S159 6) 0 = v79.toInt := (elm_of c206 0).trans (congrArg Int32.toInt (((show cpF f76 1 2 0 1 0 = f76 2 from rfl).trans (ee80))))
  have q208 : elm (S 6) 1 = v85.toInt := (elm_of c77 1).trans (congrArg Int32.toInt (ee86))
  have q209 : elm (S159 6) 1 = v85.toInt := (elm_of c206 1).trans (congrArg Int32.toInt (((show cpF f76 1 2 0 1 1 = f76 1 from rfl).trans (ee86))))
  have q210 : elm (S159 6) 2 = v79.toInt := (elm_of c206 2).trans (congrArg Int32.toInt (((show cpF f76 1 2 0 1 2 = f76 2 from rfl).trans (ee80))))
  have q211 : elm (S 6) 3 = v88.toInt := (elm_of c77 3).trans (congrArg Int32.toInt (ee89))
  have q212 : elm (S159 6) 3 = v88.toInt := (elm_of c206 3).trans (congrArg Int32.toInt (((show cpF f76 1 2 0 1 3 = f76 3 from rfl).trans (ee89))))
  exact xrv E hr hlk hQ (⟨hI, (up_o (up_o (up_o (up_o (up_o (up_o (up_o o_refl eS123 (by decide)) eS128 (by decide)) eS135 (by decide)) eS141 (by decide)) eS148 (by decide)) eS154 (by decide)) eS159 (by decide)), ⟨by omega, by omega⟩, ⟨by omega, by omega⟩, ⟨by omega, by omega⟩, ⟨by omega, by omega⟩, ⟨by omega, by omega⟩, ⟨by omega, by omega⟩, ⟨by omega, by omega⟩, ⟨by omega, by omega⟩, ⟨by omega, by omega⟩, ⟨by omega, by omega⟩, ⟨by omega, by omega⟩, ⟨by omega, by omega⟩, ⟨by omega, by omega⟩, ⟨by omega, by omega⟩, ⟨by omega, by omega⟩, ⟨by omega, by omega⟩, ⟨by omega, by omega⟩, ⟨by omega, by omega⟩, ⟨by omega, by omega⟩, ⟨by omega, by omega⟩, ⟨by omega, by omega⟩, ⟨by omega, by omega⟩, ⟨by omega, by omega⟩, ⟨by omega, by omega⟩, ⟨by omega, by omega⟩, ⟨by omega, by omega⟩, ⟨by omega, by omega⟩, ⟨by omega, by omega⟩, (at_cpb c2 c92 c163 c160 b3.2.2.2.2.2.2.2 hAT2), (at_cpo c2 c92 c163 c160 b3.2.2.2.2.2.2.2 (by decide) hAT1), (at_cpo c2 c92 c163 c160 b3.2.2.2.2.2.2.2 (by decide) hAT2), (at_cpo c2 c92 c163 c160 b3.2.2.2.2.2.2.2 (by decide) hAT3)⟩) dX12_copyShore_76
set_option maxHeartbeats 4000000 in
set_option maxRecDepth 100000 in
theorem gX12_copyShore_3_0 (l : Launch) (g : GG) (ad : Nat → Nat) (hD : Dj ad 20) (S : SS) (hI : InvM g ad S) (hAT0 : ATp (S 7) (S 12) 0) (hAT1 : ATp (S 7) (S 12) 1) (hAT2 : ATp (S 7) (S 12) 2) (hAT3 : ATp (S 7) (S 12) 3) : Met l yX12_copyShore (wG (.code yX12_copyShore cX12_copyShore 3 none)) (Rm 1) (XPre g ad 20 S [.ref (ad 0), .int 3, .int 0]) (va_Qv (fun S' => InvM g ad S' ∧ (∀ j, j ∉ ([6, 7, 8, 9, 10, 11, 12] : List Nat) → S' j = S j) ∧ (0 ≤ elm (S 7) 30 + (-1) * elm (S' 7) 0 ∧ 0 ≤ elm (S' 7) 0 + (-1) * elm (S 7) 30) ∧ (0 ≤ elm (S 7) 31 + (-1) * elm (S' 7) 1 ∧ 0 ≤ elm (S' 7) 1 + (-1) * elm (S 7) 31) ∧ (0 ≤ elm (S 7) 33 + (-1) * elm (S' 7) 3 ∧ 0 ≤ elm (S' 7) 3 + (-1) * elm (S 7) 33) ∧ (0 ≤ elm (S 7) 36 + (-1) * elm (S' 7) 6 ∧ 0 ≤ elm (S' 7) 6 + (-1) * elm (S 7) 36) ∧ (0 ≤ elm (S 7) 38 + (-1) * elm (S' 7) 8 ∧ 0 ≤ elm (S' 7) 8 + (-1) * elm (S 7) 38) ∧ (0 ≤ elm (S 7) 39 + (-1) * elm (S' 7) 9 ∧ 0 ≤ elm (S' 7) 9 + (-1) * elm (S 7) 39) ∧ (0 ≤ elm (S 7) 10 + (-1) * elm (S' 7) 10 ∧ 0 ≤ elm (S' 7) 10 + (-1) * elm (S 7) 10) ∧ (0 ≤ elm (S 7) 11 + (-1) * elm (S' 7) 11 ∧ 0 ≤ elm (S' 7) 11 + (-1) * elm (S 7) 11) ∧ (0 ≤ elm (S 7) 13 + (-1) * elm (S' 7) 13 ∧ 0 ≤ elm (S' 7) 13 + (-1) * elm (S 7) 13) ∧ (0 ≤ elm (S 7) 16 + (-1) * elm (S' 7) 16 ∧ 0 ≤ elm (S' 7) 16 + (-1) * elm (S 7) 16) ∧ (0 ≤ elm (S 7) 18 + (-1) * elm (S' 7) 18 ∧ 0 ≤ elm (S' 7) 18 + (-1) * elm (S 7) 18) ∧ (0 ≤ elm (S 7) 19 + (-1) * elm (S' 7) 19 ∧ 0 ≤ elm (S' 7) 19 + (-1) * elm (S 7) 19) ∧ (0 ≤ elm (S 7) 20 + (-1) * elm (S' 7) 20 ∧ 0 ≤ elm (S' 7) 20 + (-1) * elm (S 7) 20) ∧ (0 ≤ elm (S 7) 21 + (-1) * elm (S' 7) 21 ∧ 0 ≤ elm (S' 7) 21 + (-1) * elm (S 7) 21) ∧ (0 ≤ elm (S 7) 23 + (-1) * elm (S' 7) 23 ∧ 0 ≤ elm (S' 7) 23 + (-1) * elm (S 7) 23) ∧ (0 ≤ elm (S 7) 26 + (-1) * elm (S' 7) 26 ∧ 0 ≤ elm (S' 7) 26 + (-1) * elm (S 7) 26) ∧ (0 ≤ elm (S 7) 28 + (-1) * elm (S' 7) 28 ∧ 0 ≤ elm (S' 7) 28 + (-1) * elm (S 7) 28) ∧ (0 ≤ elm (S 7) 29 + (-1) * elm (S' 7) 29 ∧ 0 ≤ elm (S' 7) 29 + (-1) * elm (S 7) 29) ∧ (0 ≤ elm (S 7) 30 + (-1) * elm (S' 7) 30 ∧ 0 ≤ elm (S' 7) 30 + (-1) * elm (S 7) 30) ∧ (0 ≤ elm (S 7) 31 + (-1) * elm (S' 7) 31 ∧ 0 ≤ elm (S' 7) 31 + (-1) * elm (S 7) 31) ∧ (0 ≤ elm (S 7) 33 + (-1) * elm (S' 7) 33 ∧ 0 ≤ elm (S' 7) 33 + (-1) * elm (S 7) 33) ∧ (0 ≤ elm (S 7) 36 + (-1) * elm (S' 7) 36 ∧ 0 ≤ elm (S' 7) 36 + (-1) * elm (S 7) 36) ∧ (0 ≤ elm (S 7) 38 + (-1) * elm (S' 7) 38 ∧ 0 ≤ elm (S' 7) 38 + (-1) * elm (S 7) 38) ∧ (0 ≤ elm (S 7) 39 + (-1) * elm (S' 7) 39 ∧ 0 ≤ elm (S' 7) 39 + (-1) * elm (S 7) 39) ∧ (0 ≤ elm (S 6) 3 + (-1) * elm (S' 6) 0 ∧ 0 ≤ elm (S' 6) 0 + (-1) * elm (S 6) 3) ∧ (0 ≤ elm (S 6) 1 + (-1) * elm (S' 6) 1 ∧ 0 ≤ elm (S' 6) 1 + (-1) * elm (S 6) 1) ∧ (0 ≤ elm (S 6) 2 + (-1) * elm (S' 6) 2 ∧ 0 ≤ elm (S' 6) 2 + (-1) * elm (S 6) 2) ∧ (0 ≤ elm (S 6) 3 + (-1) * elm (S' 6) 3 ∧ 0 ≤ elm (S' 6) 3 + (-1) * elm (S 6) 3) ∧ (ATp (S' 7) (S' 12) 0) ∧ (ATp (S' 7) (S' 12) 1) ∧ (ATp (S' 7) (S' 12) 2) ∧ (ATp (S' 7) (S' 12) 3)) (QB g ad 20) (FA ad 20)) 0 0 (FA ad 20) := by
  refine xmet cX12_copyShore "EbbWreckModel" (by decide) rfl (Nat.le_of_ble_eq_true rfl) (fun p e s m below meth c E hr hlk hml hQ ls hl => ?_)
  have hx := E.1
  have hb := E.2.1
  have hs : Sp ad 20 (FA ad 20) := Sp.fa hD
  have hl : lv_has ls 3 [(0, .ref (ad 0)), (1, .int 3), (2, .int 0)] := hl
  obtain ⟨f1, c2, b3⟩ := invM_7 hI
  obtain ⟨v4, ee5⟩ : ∃ z : Int32, f1 30 = z := ⟨_, rfl⟩
  have b6 : Bd v4 (0) (12) := (by rw [← ee5]; exact b3.1 30 (by decide))
  obtain ⟨v7, ee8⟩ : ∃ z : Int32, f1 0 = z := ⟨_, rfl⟩
  have b9 : Bd v7 (0) (12) := (by rw [← ee8]; exact b3.1 0 (by decide))
  obtain ⟨v10, ee11⟩ : ∃ z : Int32, f1 31 = z := ⟨_, rfl⟩
  have b12 : Bd v10 (0) (12) := (by rw [← ee11]; exact b3.2.1 31 (by decide))
  obtain ⟨v13, ee14⟩ : ∃ z : Int32, f1 1 = z := ⟨_, rfl⟩
  have b15 : Bd v13 (0) (12) := (by rw [← ee14]; exact b3.2.1 1 (by decide))
  obtain ⟨v16, ee17⟩ : ∃ z : Int32, f1 33 = z := ⟨_, rfl⟩
  have b18 : Bd v16 (0) (12) := (by rw [← ee17]; exact b3.2.2.2.1 33 (by decide))
  obtain ⟨v19, ee20⟩ : ∃ z : Int32, f1 3 = z := ⟨_, rfl⟩
  have b21 : Bd v19 (0) (12) := (by rw [← ee20]; exact b3.2.2.2.1 3 (by decide))
  obtain ⟨v22, ee23⟩ : ∃ z : Int32, f1 36 = z := ⟨_, rfl⟩
  have b24 : Bd v22 (0) (8) := (by rw [← ee23]; exact b3.2.2.2.2.1 36 (by decide))
  obtain ⟨v25, ee26⟩ : ∃ z : Int32, f1 6 = z := ⟨_, rfl⟩
  have b27 : Bd v25 (0) (8) := (by rw [← ee26]; exact b3.2.2.2.2.1 6 (by decide))
  obtain ⟨v28, ee29⟩ : ∃ z : Int32, f1 38 = z := ⟨_, rfl⟩
  have b30 : Bd v28 (0) (3) := (by rw [← ee29]; exact b3.2.2.2.2.2.2.1 38 (by decide))
  obtain ⟨v31, ee32⟩ : ∃ z : Int32, f1 8 = z := ⟨_, rfl⟩
  have b33 : Bd v31 (0) (3) := (by rw [← ee32]; exact b3.2.2.2.2.2.2.1 8 (by decide))
  obtain ⟨v34, ee35⟩ : ∃ z : Int32, f1 39 = z := ⟨_, rfl⟩
  have b36 : Bd v34 (0) (40) := (by rw [← ee35]; exact b3.2.2.2.2.2.2.2 39 (by decide))
  obtain ⟨v37, ee38⟩ : ∃ z : Int32, f1 9 = z := ⟨_, rfl⟩
  have b39 : Bd v37 (0) (40) := (by rw [← ee38]; exact b3.2.2.2.2.2.2.2 9 (by decide))
  obtain ⟨v40, ee41⟩ : ∃ z : Int32, f1 10 = z := ⟨_, rfl⟩
  have b42 : Bd v40 (0) (12) := (by rw [← ee41]; exact b3.1 10 (by decide))
  obtain ⟨v43, ee44⟩ : ∃ z : Int32, f1 11 = z := ⟨_, rfl⟩
  have b45 : Bd v43 (0) (12) := (by rw [← ee44]; exact b3.2.1 11 (by decide))
  obtain ⟨v46, ee47⟩ : ∃ z : Int32, f1 13 = z := ⟨_, rfl⟩
  have b48 : Bd v46 (0) (12) := (by rw [← ee47]; exact b3.2.2.2.1 13 (by decide))
  obtain ⟨v49, ee50⟩ : ∃ z : Int32, f1 16 = z := ⟨_, rfl⟩
  have b51 : Bd v49 (0) (8) := (by rw [← ee50]; exact b3.2.2.2.2.1 16 (by decide))
  obtain ⟨v52, ee53⟩ : ∃ z : Int32, f1 18 = z := ⟨_, rfl⟩
  have b54 : Bd v52 (0) (3) := (by rw [← ee53]; exact b3.2.2.2.2.2.2.1 18 (by decide))
  obtain ⟨v55, ee56⟩ : ∃ z : Int32, f1 19 = z := ⟨_, rfl⟩
  have b57 : Bd v55 (0) (40) := (by rw [← ee56]; exact b3.2.2.2.2.2.2.2 19 (by decide))
  obtain ⟨v58, ee59⟩ : ∃ z : Int32, f1 20 = z := ⟨_, rfl⟩
  have b60 : Bd v58 (0) (12) := (by rw [← ee59]; exact b3.1 20 (by decide))
  obtain ⟨v61, ee62⟩ : ∃ z : Int32, f1 21 = z := ⟨_, rfl⟩
  have b63 : Bd v61 (0) (12) := (by rw [← ee62]; exact b3.2.1 21 (by decide))
  obtain ⟨v64, ee65⟩ : ∃ z : Int32, f1 23 = z := ⟨_, rfl⟩
  have b66 : Bd v64 (0) (12) := (by rw [← ee65]; exact b3.2.2.2.1 23 (by decide))
  obtain ⟨v67, ee68⟩ : ∃ z : Int32, f1 26 = z := ⟨_, rfl⟩
  have b69 : Bd v67 (0) (8) := (by rw [← ee68]; exact b3.2.2.2.2.1 26 (by decide))
  obtain ⟨v70, ee71⟩ : ∃ z : Int32, f1 28 = z := ⟨_, rfl⟩
  have b72 : Bd v70 (0) (3) := (by rw [← ee71]; exact b3.2.2.2.2.2.2.1 28 (by decide))
  obtain ⟨v73, ee74⟩ : ∃ z : Int32, f1 29 = z := ⟨_, rfl⟩
  have b75 : Bd v73 (0) (40) := (by rw [← ee74]; exact b3.2.2.2.2.2.2.2 29 (by decide))
  obtain ⟨f76, c77, b78⟩ := invM_6 hI
  obtain ⟨v79, ee80⟩ : ∃ z : Int32, f76 3 = z := ⟨_, rfl⟩
  have b81 : Bd v79 (0) (40000) := (by rw [← ee80]; exact b78 3)
  obtain ⟨v82, ee83⟩ : ∃ z : Int32, f76 0 = z := ⟨_, rfl⟩
  have b84 : Bd v82 (0) (40000) := (by rw [← ee83]; exact b78 0)
  obtain ⟨v85, ee86⟩ : ∃ z : Int32, f76 1 = z := ⟨_, rfl⟩
  have b87 : Bd v85 (0) (40000) := (by rw [← ee86]; exact b78 1)
  obtain ⟨v88, ee89⟩ : ∃ z : Int32, f76 2 = z := ⟨_, rfl⟩
  have b90 : Bd v88 (0) (40000) := (by rw [← ee89]; exact b78 2)
  obtain ⟨f91, c92, b93⟩ := invM_12 hI
  refine lv_aload_n hx hb dX12_copyShore_0 rfl (lv_at hl 0 rfl) ?_
  obtain ⟨v94, v95, v97, v99, v101, v102, w103, v104, v106, v107, v108, v109, v111, v113, v115, v117, v119, v120, v121, c122, b96, b98, b100, b105, b110, b112, b114, b116, b118⟩ := invM_0 hI
  have c122 : S 0 = .inr (12, [.int v94, .ref (ad 1), .ref (ad 2), .ref (ad 3), .ref (ad 4), .ref (ad 5), .int v95, .int v97, .int v99, .int v101, .int v102, .long w103, .int v104, .int v106, .int v107, .int v108, .ref (ad 6), .ref (ad 7), .ref (ad 8), .ref (ad 9), .ref (ad 10), .ref (ad 11), .ref (ad 12), .ref (ad 13), .ref (ad 14), .ref (ad 15), .int v109, .int v111, .ref (ad 16), .int v113, .int v115, .int v117, .int v119, .int v120, .ref (ad 17), .ref (ad 18), .int v121, .ref (ad 19)]) := c122
  refine xget E hQ 0 (by decide) c122 rfl 16 (by decide) q1484 rfl dX12_copyShore_1 ?_
  refine lv_iconst (v := 1) hx hb dX12_copyShore_4 (by decide) ?_
  refine lv_iload_n hx hb dX12_copyShore_5 rfl (lv_at hl 1 rfl) ?_
  refine lv_iload_n hx hb dX12_copyShore_6 rfl (lv_at hl 2 rfl) ?_
  refine xcSv E hs hQ hml hl.1 (uCopyRow l g ad 20 hD S 6 (by decide) 5 (by decide) f76 1 3 0 (by decide) (by decide) (by decide) c77) mX12_copyRow q1743 rfl ⟨(Nat.le_of_ble_eq_true rfl), (Nat.le_of_ble_eq_true rfl)⟩ ⟨(Nat.le_of_ble_eq_true rfl), (Nat.le_of_ble_eq_true rfl)⟩ (Nat.le_of_ble_eq_true rfl) rfl dX12_copyShore_7 (fun S123 H locs eS123 hQ => ?_)
  have hI := invM_up_6 hI eS123 ⟨_, rfl, cp_b b78⟩
  have b125 : ∀ j, Bd ((cpF f76 1 3 0 1) j) (0) (40000) := cp_b b78
  have c124 : S123 6 = .inl (g.2 0, 5, .inl (cpF f76 1 3 0 1)) := up_at eS123 rfl
  refine lv_aload_n hx hb dX12_copyShore_10 rfl (lv_at hl 0 rfl) ?_
  have c126 : S123 0 = .inr (12, [.int v94, .ref (ad 1), .ref (ad 2), .ref (ad 3), .ref (ad 4), .ref (ad 5), .int v95, .int v97, .int v99, .int v101, .int v102, .long w103, .int v104, .int v106, .int v107, .int v108, .ref (ad 6), .ref (ad 7), .ref (ad 8), .ref (ad 9), .ref (ad 10), .ref (ad 11), .ref (ad 12), .ref (ad 13), .ref (ad 14), .ref (ad 15), .int v109, .int v111, .ref (ad 16), .int v113, .int v115, .int v117, .int v119, .int v120, .ref (ad 17), .ref (ad 18), .int v121, .ref (ad 19)]) := (up_ne eS123 (by decide) c122)
  refine xget E hQ 0 (by decide) c126 rfl 17 (by decide) q1485 rfl dX12_copyShore_11 ?_
  refine lv_bipush (v := 10) hx hb dX12_copyShore_14 (by decide) ?_
  refine lv_iload_n hx hb dX12_copyShore_16 rfl (lv_at hl 1 rfl) ?_
  refine lv_iload_n hx hb dX12_copyShore_17 rfl (lv_at hl 2 rfl) ?_
  have c127 : S123 7 = .inl (g.2 0, 50, .inl f1) := (up_ne eS123 (by decide) c2)
  refine xcSv E hs hQ hml hl.1 (uCopyRow l g ad 20 hD S123 7 (by decide) 50 (by decide) f1 10 3 0 (by decide) (by decide) (by decide) c127) mX12_copyRow q1743 rfl ⟨(Nat.le_of_ble_eq_true rfl), (Nat.le_of_ble_eq_true rfl)⟩ ⟨(Nat.le_of_ble_eq_true rfl), (Nat.le_of_ble_eq_true rfl)⟩ (Nat.le_of_ble_eq_true rfl) rfl dX12_copyShore_18 (fun S128 H locs eS128 hQ => ?_)
  have hI := invM_up_7 hI eS128 ⟨_, rfl, ⟨cp_m (q := 1) b3.1 (by decide), cp_m (q := 1) b3.2.1 (by decide), cp_m (q := 1) b3.2.2.1 (by decide), cp_m (q := 1) b3.2.2.2.1 (by decide), cp_m (q := 1) b3.2.2.2.2.1 (by decide), cp_m (q := 1) b3.2.2.2.2.2.1 (by decide), cp_m (q := 1) b3.2.2.2.2.2.2.1 (by decide), cp_m (q := 1) b3.2.2.2.2.2.2.2 (by decide)⟩⟩
  have b130 : (∀ j, j % 10 = 0 → Bd ((cpF f1 10 3 0 10) j) (0) (12)) ∧ (∀ j, j % 10 = 1 → Bd ((cpF f1 10 3 0 10) j) (0) (12)) ∧ (∀ j, j % 10 = 2 → Bd ((cpF f1 10 3 0 10) j) (0) (6)) ∧ (∀ j, j % 10 = 3 → Bd ((cpF f1 10 3 0 10) j) (0) (12)) ∧ (∀ j, j % 10 = 6 → Bd ((cpF f1 10 3 0 10) j) (0) (8)) ∧ (∀ j, j % 10 = 7 → Bd ((cpF f1 10 3 0 10) j) (0) (6)) ∧ (∀ j, j % 10 = 8 → Bd ((cpF f1 10 3 0 10) j) (0) (3)) ∧ (∀ j, j % 10 = 9 → Bd ((cpF f1 10 3 0 10) j) (0) (40)) := ⟨cp_m (q := 1) b3.1 (by decide), cp_m (q := 1) b3.2.1 (by decide), cp_m (q := 1) b3.2.2.1 (by decide), cp_m (q := 1) b3.2.2.2.1 (by decide), cp_m (q := 1) b3.2.2.2.2.1 (by decide), cp_m (q := 1) b3.2.2.2.2.2.1 (by decide), cp_m (q := 1) b3.2.2.2.2.2.2.1 (by decide), cp_m (q := 1) b3.2.2.2.2.2.2.2 (by decide)⟩
  have c129 : S128 7 = .inl (g.2 0, 50, .inl (cpF f1 10 3 0 10)) := up_at eS128 rfl
  refine lv_aload_n hx hb dX12_copyShore_21 rfl (lv_at hl 0 rfl) ?_
  have c131 : S128 0 = .inr (12, [.int v94, .ref (ad 1), .ref (ad 2), .ref (ad 3), .ref (ad 4), .ref (ad 5), .int v95, .int v97, .int v99, .int v101, .int v102, .long w103, .int v104, .int v106, .int v107, .int v108, .ref (ad 6), .ref (ad 7), .ref (ad 8), .ref (ad 9), .ref (ad 10), .ref (ad 11), .ref (ad 12), .ref (ad 13), .ref (ad 14), .ref (ad 15), .int v109, .int v111, .ref (ad 16), .int v113, .int v115, .int v117, .int v119, .int v120, .ref (ad 17), .ref (ad 18), .int v121, .ref (ad 19)]) := (up_ne eS128 (by decide) c126)
  refine xget E hQ 0 (by decide) c131 rfl 18 (by decide) q1486 rfl dX12_copyShore_22 ?_
  refine lv_bipush (v := 24) hx hb dX12_copyShore_25 (by decide) ?_
  refine lv_iload_n hx hb dX12_copyShore_27 rfl (lv_at hl 1 rfl) ?_
  refine lv_iload_n hx hb dX12_copyShore_28 rfl (lv_at hl 2 rfl) ?_
  obtain ⟨f132, c133⟩ := invM_8 hI
  refine xcSv E hs hQ hml hl.1 (uCopyRow l g ad 20 hD S128 8 (by decide) 120 (by decide) f132 24 3 0 (by decide) (by decide) (by decide) c133) mX12_copyRow q1743 rfl ⟨(Nat.le_of_ble_eq_true rfl), (Nat.le_of_ble_eq_true rfl)⟩ ⟨(Nat.le_of_ble_eq_true rfl), (Nat.le_of_ble_eq_true rfl)⟩ (Nat.le_of_ble_eq_true rfl) rfl dX12_copyShore_29 (fun S135 H locs eS135 hQ => ?_)
  have hI := invM_up_8 hI eS135 ⟨_, rfl⟩
  have c136 : S135 8 = .inl (g.2 0, 120, .inl (cpF f132 24 3 0 24)) := up_at eS135 rfl
  refine lv_aload_n hx hb dX12_copyShore_32 rfl (lv_at hl 0 rfl) ?_
  have c137 : S135 0 = .inr (12, [.int v94, .ref (ad 1), .ref (ad 2), .ref (ad 3), .ref (ad 4), .ref (ad 5), .int v95, .int v97, .int v99, .int v101, .int v102, .long w103, .int v104, .int v106, .int v107, .int v108, .ref (ad 6), .ref (ad 7), .ref (ad 8), .ref (ad 9), .ref (ad 10), .ref (ad 11), .ref (ad 12), .ref (ad 13), .ref (ad 14), .ref (ad 15), .int v109, .int v111, .ref (ad 16), .int v113, .int v115, .int v117, .int v119, .int v120, .ref (ad 17), .ref (ad 18), .int v121, .ref (ad 19)]) := (up_ne eS135 (by decide) c131)
  refine xget E hQ 0 (by decide) c137 rfl 19 (by decide) q1487 rfl dX12_copyShore_33 ?_
  refine lv_bipush (v := 24) hx hb dX12_copyShore_36 (by decide) ?_
  refine lv_iload_n hx hb dX12_copyShore_38 rfl (lv_at hl 1 rfl) ?_
  refine lv_iload_n hx hb dX12_copyShore_39 rfl (lv_at hl 2 rfl) ?_
  obtain ⟨f138, c139, b140⟩ := invM_9 hI
  refine xcSv E hs hQ hml hl.1 (uCopyRow l g ad 20 hD S135 9 (by decide) 120 (by decide) f138 24 3 0 (by decide) (by decide) (by decide) c139) mX12_copyRow q1743 rfl ⟨(Nat.le_of_ble_eq_true rfl), (Nat.le_of_ble_eq_true rfl)⟩ ⟨(Nat.le_of_ble_eq_true rfl), (Nat.le_of_ble_eq_true rfl)⟩ (Nat.le_of_ble_eq_true rfl) rfl dX12_copyShore_40 (fun S141 H locs eS141 hQ => ?_)
  have hI := invM_up_9 hI eS141 ⟨_, rfl, ⟨cp_m (q := 8) b140.1 (by decide), cp_m (q := 8) b140.2 (by decide)⟩⟩
  have b143 : (∀ j, j % 3 = 1 → Bd ((cpF f138 24 3 0 24) j) (0) (11)) ∧ (∀ j, j % 3 = 2 → Bd ((cpF f138 24 3 0 24) j) (0) (99)) := ⟨cp_m (q := 8) b140.1 (by decide), cp_m (q := 8) b140.2 (by decide)⟩
  have c142 : S141 9 = .inl (g.2 0, 120, .inl (cpF f138 24 3 0 24)) := up_at eS141 rfl
  refine lv_aload_n hx hb dX12_copyShore_43 rfl (lv_at hl 0 rfl) ?_
  have c144 : S141 0 = .inr (12, [.int v94, .ref (ad 1), .ref (ad 2), .ref (ad 3), .ref (ad 4), .ref (ad 5), .int v95, .int v97, .int v99, .int v101, .int v102, .long w103, .int v104, .int v106, .int v107, .int v108, .ref (ad 6), .ref (ad 7), .ref (ad 8), .ref (ad 9), .ref (ad 10), .ref (ad 11), .ref (ad 12), .ref (ad 13), .ref (ad 14), .ref (ad 15), .int v109, .int v111, .ref (ad 16), .int v113, .int v115, .int v117, .int v119, .int v120, .ref (ad 17), .ref (ad 18), .int v121, .ref (ad 19)]) := (up_ne eS141 (by decide) c137)
  refine xget E hQ 0 (by decide) c144 rfl 20 (by decide) q1488 rfl dX12_copyShore_44 ?_
  refine lv_bipush (v := 24) hx hb dX12_copyShore_47 (by decide) ?_
  refine lv_iload_n hx hb dX12_copyShore_49 rfl (lv_at hl 1 rfl) ?_
  refine lv_iload_n hx hb dX12_copyShore_50 rfl (lv_at hl 2 rfl) ?_
  obtain ⟨f145, c146⟩ := invM_10 hI
  refine xcSv E hs hQ hml hl.1 (uCopyRow l g ad 20 hD S141 10 (by decide) 120 (by decide) f145 24 3 0 (by decide) (by decide) (by decide) c146) mX12_copyRow q1743 rfl ⟨(Nat.le_of_ble_eq_true rfl), (Nat.le_of_ble_eq_true rfl)⟩ ⟨(Nat.le_of_ble_eq_true rfl), (Nat.le_of_ble_eq_true rfl)⟩ (Nat.le_of_ble_eq_true rfl) rfl dX12_copyShore_51 (fun S148 H locs eS148 hQ => ?_)
  have hI := invM_up_10 hI eS148 ⟨_, rfl⟩
  have c149 : S148 10 = .inl (g.2 0, 120, .inl (cpF f145 24 3 0 24)) := up_at eS148 rfl
  refine lv_aload_n hx hb dX12_copyShore_54 rfl (lv_at hl 0 rfl) ?_
  have c150 : S148 0 = .inr (12, [.int v94, .ref (ad 1), .ref (ad 2), .ref (ad 3), .ref (ad 4), .ref (ad 5), .int v95, .int v97, .int v99, .int v101, .int v102, .long w103, .int v104, .int v106, .int v107, .int v108, .ref (ad 6), .ref (ad 7), .ref (ad 8), .ref (ad 9), .ref (ad 10), .ref (ad 11), .ref (ad 12), .ref (ad 13), .ref (ad 14), .ref (ad 15), .int v109, .int v111, .ref (ad 16), .int v113, .int v115, .int v117, .int v119, .int v120, .ref (ad 17), .ref (ad 18), .int v121, .ref (ad 19)]) := (up_ne eS148 (by decide) c144)
  refine xget E hQ 0 (by decide) c150 rfl 21 (by decide) q1489 rfl dX12_copyShore_55 ?_
  refine lv_iconst (v := 3) hx hb dX12_copyShore_58 (by decide) ?_
  refine lv_iload_n hx hb dX12_copyShore_59 rfl (lv_at hl 1 rfl) ?_
  refine lv_iload_n hx hb dX12_copyShore_60 rfl (lv_at hl 2 rfl) ?_
  obtain ⟨f151, c152, b153⟩ := invM_11 hI
  refine xcSv E hs hQ hml hl.1 (uCopyRow l g ad 20 hD S148 11 (by decide) 15 (by decide) f151 3 3 0 (by decide) (by decide) (by decide) c152) mX12_copyRow q1743 rfl ⟨(Nat.le_of_ble_eq_true rfl), (Nat.le_of_ble_eq_true rfl)⟩ ⟨(Nat.le_of_ble_eq_true rfl), (Nat.le_of_ble_eq_true rfl)⟩ (Nat.le_of_ble_eq_true rfl) rfl dX12_copyShore_61 (fun S154 H locs eS154 hQ => ?_)
  have hI := invM_up_11 hI eS154 ⟨_, rfl, cp_b b153⟩
  have b156 : ∀ j, Bd ((cpF f151 3 3 0 3) j) (0) (11) := cp_b b153
  have c155 : S154 11 = .inl (g.2 0, 15, .inl (cpF f151 3 3 0 3)) := up_at eS154 rfl
  refine lv_aload_n hx hb dX12_copyShore_64 rfl (lv_at hl 0 rfl) ?_
  have c157 : S154 0 = .inr (12, [.int v94, .ref (ad 1), .ref (ad 2), .ref (ad 3), .ref (ad 4), .ref (ad 5), .int v95, .int v97, .int v99, .int v101, .int v102, .long w103, .int v104, .int v106, .int v107, .int v108, .ref (ad 6), .ref (ad 7), .ref (ad 8), .ref (ad 9), .ref (ad 10), .ref (ad 11), .ref (ad 12), .ref (ad 13), .ref (ad 14), .ref (ad 15), .int v109, .int v111, .ref (ad 16), .int v113, .int v115, .int v117, .int v119, .int v120, .ref (ad 17), .ref (ad 18), .int v121, .ref (ad 19)]) := (up_ne eS154 (by decide) c150)
  refine xget E hQ 0 (by decide) c157 rfl 22 (by decide) q1490 rfl dX12_copyShore_65 ?_
  refine lv_sipush (v := 160) hx hb dX12_copyShore_68 (by decide) ?_
  refine lv_iload_n hx hb dX12_copyShore_71 rfl (lv_at hl 1 rfl) ?_
  refine lv_iload_n hx hb dX12_copyShore_72 rfl (lv_at hl 2 rfl) ?_
  have c158 : S154 12 = .inl (g.2 0, 800, .inl f91) := (up_ne eS154 (by decide) (up_ne eS148 (by decide) (up_ne eS141 (by decide) (up_ne eS135 (by decide) (up_ne eS128 (by decide) (up_ne eS123 (by decide) c92))))))
  refine xcSv E hs hQ hml hl.1 (uCopyRow l g ad 20 hD S154 12 (by decide) 800 (by decide) f91 160 3 0 (by decide) (by decide) (by decide) c158) mX12_copyRow q1743 rfl ⟨(Nat.le_of_ble_eq_true rfl), (Nat.le_of_ble_eq_true rfl)⟩ ⟨(Nat.le_of_ble_eq_true rfl), (Nat.le_of_ble_eq_true rfl)⟩ (Nat.le_of_ble_eq_true rfl) rfl dX12_copyShore_73 (fun S159 H locs eS159 hQ => ?_)
  have hI := invM_up_12 hI eS159 ⟨_, rfl, ⟨cp_m (q := 40) b93.1 (by decide), cp_m (q := 40) b93.2 (by decide)⟩⟩
  have b161 : (∀ j, j % 4 = 1 → Bd ((cpF f91 160 3 0 160) j) (0) (7)) ∧ (∀ j, j % 4 = 2 → Bd ((cpF f91 160 3 0 160) j) (0) (400)) := ⟨cp_m (q := 40) b93.1 (by decide), cp_m (q := 40) b93.2 (by decide)⟩
  have c160 : S159 12 = .inl (g.2 0, 800, .inl (cpF f91 160 3 0 160)) := up_at eS159 rfl
  have q162 : elm (S 7) 30 = v4.toInt := (elm_of c2 30).trans (congrArg Int32.toInt (ee5))
  have c163 : S159 7 = .inl (g.2 0, 50, .inl (cpF f1 10 3 0 10)) := (up_ne eS159 (by decide) (up_ne eS154 (by decide) (up_ne eS148 (by decide) (up_ne eS141 (by decide) (up_ne eS135 (by decide) c129)))))
  have q164 : elm (S159 7) 0 = v4.toInt := (elm_of c163 0).trans (congrArg Int32.toInt (((show cpF f1 10 3 0 10 0 = f1 30 from rfl).trans (ee5))))
  have q165 : elm (S 7) 31 = v10.toInt := (elm_of c2 31).trans (congrArg Int32.toInt (ee11))
  have q166 : elm (S159 7) 1 = v10.toInt := (elm_of c163 1).trans (congrArg Int32.toInt (((show cpF f1 10 3 0 10 1 = f1 31 from rfl).trans (ee11))))
  have q167 : elm (S 7) 33 = v16.toInt := (elm_of c2 33).trans (congrArg Int32.toInt (ee17))
  have q168 : elm (S159 7) 3 = v16.toInt := (elm_of c163 3).trans (congrArg Int32.toInt (((show cpF f1 10 3 0 10 3 = f1 33 from rfl).trans (ee17))))
  have q169 : elm (S 7) 36 = v22.toInt := (elm_of c2 36).trans (congrArg Int32.toInt (ee23))
  have q170 : elm (S159 7) 6 = v22.toInt := (elm_of c163 6).trans (congrArg Int32.toInt (((show cpF f1 10 3 0 10 6 = f1 36 from rfl).trans (ee23))))
  have q171 : elm (S 7) 38 = v28.toInt := (elm_of c2 38).trans (congrArg Int32.toInt (ee29))
  have q172 : elm (S159 7) 8 = v28.toInt := (elm_of c163 8).trans (congrArg Int32.toInt (((show cpF f1 10 3 0 10 8 = f1 38 from rfl).trans (ee29))))
  have q173 : elm (S 7) 39 = v34.toInt := (elm_of c2 39).trans (congrArg Int32.toInt (ee35))
  have q174 : elm (S159 7) 9 = v34.toInt := (elm_of c163 9).trans (congrArg Int32.toInt (((show cpF f1 10 3 0 10 9 = f1 39 from rfl).trans (ee35))))
  have q175 : elm (S 7) 10 = v40.toInt := (elm_of c2 10).trans (congrArg Int32.toInt (ee41))
  have q176 : elm (S159 7) 10 = v40.toInt := (elm_of c163 10).trans (congrArg Int32.toInt (((show cpF f1 10 3 0 10 10 = f1 10 from rfl).trans (ee41))))
  have q177 : elm (S 7) 11 = v43.toInt := (elm_of c2 11).trans (congrArg Int32.toInt (ee44))
  have q178 : elm (S159 7) 11 = v43.toInt := (elm_of c163 11).trans (congrArg Int32.toInt (((show cpF f1 10 3 0 10 11 = f1 11 from rfl).trans (ee44))))
  have q179 : elm (S 7) 13 = v46.toInt := (elm_of c2 13).trans (congrArg Int32.toInt (ee47))
  have q180 : elm (S159 7) 13 = v46.toInt := (elm_of c163 13).trans (congrArg Int32.toInt (((show cpF f1 10 3 0 10 13 = f1 13 from rfl).trans (ee47))))
  have q181 : elm (S 7) 16 = v49.toInt := (elm_of c2 16).trans (congrArg Int32.toInt (ee50))
  have q182 : elm (S159 7) 16 = v49.toInt := (elm_of c163 16).trans (congrArg Int32.toInt (((show cpF f1 10 3 0 10 16 = f1 16 from rfl).trans (ee50))))
  have q183 : elm (S 7) 18 = v52.toInt := (elm_of c2 18).trans (congrArg Int32.toInt (ee53))
  have q184 : elm (S159 7) 18 = v52.toInt := (elm_of c163 18).trans (congrArg Int32.toInt (((show cpF f1 10 3 0 10 18 = f1 18 from rfl).trans (ee53))))
  have q185 : elm (S 7) 19 = v55.toInt := (elm_of c2 19).trans (congrArg Int32.toInt (ee56))
  have q186 : elm (S159 7) 19 = v55.toInt := (elm_of c163 19).trans (congrArg Int32.toInt (((show cpF f1 10 3 0 10 19 = f1 19 from rfl).trans (ee56))))
  have q187 : elm (S 7) 20 = v58.toInt := (elm_of c2 20).trans (congrArg Int32.toInt (ee59))
  have q188 : elm (S159 7) 20 = v58.toInt := (elm_of c163 20).trans (congrArg Int32.toInt (((show cpF f1 10 3 0 10 20 = f1 20 from rfl).trans (ee59))))
  have q189 : elm (S 7) 21 = v61.toInt := (elm_of c2 21).trans (congrArg Int32.toInt (ee62))
  have q190 : elm (S159 7) 21 = v61.toInt := (elm_of c163 21).trans (congrArg Int32.toInt (((show cpF f1 10 3 0 10 21 = f1 21 from rfl).trans (ee62))))
  have q191 : elm (S 7) 23 = v64.toInt := (elm_of c2 23).trans (congrArg Int32.toInt (ee65))
  have q192 : elm (S159 7) 23 = v64.toInt := (elm_of c163 23).trans (congrArg Int32.toInt (((show cpF f1 10 3 0 10 23 = f1 23 from rfl).trans (ee65))))
  have q193 : elm (S 7) 26 = v67.toInt := (elm_of c2 26).trans (congrArg Int32.toInt (ee68))
  have q194 : elm (S159 7) 26 = v67.toInt := (elm_of c163 26).trans (congrArg Int32.toInt (((show cpF f1 10 3 0 10 26 = f1 26 from rfl).trans (ee68))))
  have q195 : elm (S 7) 28 = v70.toInt := (elm_of c2 28).trans (congrArg Int32.toInt (ee71))
  have q196 : elm (S159 7) 28 = v70.toInt := (elm_of c163 28).trans (congrArg Int32.toInt (((show cpF f1 10 3 0 10 28 = f1 28 from rfl).trans (ee71))))
  have q197 : elm (S 7) 29 = v73.toInt := (elm_of c2 29).trans (congrArg Int32.toInt (ee74))
  have q198 : elm (S159 7) 29 = v73.toInt := (elm_of c163 29).trans (congrArg Int32.toInt (((show cpF f1 10 3 0 10 29 = f1 29 from rfl).trans (ee74))))
  have q199 : elm (S159 7) 30 = v4.toInt := (elm_of c163 30).trans (congrArg Int32.toInt (((show cpF f1 10 3 0 10 30 = f1 30 from rfl).trans (ee5))))
  have q200 : elm (S159 7) 31 = v10.toInt := (elm_of c163 31).trans (congrArg Int32.toInt (((show cpF f1 10 3 0 10 31 = f1 31 from rfl).trans (ee11))))
  have q201 : elm (S159 7) 33 = v16.toInt := (elm_of c163 33).trans (congrArg Int32.toInt (((show cpF f1 10 3 0 10 33 = f1 33 from rfl).trans (ee17))))
  have q202 : elm (S159 7) 36 = v22.toInt := (elm_of c163 36).trans (congrArg Int32.toInt (((show cpF f1 10 3 0 10 36 = f1 36 from rfl).trans (ee23))))
  have q203 : elm (S159 7) 38 = v28.toInt := (elm_of c163 38).trans (congrArg Int32.toInt (((show cpF f1 10 3 0 10 38 = f1 38 from rfl).trans (ee29))))
  have q204 : elm (S159 7) 39 = v34.toInt := (elm_of c163 39).trans (congrArg Int32.toInt (((show cpF f1 10 3 0 10 39 = f1 39 from rfl).trans (ee35))))
  have q205 : elm (S 6) 3 = v79.toInt := (elm_of c77 3).trans (congrArg Int32.toInt (ee80))
  have c206 : S159 6 = .inl (g.2 0, 5, .inl (cpF f76 1 3 0 1)) := (up_ne eS159 (by decide) (up_ne eS154 (by decide) (up_ne eS148 (by decide) (up_ne eS141 (by decide) (up_ne eS135 (by decide) (up_ne eS128 (by decide) c124))))))
  have q207 : elm (S159 6) 0 = v79.toInt := (elm_of c206 0).trans (congrArg Int32.toInt (((show cpF f76 1 3 0 1 0 = f76 3 from rfl).trans (ee80))))
  have q208 : elm (S 6) 1 = v85.toInt := (elm_of c77 1).trans (congrArg Int32.toInt (ee86))
  have q209 : elm (S159 6) 1 = v85.toInt := (elm_of c206 1).trans (congrArg Int32.toInt (((show cpF f76 1 3 0 1 1 = f76 1 from rfl).trans (ee86))))
  have q210 : elm (S 6) 2 = v88.toInt := (elm_of c77 2).trans (congrArg Int32.toInt (ee89))
  have q211 : elm (S159 6) 2 = v88.toInt := (elm_of c206 2).trans (congrArg Int32.toInt (((show cpF f76 1 3 0 1 2 = f76 2 from rfl).trans (ee89))))
  have q212 : elm (S159 6) 3 = v79.toInt := (elm_of c206 3).trans (congrArg Int32.toInt (((show cpF f76 1 3 0 1 3 = f76 3 from rfl).trans (ee80))))
  exact xrv E hr hlk hQ (⟨hI, (up_o (up_o (up_o (up_o (up_o (up_o (up_o o_refl eS123 (by decide)) eS128 (by decide)) eS135 (by decide)) eS141 (by decide)) eS148 (by decide)) eS154 (by decide)) eS159 (by decide)), ⟨by omega, by omega⟩, ⟨by omega, by omega⟩, ⟨by omega, by omega⟩, ⟨by omega, by omega⟩, ⟨by omega, by omega⟩, ⟨by omega, by omega⟩, ⟨by omega, by omega⟩, ⟨by omega, by omega⟩, ⟨by omega, by omega⟩, ⟨by omega, by omega⟩, ⟨by omega, by omega⟩, ⟨by omega, by omega⟩, ⟨by omega, by omega⟩, ⟨by omega, by omega⟩, ⟨by omega, by omega⟩, ⟨by omega, by omega⟩, ⟨by omega, by omega⟩, ⟨by omega, by omega⟩, ⟨by omega, by omega⟩, ⟨by omega, by omega⟩, ⟨by omega, by omega⟩, ⟨by omega, by omega⟩, ⟨by omega, by omega⟩, ⟨by omega, by omega⟩, ⟨by omega, by omega⟩, ⟨by omega, by omega⟩, ⟨by omega, by omega⟩, ⟨by omega, by omega⟩, (at_cpb c2 c92 c163 c160 b3.2.2.2.2.2.2.2 hAT3), (at_cpo c2 c92 c163 c160 b3.2.2.2.2.2.2.2 (by decide) hAT1), (at_cpo c2 c92 c163 c160 b3.2.2.2.2.2.2.2 (by decide) hAT2), (at_cpo c2 c92 c163 c160 b3.2.2.2.2.2.2.2 (by decide) hAT3)⟩) dX12_copyShore_76
set_option maxHeartbeats 4000000 in
set_option maxRecDepth 100000 in
theorem gX12_acts_0 (l : Launch) (g : GG) (ad : Nat → Nat) (hD : Dj ad 20) (S : SS) (hI : InvM g ad S) (a1 : Int32) (a2 : Int32) (a3 : Int32) (a4 : Int32) (ba1 : Bd a1 (0) (1)) (ba2 : Bd a2 (0) (7)) (ba3 : Bd a3 (0) (400)) (ba4 : Bd a4 (0) (1)) (hq1 : 0 ≤ (-1) * elm (S 7) 9 + 39) (hAT0 : ATp (S 7) (S 12) 0) (hAT1 : ATp (S 7) (S 12) 1) (hAT2 : ATp (S 7) (S 12) 2) (hAT3 : ATp (S 7) (S 12) 3) (hw : a1.toInt = 0 → a2.toInt ≤ 2 ∧ a3.toInt ≤ 11) : Met l yX12_acts (wG (.code yX12_acts cX12_acts 6 none)) (Rm 0) (XPre g ad 20 S [.ref (ad 0), .int a1, .int a2, .int a3, .int a4]) (va_Qv (fun S' => InvM g ad S' ∧ (∀ j, j ∉ ([7, 12] : List Nat) → S' j = S j) ∧ (0 ≤ elm (S 7) 9 + (-1) * elm (S' 7) 9 + 1 ∧ 0 ≤ elm (S' 7) 9 + (-1) * elm (S 7) 9 + (-1)) ∧ (0 ≤ elm (S 7) 0 + (-1) * elm (S' 7) 0 ∧ 0 ≤ elm (S' 7) 0 + (-1) * elm (S 7) 0) ∧ (0 ≤ elm (S 7) 1 + (-1) * elm (S' 7) 1 ∧ 0 ≤ elm (S' 7) 1 + (-1) * elm (S 7) 1) ∧ (0 ≤ elm (S 7) 3 + (-1) * elm (S' 7) 3 ∧ 0 ≤ elm (S' 7) 3 + (-1) * elm (S 7) 3) ∧ (0 ≤ elm (S 7) 6 + (-1) * elm (S' 7) 6 ∧ 0 ≤ elm (S' 7) 6 + (-1) * elm (S 7) 6) ∧ (0 ≤ elm (S 7) 8 + (-1) * elm (S' 7) 8 ∧ 0 ≤ elm (S' 7) 8 + (-1) * elm (S 7) 8) ∧ (0 ≤ elm (S 7) 10 + (-1) * elm (S' 7) 10 ∧ 0 ≤ elm (S' 7) 10 + (-1) * elm (S 7) 10) ∧ (0 ≤ elm (S 7) 11 + (-1) * elm (S' 7) 11 ∧ 0 ≤ elm (S' 7) 11 + (-1) * elm (S 7) 11) ∧ (0 ≤ elm (S 7) 13 + (-1) * elm (S' 7) 13 ∧ 0 ≤ elm (S' 7) 13 + (-1) * elm (S 7) 13) ∧ (0 ≤ elm (S 7) 16 + (-1) * elm (S' 7) 16 ∧ 0 ≤ elm (S' 7) 16 + (-1) * elm (S 7) 16) ∧ (0 ≤ elm (S 7) 18 + (-1) * elm (S' 7) 18 ∧ 0 ≤ elm (S' 7) 18 + (-1) * elm (S 7) 18) ∧ (0 ≤ elm (S 7) 19 + (-1) * elm (S' 7) 19 ∧ 0 ≤ elm (S' 7) 19 + (-1) * elm (S 7) 19) ∧ (0 ≤ elm (S 7) 20 + (-1) * elm (S' 7) 20 ∧ 0 ≤ elm (S' 7) 20 + (-1) * elm (S 7) 20) ∧ (0 ≤ elm (S 7) 21 + (-1) * elm (S' 7) 21 ∧ 0 ≤ elm (S' 7) 21 + (-1) * elm (S 7) 21) ∧ (0 ≤ elm (S 7) 23 + (-1) * elm (S' 7) 23 ∧ 0 ≤ elm (S' 7) 23 + (-1) * elm (S 7) 23) ∧ (0 ≤ elm (S 7) 26 + (-1) * elm (S' 7) 26 ∧ 0 ≤ elm (S' 7) 26 + (-1) * elm (S 7) 26) ∧ (0 ≤ elm (S 7) 28 + (-1) * elm (S' 7) 28 ∧ 0 ≤ elm (S' 7) 28 + (-1) * elm (S 7) 28) ∧ (0 ≤ elm (S 7) 29 + (-1) * elm (S' 7) 29 ∧ 0 ≤ elm (S' 7) 29 + (-1) * elm (S 7) 29) ∧ (0 ≤ elm (S 7) 30 + (-1) * elm (S' 7) 30 ∧ 0 ≤ elm (S' 7) 30 + (-1) * elm (S 7) 30) ∧ (0 ≤ elm (S 7) 31 + (-1) * elm (S' 7) 31 ∧ 0 ≤ elm (S' 7) 31 + (-1) * elm (S 7) 31) ∧ (0 ≤ elm (S 7) 33 + (-1) * elm (S' 7) 33 ∧ 0 ≤ elm (S' 7) 33 + (-1) * elm (S 7) 33) ∧ (0 ≤ elm (S 7) 36 + (-1) * elm (S' 7) 36 ∧ 0 ≤ elm (S' 7) 36 + (-1) * elm (S 7) 36) ∧ (0 ≤ elm (S 7) 38 + (-1) * elm (S' 7) 38 ∧ 0 ≤ elm (S' 7) 38 + (-1) * elm (S 7) 38) ∧ (0 ≤ elm (S 7) 39 + (-1) * elm (S' 7) 39 ∧ 0 ≤ elm (S' 7) 39 + (-1) * elm (S 7) 39) ∧ (ATp (S' 7) (S' 12) 0) ∧ (ATp (S' 7) (S' 12) 1) ∧ (ATp (S' 7) (S' 12) 2) ∧ (ATp (S' 7) (S' 12) 3)) (QB g ad 20) (FA ad 20)) 0 0 (FA ad 20) := by
  refine xmet cX12_acts "EbbWreckModel" (by decide) rfl (Nat.le_of_ble_eq_true rfl) (fun p e s m below meth c E hr hlk hml hQ ls hl => ?_)
  have hx := E.1
  have hb := E.2.1
  have hs : Sp ad 20 (FA ad 20) := Sp.fa hD
  have hl : lv_has ls 6 [(0, .ref (ad 0)), (1, .int a1), (2, .int a2), (3, .int a3), (4, .int a4)] := hl
  obtain ⟨f1, c2, b3⟩ := invM_7 hI
  obtain ⟨v4, ee5⟩ : ∃ z : Int32, f1 9 = z := ⟨_, rfl⟩
  have b6 : Bd v4 (0) (40) := (by rw [← ee5]; exact b3.2.2.2.2.2.2.2 9 (by decide))
  obtain ⟨v7, ee8⟩ : ∃ z : Int32, f1 0 = z := ⟨_, rfl⟩
  have b9 : Bd v7 (0) (12) := (by rw [← ee8]; exact b3.1 0 (by decide))
  obtain ⟨v10, ee11⟩ : ∃ z : Int32, f1 1 = z := ⟨_, rfl⟩
  have b12 : Bd v10 (0) (12) := (by rw [← ee11]; exact b3.2.1 1 (by decide))
  obtain ⟨v13, ee14⟩ : ∃ z : Int32, f1 3 = z := ⟨_, rfl⟩
  have b15 : Bd v13 (0) (12) := (by rw [← ee14]; exact b3.2.2.2.1 3 (by decide))
  obtain ⟨v16, ee17⟩ : ∃ z : Int32, f1 6 = z := ⟨_, rfl⟩
  have b18 : Bd v16 (0) (8) := (by rw [← ee17]; exact b3.2.2.2.2.1 6 (by decide))
  obtain ⟨v19, ee20⟩ : ∃ z : Int32, f1 8 = z := ⟨_, rfl⟩
  have b21 : Bd v19 (0) (3) := (by rw [← ee20]; exact b3.2.2.2.2.2.2.1 8 (by decide))
  obtain ⟨v22, ee23⟩ : ∃ z : Int32, f1 10 = z := ⟨_, rfl⟩
  have b24 : Bd v22 (0) (12) := (by rw [← ee23]; exact b3.1 10 (by decide))
  obtain ⟨v25, ee26⟩ : ∃ z : Int32, f1 11 = z := ⟨_, rfl⟩
  have b27 : Bd v25 (0) (12) := (by rw [← ee26]; exact b3.2.1 11 (by decide))
  obtain ⟨v28, ee29⟩ : ∃ z : Int32, f1 13 = z := ⟨_, rfl⟩
  have b30 : Bd v28 (0) (12) := (by rw [← ee29]; exact b3.2.2.2.1 13 (by decide))
  obtain ⟨v31, ee32⟩ : ∃ z : Int32, f1 16 = z := ⟨_, rfl⟩
  have b33 : Bd v31 (0) (8) := (by rw [← ee32]; exact b3.2.2.2.2.1 16 (by decide))
  obtain ⟨v34, ee35⟩ : ∃ z : Int32, f1 18 = z := ⟨_, rfl⟩
  have b36 : Bd v34 (0) (3) := (by rw [← ee35]; exact b3.2.2.2.2.2.2.1 18 (by decide))
  obtain ⟨v37, ee38⟩ : ∃ z : Int32, f1 19 = z := ⟨_, rfl⟩
  have b39 : Bd v37 (0) (40) := (by rw [← ee38]; exact b3.2.2.2.2.2.2.2 19 (by decide))
  obtain ⟨v40, ee41⟩ : ∃ z : Int32, f1 20 = z := ⟨_, rfl⟩
  have b42 : Bd v40 (0) (12) := (by rw [← ee41]; exact b3.1 20 (by decide))
  obtain ⟨v43, ee44⟩ : ∃ z : Int32, f1 21 = z := ⟨_, rfl⟩
  have b45 : Bd v43 (0) (12) := (by rw [← ee44]; exact b3.2.1 21 (by decide))
  obtain ⟨v46, ee47⟩ : ∃ z : Int32, f1 23 = z := ⟨_, rfl⟩
  have b48 : Bd v46 (0) (12) := (by rw [← ee47]; exact b3.2.2.2.1 23 (by decide))
  obtain ⟨v49, ee50⟩ : ∃ z : Int32, f1 26 = z := ⟨_, rfl⟩
  have b51 : Bd v49 (0) (8) := (by rw [← ee50]; exact b3.2.2.2.2.1 26 (by decide))
  obtain ⟨v52, ee53⟩ : ∃ z : Int32, f1 28 = z := ⟨_, rfl⟩
  have b54 : Bd v52 (0) (3) := (by rw [← ee53]; exact b3.2.2.2.2.2.2.1 28 (by decide))
  obtain ⟨v55, ee56⟩ : ∃ z : Int32, f1 29 = z := ⟨_, rfl⟩
  have b57 : Bd v55 (0) (40) := (by rw [← ee56]; exact b3.2.2.2.2.2.2.2 29 (by decide))
  obtain ⟨v58, ee59⟩ : ∃ z : Int32, f1 30 = z := ⟨_, rfl⟩
  have b60 : Bd v58 (0) (12) := (by rw [← ee59]; exact b3.1 30 (by decide))
  obtain ⟨v61, ee62⟩ : ∃ z : Int32, f1 31 = z := ⟨_, rfl⟩
  have b63 : Bd v61 (0) (12) := (by rw [← ee62]; exact b3.2.1 31 (by decide))
  obtain ⟨v64, ee65⟩ : ∃ z : Int32, f1 33 = z := ⟨_, rfl⟩
  have b66 : Bd v64 (0) (12) := (by rw [← ee65]; exact b3.2.2.2.1 33 (by decide))
  obtain ⟨v67, ee68⟩ : ∃ z : Int32, f1 36 = z := ⟨_, rfl⟩
  have b69 : Bd v67 (0) (8) := (by rw [← ee68]; exact b3.2.2.2.2.1 36 (by decide))
  obtain ⟨v70, ee71⟩ : ∃ z : Int32, f1 38 = z := ⟨_, rfl⟩
  have b72 : Bd v70 (0) (3) := (by rw [← ee71]; exact b3.2.2.2.2.2.2.1 38 (by decide))
  obtain ⟨v73, ee74⟩ : ∃ z : Int32, f1 39 = z := ⟨_, rfl⟩
  have b75 : Bd v73 (0) (40) := (by rw [← ee74]; exact b3.2.2.2.2.2.2.2 39 (by decide))
  have q76 : elm (S 7) 9 = v4.toInt := (elm_of c2 9).trans (congrArg Int32.toInt (ee5))
  have b77 : Bd v4 (0) (39) := ⟨(b6).1, by omega⟩
  obtain ⟨f78, c79, b80⟩ := invM_12 hI
  obtain ⟨f81, c82, b83⟩ := invM_6 hI
  obtain ⟨v84, ee85⟩ : ∃ z : Int32, f81 0 = z := ⟨_, rfl⟩
  have b86 : Bd v84 (0) (40000) := (by rw [← ee85]; exact b83 0)
  obtain ⟨v87, ee88⟩ : ∃ z : Int32, f81 1 = z := ⟨_, rfl⟩
  have b89 : Bd v87 (0) (40000) := (by rw [← ee88]; exact b83 1)
  obtain ⟨v90, ee91⟩ : ∃ z : Int32, f81 2 = z := ⟨_, rfl⟩
  have b92 : Bd v90 (0) (40000) := (by rw [← ee91]; exact b83 2)
  obtain ⟨v93, ee94⟩ : ∃ z : Int32, f81 3 = z := ⟨_, rfl⟩
  have b95 : Bd v93 (0) (40000) := (by rw [← ee94]; exact b83 3)
  refine lv_iconst (v := 4) hx hb dX12_acts_0 (by decide) ?_
  refine lv_aload_n hx hb dX12_acts_1 rfl (lv_at hl 0 rfl) ?_
  obtain ⟨v96, v97, v99, v101, v103, v104, w105, v106, v108, v109, v110, v111, v113, v115, v117, v119, v121, v122, v123, c124, b98, b100, b102, b107, b112, b114, b116, b118, b120⟩ := invM_0 hI
  have c124 : S 0 = .inr (12, [.int v96, .ref (ad 1), .ref (ad 2), .ref (ad 3), .ref (ad 4), .ref (ad 5), .int v97, .int v99, .int v101, .int v103, .int v104, .long w105, .int v106, .int v108, .int v109, .int v110, .ref (ad 6), .ref (ad 7), .ref (ad 8), .ref (ad 9), .ref (ad 10), .ref (ad 11), .ref (ad 12), .ref (ad 13), .ref (ad 14), .ref (ad 15), .int v111, .int v113, .ref (ad 16), .int v115, .int v117, .int v119, .int v121, .int v122, .ref (ad 17), .ref (ad 18), .int v123, .ref (ad 19)]) := c124
  refine xget E hQ 0 (by decide) c124 rfl 17 (by decide) q1485 rfl dX12_acts_2 ?_
  refine lv_bipush (v := 9) hx hb dX12_acts_5 (by decide) ?_
  refine xiald E hQ 7 (by decide) c2 (vp_in_lit 9 50 (by decide)) dX12_acts_7 ?_
  refine sb_at (P := fun z => W _ _ _ _ _ _ _ _ _ _ _ _ _ _ _ (F0 _ _ _ (.int z :: _))) (show f1 (9 : Int32).toNatClampNeg = v4 from ee5) ?_
  refine lv_imul hx hb dX12_acts_8 ?_
  refine lv_topi (fun z125 e126 => ?_)
  have t127 := ib_cmul (q := 4) e126 (by decide) (by decide) b77 (by decide) (by decide)
  have b128 : Bd z125 (0) (156) := ib_mulb t127 (by decide) b77
  refine lv_istore (lv' := [(5, .int z125), (0, .ref (ad 0)), (1, .int a1), (2, .int a2), (3, .int a3), (4, .int a4)]) hx hb dX12_acts_9 hl (by decide) rfl (fun ls hl => ?_)
  refine lv_aload_n hx hb dX12_acts_11 rfl (lv_at hl 1 rfl) ?_
  refine xget E hQ 0 (by decide) c124 rfl 22 (by decide) q1490 rfl dX12_acts_12 ?_
  refine lv_iload hx hb dX12_acts_15 (lv_at hl 0 rfl) ?_
  refine lv_iload_n hx hb dX12_acts_17 rfl (lv_at hl 2 rfl) ?_
  refine xiast E hs hQ 12 (by decide) c79 (ib_in b128 (by decide) (by decide)) dX12_acts_18 (fun H locs S129 eS129 hQ => ?_)
  have hI := invM_up_12 hI eS129 ⟨_, rfl, ⟨upd_mn b80.1 (by rw [clampN b128]; omega), upd_mn b80.2 (by rw [clampN b128]; omega)⟩⟩
  have b131 : (∀ j, j % 4 = 1 → Bd ((upd f78 (z125 : Int32).toNatClampNeg a1) j) (0) (7)) ∧ (∀ j, j % 4 = 2 → Bd ((upd f78 (z125 : Int32).toNatClampNeg a1) j) (0) (400)) := ⟨upd_mn b80.1 (by rw [clampN b128]; omega), upd_mn b80.2 (by rw [clampN b128]; omega)⟩
  have c130 : S129 12 = .inl (g.2 0, 800, .inl (upd f78 (z125 : Int32).toNatClampNeg a1)) := up_at eS129 rfl
  refine lv_aload_n hx hb dX12_acts_19 rfl (lv_at hl 1 rfl) ?_
  have c132 : S129 0 = .inr (12, [.int v96, .ref (ad 1), .ref (ad 2), .ref (ad 3), .ref (ad 4), .ref (ad 5), .int v97, .int v99, .int v101, .int v103, .int v104, .long w105, .int v106, .int v108, .int v109, .int v110, .ref (ad 6), .ref (ad 7), .ref (ad 8), .ref (ad 9), .ref (ad 10), .ref (ad 11), .ref (ad 12), .ref (ad 13), .ref (ad 14), .ref (ad 15), .int v111, .int v113, .ref (ad 16), .int v115, .int v117, .int v119, .int v121, .int v122, .ref (ad 17), .ref (ad 18), .int v123, .ref (ad 19)]) := (up_ne eS129 (by decide) c124)
  refine xget E hQ 0 (by decide) c132 rfl 22 (by decide) q1490 rfl dX12_acts_20 ?_
  refine lv_iload hx hb dX12_acts_23 (lv_at hl 0 rfl) ?_
  refine lv_iconst (v := 1) hx hb dX12_acts_25 (by decide) ?_
  refine lv_iadd hx hb dX12_acts_26 ?_
  refine lv_topi (fun z133 e134 => ?_)
  have t135 := ib_add e134 b128 (by decide : Bd 1 (1) (1)) (by decide) (by decide)
  have b136 : Bd z133 (1) (157) := ib_addb t135 b128 (by decide : Bd 1 (1) (1))
  have t135 : z133.toInt = z125.toInt + 1 := fold_add t135 rfl (by decide)
  refine lv_iload_n hx hb dX12_acts_27 rfl (lv_at hl 3 rfl) ?_
  refine xiast E hs hQ 12 (by decide) c130 (ib_in b136 (by decide) (by decide)) dX12_acts_28 (fun H locs S137 eS137 hQ => ?_)
  have hI := invM_up_12 hI eS137 ⟨_, rfl, ⟨upd_m b131.1 ba2, upd_mn b131.2 (by rw [clampN b136]; omega)⟩⟩
  have b139 : (∀ j, j % 4 = 1 → Bd ((upd (upd f78 (z125 : Int32).toNatClampNeg a1) (z133 : Int32).toNatClampNeg a2) j) (0) (7)) ∧ (∀ j, j % 4 = 2 → Bd ((upd (upd f78 (z125 : Int32).toNatClampNeg a1) (z133 : Int32).toNatClampNeg a2) j) (0) (400)) := ⟨upd_m b131.1 ba2, upd_mn b131.2 (by rw [clampN b136]; omega)⟩
  have c138 : S137 12 = .inl (g.2 0, 800, .inl (upd (upd f78 (z125 : Int32).toNatClampNeg a1) (z133 : Int32).toNatClampNeg a2)) := up_at eS137 rfl
  refine lv_aload_n hx hb dX12_acts_29 rfl (lv_at hl 1 rfl) ?_
  have c140 : S137 0 = .inr (12, [.int v96, .ref (ad 1), .ref (ad 2), .ref (ad 3), .ref (ad 4), .ref (ad 5), .int v97, .int v99, .int v101, .int v103, .int v104, .long w105, .int v106, .int v108, .int v109, .int v110, .ref (ad 6), .ref (ad 7), .ref (ad 8), .ref (ad 9), .ref (ad 10), .ref (ad 11), .ref (ad 12), .ref (ad 13), .ref (ad 14), .ref (ad 15), .int v111, .int v113, .ref (ad 16), .int v115, .int v117, .int v119, .int v121, .int v122, .ref (ad 17), .ref (ad 18), .int v123, .ref (ad 19)]) := (up_ne eS137 (by decide) c132)
  refine xget E hQ 0 (by decide) c140 rfl 22 (by decide) q1490 rfl dX12_acts_30 ?_
  refine lv_iload hx hb dX12_acts_33 (lv_at hl 0 rfl) ?_
  refine lv_iconst (v := 2) hx hb dX12_acts_35 (by decide) ?_
  refine lv_iadd hx hb dX12_acts_36 ?_
  refine lv_topi (fun z141 e142 => ?_)
  have t143 := ib_add e142 b128 (by decide : Bd 2 (2) (2)) (by decide) (by decide)
  have b144 : Bd z141 (2) (158) := ib_addb t143 b128 (by decide : Bd 2 (2) (2))
  have t143 : z141.toInt = z125.toInt + 2 := fold_add t143 rfl (by decide)
  refine lv_iload_n hx hb dX12_acts_37 rfl (lv_at hl 4 rfl) ?_
  refine xiast E hs hQ 12 (by decide) c138 (ib_in b144 (by decide) (by decide)) dX12_acts_38 (fun H locs S145 eS145 hQ => ?_)
  have hI := invM_up_12 hI eS145 ⟨_, rfl, ⟨upd_mn b139.1 (by rw [clampN b144]; omega), upd_m b139.2 ba3⟩⟩
  have b147 : (∀ j, j % 4 = 1 → Bd ((upd (upd (upd f78 (z125 : Int32).toNatClampNeg a1) (z133 : Int32).toNatClampNeg a2) (z141 : Int32).toNatClampNeg a3) j) (0) (7)) ∧ (∀ j, j % 4 = 2 → Bd ((upd (upd (upd f78 (z125 : Int32).toNatClampNeg a1) (z133 : Int32).toNatClampNeg a2) (z141 : Int32).toNatClampNeg a3) j) (0) (400)) := ⟨upd_mn b139.1 (by rw [clampN b144]; omega), upd_m b139.2 ba3⟩
  have c146 : S145 12 = .inl (g.2 0, 800, .inl (upd (upd (upd f78 (z125 : Int32).toNatClampNeg a1) (z133 : Int32).toNatClampNeg a2) (z141 : Int32).toNatClampNeg a3)) := up_at eS145 rfl
  refine lv_aload_n hx hb dX12_acts_39 rfl (lv_at hl 1 rfl) ?_
  have c148 : S145 0 = .inr (12, [.int v96, .ref (ad 1), .ref (ad 2), .ref (ad 3), .ref (ad 4), .ref (ad 5), .int v97, .int v99, .int v101, .int v103, .int v104, .long w105, .int v106, .int v108, .int v109, .int v110, .ref (ad 6), .ref (ad 7), .ref (ad 8), .ref (ad 9), .ref (ad 10), .ref (ad 11), .ref (ad 12), .ref (ad 13), .ref (ad 14), .ref (ad 15), .int v111, .int v113, .ref (ad 16), .int v115, .int v117, .int v119, .int v121, .int v122, .ref (ad 17), .ref (ad 18), .int v123, .ref (ad 19)]) := (up_ne eS145 (by decide) c140)
  refine xget E hQ 0 (by decide) c148 rfl 22 (by decide) q1490 rfl dX12_acts_40 ?_
  refine lv_iload hx hb dX12_acts_43 (lv_at hl 0 rfl) ?_
  refine lv_iconst (v := 3) hx hb dX12_acts_45 (by decide) ?_
  refine lv_iadd hx hb dX12_acts_46 ?_
  refine lv_topi (fun z149 e150 => ?_)
  have t151 := ib_add e150 b128 (by decide : Bd 3 (3) (3)) (by decide) (by decide)
  have b152 : Bd z149 (3) (159) := ib_addb t151 b128 (by decide : Bd 3 (3) (3))
  have t151 : z149.toInt = z125.toInt + 3 := fold_add t151 rfl (by decide)
  refine lv_iload hx hb dX12_acts_47 (lv_at hl 5 rfl) ?_
  refine xiast E hs hQ 12 (by decide) c146 (ib_in b152 (by decide) (by decide)) dX12_acts_49 (fun H locs S153 eS153 hQ => ?_)
  have hI := invM_up_12 hI eS153 ⟨_, rfl, ⟨upd_mn b147.1 (by rw [clampN b152]; omega), upd_mn b147.2 (by rw [clampN b152]; omega)⟩⟩
  have b155 : (∀ j, j % 4 = 1 → Bd ((upd (upd (upd (upd f78 (z125 : Int32).toNatClampNeg a1) (z133 : Int32).toNatClampNeg a2) (z141 : Int32).toNatClampNeg a3) (z149 : Int32).toNatClampNeg a4) j) (0) (7)) ∧ (∀ j, j % 4 = 2 → Bd ((upd (upd (upd (upd f78 (z125 : Int32).toNatClampNeg a1) (z133 : Int32).toNatClampNeg a2) (z141 : Int32).toNatClampNeg a3) (z149 : Int32).toNatClampNeg a4) j) (0) (400)) := ⟨upd_mn b147.1 (by rw [clampN b152]; omega), upd_mn b147.2 (by rw [clampN b152]; omega)⟩
  have c154 : S153 12 = .inl (g.2 0, 800, .inl (upd (upd (upd (upd f78 (z125 : Int32).toNatClampNeg a1) (z133 : Int32).toNatClampNeg a2) (z141 : Int32).toNatClampNeg a3) (z149 : Int32).toNatClampNeg a4)) := up_at eS153 rfl
  refine lv_aload_n hx hb dX12_acts_50 rfl (lv_at hl 1 rfl) ?_
  have c156 : S153 0 = .inr (12, [.int v96, .ref (ad 1), .ref (ad 2), .ref (ad 3), .ref (ad 4), .ref (ad 5), .int v97, .int v99, .int v101, .int v103, .int v104, .long w105, .int v106, .int v108, .int v109, .int v110, .ref (ad 6), .ref (ad 7), .ref (ad 8), .ref (ad 9), .ref (ad 10), .ref (ad 11), .ref (ad 12), .ref (ad 13), .ref (ad 14), .ref (ad 15), .int v111, .int v113, .ref (ad 16), .int v115, .int v117, .int v119, .int v121, .int v122, .ref (ad 17), .ref (ad 18), .int v123, .ref (ad 19)]) := (up_ne eS153 (by decide) c148)
  refine xget E hQ 0 (by decide) c156 rfl 17 (by decide) q1485 rfl dX12_acts_51 ?_
  refine lv_bipush (v := 9) hx hb dX12_acts_54 (by decide) ?_
  refine lv_dup2_11 hx hb dX12_acts_56 rfl rfl ?_
  have c157 : S153 7 = .inl (g.2 0, 50, .inl f1) := (up_ne eS153 (by decide) (up_ne eS145 (by decide) (up_ne eS137 (by decide) (up_ne eS129 (by decide) c2))))
  refine xiald E hQ 7 (by decide) c157 (vp_in_lit 9 50 (by decide)) dX12_acts_57 ?_
  refine sb_at (P := fun z => W _ _ _ _ _ _ _ _ _ _ _ _ _ _ _ (F0 _ _ _ (.int z :: _))) (show f1 (9 : Int32).toNatClampNeg = v4 from ee5) ?_
  refine lv_iconst (v := 1) hx hb dX12_acts_58 (by decide) ?_
  refine lv_iadd hx hb dX12_acts_59 ?_
  refine lv_topi (fun z158 e159 => ?_)
  have t160 := ib_add e159 b77 (by decide : Bd 1 (1) (1)) (by decide) (by decide)
  have b161 : Bd z158 (1) (40) := ib_addb t160 b77 (by decide : Bd 1 (1) (1))
  have t160 : z158.toInt = v4.toInt + 1 := fold_add t160 rfl (by decide)
  refine xiast E hs hQ 7 (by decide) c157 (vp_in_lit 9 50 (by decide)) dX12_acts_60 (fun H locs S162 eS162 hQ => ?_)
  have hI := invM_up_7 hI eS162 ⟨_, rfl, ⟨upd_mn b3.1 (by decide), upd_mn b3.2.1 (by decide), upd_mn b3.2.2.1 (by decide), upd_mn b3.2.2.2.1 (by decide), upd_mn b3.2.2.2.2.1 (by decide), upd_mn b3.2.2.2.2.2.1 (by decide), upd_mn b3.2.2.2.2.2.2.1 (by decide), upd_m b3.2.2.2.2.2.2.2 (ib_wk b161 (by decide) (by decide))⟩⟩
  have b164 : (∀ j, j % 10 = 0 → Bd ((upd f1 (9 : Int32).toNatClampNeg z158) j) (0) (12)) ∧ (∀ j, j % 10 = 1 → Bd ((upd f1 (9 : Int32).toNatClampNeg z158) j) (0) (12)) ∧ (∀ j, j % 10 = 2 → Bd ((upd f1 (9 : Int32).toNatClampNeg z158) j) (0) (6)) ∧ (∀ j, j % 10 = 3 → Bd ((upd f1 (9 : Int32).toNatClampNeg z158) j) (0) (12)) ∧ (∀ j, j % 10 = 6 → Bd ((upd f1 (9 : Int32).toNatClampNeg z158) j) (0) (8)) ∧ (∀ j, j % 10 = 7 → Bd ((upd f1 (9 : Int32).toNatClampNeg z158) j) (0) (6)) ∧ (∀ j, j % 10 = 8 → Bd ((upd f1 (9 : Int32).toNatClampNeg z158) j) (0) (3)) ∧ (∀ j, j % 10 = 9 → Bd ((upd f1 (9 : Int32).toNatClampNeg z158) j) (0) (40)) := ⟨upd_mn b3.1 (by decide), upd_mn b3.2.1 (by decide), upd_mn b3.2.2.1 (by decide), upd_mn b3.2.2.2.1 (by decide), upd_mn b3.2.2.2.2.1 (by decide), upd_mn b3.2.2.2.2.2.1 (by decide), upd_mn b3.2.2.2.2.2.2.1 (by decide), upd_m b3.2.2.2.2.2.2.2 (ib_wk b161 (by decide) (by decide))⟩
  have c163 : S162 7 = .inl (g.2 0, 50, .inl (upd f1 (9 : Int32).toNatClampNeg z158)) := up_at eS162 rfl
  have q165 : elm (S162 7) 9 = z158.toInt := (elm_of c163 9).trans (congrArg Int32.toInt ((upd_s)))
  have q166 : elm (S 7) 0 = v7.toInt := (elm_of c2 0).trans (congrArg Int32.toInt (ee8))
  have q167 : elm (S162 7) 0 = v7.toInt := (elm_of c163 0).trans (congrArg Int32.toInt (((upd_o (by decide)).trans (ee8))))
  have q168 : elm (S 7) 1 = v10.toInt := (elm_of c2 1).trans (congrArg Int32.toInt (ee11))
  have q169 : elm (S162 7) 1 = v10.toInt := (elm_of c163 1).trans (congrArg Int32.toInt (((upd_o (by decide)).trans (ee11))))
  have q170 : elm (S 7) 3 = v13.toInt := (elm_of c2 3).trans (congrArg Int32.toInt (ee14))
  have q171 : elm (S162 7) 3 = v13.toInt := (elm_of c163 3).trans (congrArg Int32.toInt (((upd_o (by decide)).trans (ee14))))
  have q172 : elm (S 7) 6 = v16.toInt := (elm_of c2 6).trans (congrArg Int32.toInt (ee17))
  have q173 : elm (S162 7) 6 = v16.toInt := (elm_of c163 6).trans (congrArg Int32.toInt (((upd_o (by decide)).trans (ee17))))
  have q174 : elm (S 7) 8 = v19.toInt := (elm_of c2 8).trans (congrArg Int32.toInt (ee20))
  have q175 : elm (S162 7) 8 = v19.toInt := (elm_of c163 8).trans (congrArg Int32.toInt (((upd_o (by decide)).trans (ee20))))
  have q176 : elm (S 7) 10 = v22.toInt := (elm_of c2 10).trans (congrArg Int32.toInt (ee23))
  have q177 : elm (S162 7) 10 = v22.toInt := (elm_of c163 10).trans (congrArg Int32.toInt (((upd_o (by decide)).trans (ee23))))
  have q178 : elm (S 7) 11 = v25.toInt := (elm_of c2 11).trans (congrArg Int32.toInt (ee26))
  have q179 : elm (S162 7) 11 = v25.toInt := (elm_of c163 11).trans (congrArg Int32.toInt (((upd_o (by decide)).trans (ee26))))
  have q180 : elm (S 7) 13 = v28.toInt := (elm_of c2 13).trans (congrArg Int32.toInt (ee29))
  have q181 : elm (S162 7) 13 = v28.toInt := (elm_of c163 13).trans (congrArg Int32.toInt (((upd_o (by decide)).trans (ee29))))
  have q182 : elm (S 7) 16 = v31.toInt := (elm_of c2 16).trans (congrArg Int32.toInt (ee32))
  have q183 : elm (S162 7) 16 = v31.toInt := (elm_of c163 16).trans (congrArg Int32.toInt (((upd_o (by decide)).trans (ee32))))
  have q184 : elm (S 7) 18 = v34.toInt := (elm_of c2 18).trans (congrArg Int32.toInt (ee35))
  have q185 : elm (S162 7) 18 = v34.toInt := (elm_of c163 18).trans (congrArg Int32.toInt (((upd_o (by decide)).trans (ee35))))
  have q186 : elm (S 7) 19 = v37.toInt := (elm_of c2 19).trans (congrArg Int32.toInt (ee38))
  have q187 : elm (S162 7) 19 = v37.toInt := (elm_of c163 19).trans (congrArg Int32.toInt (((upd_o (by decide)).trans (ee38))))
  have q188 : elm (S 7) 20 = v40.toInt := (elm_of c2 20).trans (congrArg Int32.toInt (ee41))
  have q189 : elm (S162 7) 20 = v40.toInt := (elm_of c163 20).trans (congrArg Int32.toInt (((upd_o (by decide)).trans (ee41))))
  have q190 : elm (S 7) 21 = v43.toInt := (elm_of c2 21).trans (congrArg Int32.toInt (ee44))
  have q191 : elm (S162 7) 21 = v43.toInt := (elm_of c163 21).trans (congrArg Int32.toInt (((upd_o (by decide)).trans (ee44))))
  have q192 : elm (S 7) 23 = v46.toInt := (elm_of c2 23).trans (congrArg Int32.toInt (ee47))
  have q193 : elm (S162 7) 23 = v46.toInt := (elm_of c163 23).trans (congrArg Int32.toInt (((upd_o (by decide)).trans (ee47))))
  have q194 : elm (S 7) 26 = v49.toInt := (elm_of c2 26).trans (congrArg Int32.toInt (ee50))
  have q195 : elm (S162 7) 26 = v49.toInt := (elm_of c163 26).trans (congrArg Int32.toInt (((upd_o (by decide)).trans (ee50))))
  have q196 : elm (S 7) 28 = v52.toInt := (elm_of c2 28).trans (congrArg Int32.toInt (ee53))
  have q197 : elm (S162 7) 28 = v52.toInt := (elm_of c163 28).trans (congrArg Int32.toInt (((upd_o (by decide)).trans (ee53))))
  have q198 : elm (S 7) 29 = v55.toInt := (elm_of c2 29).trans (congrArg Int32.toInt (ee56))
  have q199 : elm (S162 7) 29 = v55.toInt := (elm_of c163 29).trans (congrArg Int32.toInt (((upd_o (by decide)).trans (ee56))))
  have q200 : elm (S 7) 30 = v58.toInt := (elm_of c2 30).trans (congrArg Int32.toInt (ee59))
  have q201 : elm (S162 7) 30 = v58.toInt := (elm_of c163 30).trans (congrArg Int32.toInt (((upd_o (by decide)).trans (ee59))))
  have q202 : elm (S 7) 31 = v61.toInt := (elm_of c2 31).trans (congrArg Int32.toInt (ee62))
  have q203 : elm (S162 7) 31 = v61.toInt := (elm_of c163 31).trans (congrArg Int32.toInt (((upd_o (by decide)).trans (ee62))))
  have q204 : elm (S 7) 33 = v64.toInt := (elm_of c2 33).trans (congrArg Int32.toInt (ee65))
  have q205 : elm (S162 7) 33 = v64.toInt := (elm_of c163 33).trans (congrArg Int32.toInt (((upd_o (by decide)).trans (ee65))))
  have q206 : elm (S 7) 36 = v67.toInt := (elm_of c2 36).trans (congrArg Int32.toInt (ee68))
  have q207 : elm (S162 7) 36 = v67.toInt := (elm_of c163 36).trans (congrArg Int32.toInt (((upd_o (by decide)).trans (ee68))))
  have q208 : elm (S 7) 38 = v70.toInt := (elm_of c2 38).trans (congrArg Int32.toInt (ee71))
  have q209 : elm (S162 7) 38 = v70.toInt := (elm_of c163 38).trans (congrArg Int32.toInt (((upd_o (by decide)).trans (ee71))))
  have q210 : elm (S 7) 39 = v73.toInt := (elm_of c2 39).trans (congrArg Int32.toInt (ee74))
  have q211 : elm (S162 7) 39 = v73.toInt := (elm_of c163 39).trans (congrArg Int32.toInt (((upd_o (by decide)).trans (ee74))))
  have c212 : S162 12 = .inl (g.2 0, 800, .inl (upd (upd (upd (upd f78 (z125 : Int32).toNatClampNeg a1) (z133 : Int32).toNatClampNeg a2) (z141 : Int32).toNatClampNeg a3) (z149 : Int32).toNatClampNeg a4)) := (up_ne eS162 (by decide) c154)
  exact xrv E hr hlk hQ (⟨hI, (up_o (up_o (up_o (up_o (up_o o_refl eS129 (by decide)) eS137 (by decide)) eS145 (by decide)) eS153 (by decide)) eS162 (by decide)), ⟨by omega, by omega⟩, ⟨by omega, by omega⟩, ⟨by omega, by omega⟩, ⟨by omega, by omega⟩, ⟨by omega, by omega⟩, ⟨by omega, by omega⟩, ⟨by omega, by omega⟩, ⟨by omega, by omega⟩, ⟨by omega, by omega⟩, ⟨by omega, by omega⟩, ⟨by omega, by omega⟩, ⟨by omega, by omega⟩, ⟨by omega, by omega⟩, ⟨by omega, by omega⟩, ⟨by omega, by omega⟩, ⟨by omega, by omega⟩, ⟨by omega, by omega⟩, ⟨by omega, by omega⟩, ⟨by omega, by omega⟩, ⟨by omega, by omega⟩, ⟨by omega, by omega⟩, ⟨by omega, by omega⟩, ⟨by omega, by omega⟩, ⟨by omega, by omega⟩, (at_add (q := 0) c2 c79 c163 c212 b3.2.2.2.2.2.2.2 ee5 (by omega) b77 (by omega) (by omega) (by omega) (by omega) hw (by decide) hAT0), (at_add (q := 1) c2 c79 c163 c212 b3.2.2.2.2.2.2.2 ee5 (by omega) b77 (by omega) (by omega) (by omega) (by omega) hw (by decide) hAT1), (at_add (q := 2) c2 c79 c163 c212 b3.2.2.2.2.2.2.2 ee5 (by omega) b77 (by omega) (by omega) (by omega) (by omega) hw (by decide) hAT2), (at_add (q := 3) c2 c79 c163 c212 b3.2.2.2.2.2.2.2 ee5 (by omega) b77 (by omega) (by omega) (by omega) (by omega) hw (by decide) hAT3)⟩) dX12_acts_61
set_option maxHeartbeats 4000000 in
set_option maxRecDepth 100000 in
theorem gX12_sit_0 (l : Launch) (g : GG) (ad : Nat → Nat) (hD : Dj ad 20) (S : SS) (hI : InvM g ad S) (a1 : Int32) (a2 : Int32) (hq1 : 0 ≤ 12 * elm (S 7) 1 + (-1) * elm (S 7) 0) (hq2 : 0 ≤ 12 * elm (S 7) 3 + (-1) * elm (S 7) 0) (hq3 : 0 ≤ 8 * elm (S 7) 0 + (-1) * elm (S 7) 6) (hq4 : 0 ≤ 3 * elm (S 7) 0 + (-1) * elm (S 7) 8) (hq5 : 0 ≤ 40000 * elm (S 7) 0 + (-1) * elm (S 6) 0) (hq6 : 0 ≤ 12 * elm (S 7) 11 + (-1) * elm (S 7) 10) (hq7 : 0 ≤ 12 * elm (S 7) 13 + (-1) * elm (S 7) 10) (hq8 : 0 ≤ 8 * elm (S 7) 10 + (-1) * elm (S 7) 16) (hq9 : 0 ≤ 3 * elm (S 7) 10 + (-1) * elm (S 7) 18) (hq10 : 0 ≤ 40000 * elm (S 7) 10 + (-1) * elm (S 6) 1) (hq11 : 0 ≤ 12 * elm (S 7) 21 + (-1) * elm (S 7) 20) (hq12 : 0 ≤ 12 * elm (S 7) 23 + (-1) * elm (S 7) 20) (hq13 : 0 ≤ 8 * elm (S 7) 20 + (-1) * elm (S 7) 26) (hq14 : 0 ≤ 3 * elm (S 7) 20 + (-1) * elm (S 7) 28) (hq15 : 0 ≤ 40000 * elm (S 7) 20 + (-1) * elm (S 6) 2) (hq16 : 0 ≤ 12 * elm (S 7) 31 + (-1) * elm (S 7) 30) (hq17 : 0 ≤ 12 * elm (S 7) 33 + (-1) * elm (S 7) 30) (hq18 : 0 ≤ 8 * elm (S 7) 30 + (-1) * elm (S 7) 36) (hq19 : 0 ≤ 3 * elm (S 7) 30 + (-1) * elm (S 7) 38) (hq20 : 0 ≤ 40000 * elm (S 7) 30 + (-1) * elm (S 6) 3) (hAT0 : ATp (S 7) (S 12) 0) (hAT1 : ATp (S 7) (S 12) 1) (hAT2 : ATp (S 7) (S 12) 2) (hAT3 : ATp (S 7) (S 12) 3) : Met l yX12_sit (wG (.code yX12_sit cX12_sit 3 (some .int))) (Rm 2) (XPre g ad 20 S [.ref (ad 0), .int a1, .int a2]) (va_Qi (fun r S' => InvM g ad S' ∧ (∀ j, j ∉ ([0, 7, 12, 14, 15] : List Nat) → S' j = S j) ∧ Bd r (-5) (11) ∧ (0 ≤ 12 * elm (S' 7) 1 + (-1) * elm (S' 7) 0) ∧ (0 ≤ 12 * elm (S' 7) 3 + (-1) * elm (S' 7) 0) ∧ (0 ≤ 8 * elm (S' 7) 0 + (-1) * elm (S' 7) 6) ∧ (0 ≤ 3 * elm (S' 7) 0 + (-1) * elm (S' 7) 8) ∧ (0 ≤ 40000 * elm (S' 7) 0 + (-1) * elm (S' 6) 0) ∧ (0 ≤ 12 * elm (S' 7) 11 + (-1) * elm (S' 7) 10) ∧ (0 ≤ 12 * elm (S' 7) 13 + (-1) * elm (S' 7) 10) ∧ (0 ≤ 8 * elm (S' 7) 10 + (-1) * elm (S' 7) 16) ∧ (0 ≤ 3 * elm (S' 7) 10 + (-1) * elm (S' 7) 18) ∧ (0 ≤ 40000 * elm (S' 7) 10 + (-1) * elm (S' 6) 1) ∧ (0 ≤ 12 * elm (S' 7) 21 + (-1) * elm (S' 7) 20) ∧ (0 ≤ 12 * elm (S' 7) 23 + (-1) * elm (S' 7) 20) ∧ (0 ≤ 8 * elm (S' 7) 20 + (-1) * elm (S' 7) 26) ∧ (0 ≤ 3 * elm (S' 7) 20 + (-1) * elm (S' 7) 28) ∧ (0 ≤ 40000 * elm (S' 7) 20 + (-1) * elm (S' 6) 2) ∧ (0 ≤ 12 * elm (S' 7) 31 + (-1) * elm (S' 7) 30) ∧ (0 ≤ 12 * elm (S' 7) 33 + (-1) * elm (S' 7) 30) ∧ (0 ≤ 8 * elm (S' 7) 30 + (-1) * elm (S' 7) 36) ∧ (0 ≤ 3 * elm (S' 7) 30 + (-1) * elm (S' 7) 38) ∧ (0 ≤ 40000 * elm (S' 7) 30 + (-1) * elm (S' 6) 3) ∧ (ATp (S' 7) (S' 12) 0) ∧ (ATp (S' 7) (S' 12) 1) ∧ (ATp (S' 7) (S' 12) 2) ∧ (ATp (S' 7) (S' 12) 3)) (QB g ad 20) (FA ad 20)) 0 0 (FA ad 20) := by
  refine xmet cX12_sit "EbbWreckModel" (by decide) rfl (Nat.le_of_ble_eq_true rfl) (fun p e s m below meth c E hr hlk hml hQ ls hl => ?_)
  have hx := E.1
  have hb := E.2.1
  have hs : Sp ad 20 (FA ad 20) := Sp.fa hD
  have hl : lv_has ls 3 [(0, .ref (ad 0)), (1, .int a1), (2, .int a2)] := hl
  obtain ⟨f1, c2, b3⟩ := invM_7 hI
  obtain ⟨v4, ee5⟩ : ∃ z : Int32, f1 1 = z := ⟨_, rfl⟩
  have b6 : Bd v4 (0) (12) := (by rw [← ee5]; exact b3.2.1 1 (by decide))
  obtain ⟨v7, ee8⟩ : ∃ z : Int32, f1 0 = z := ⟨_, rfl⟩
  have b9 : Bd v7 (0) (12) := (by rw [← ee8]; exact b3.1 0 (by decide))
  obtain ⟨v10, ee11⟩ : ∃ z : Int32, f1 3 = z := ⟨_, rfl⟩
  have b12 : Bd v10 (0) (12) := (by rw [← ee11]; exact b3.2.2.2.1 3 (by decide))
  obtain ⟨v13, ee14⟩ : ∃ z : Int32, f1 6 = z := ⟨_, rfl⟩
  have b15 : Bd v13 (0) (8) := (by rw [← ee14]; exact b3.2.2.2.2.1 6 (by decide))
  obtain ⟨v16, ee17⟩ : ∃ z : Int32, f1 8 = z := ⟨_, rfl⟩
  have b18 : Bd v16 (0) (3) := (by rw [← ee17]; exact b3.2.2.2.2.2.2.1 8 (by decide))
  obtain ⟨f19, c20, b21⟩ := invM_6 hI
  obtain ⟨v22, ee23⟩ : ∃ z : Int32, f19 0 = z := ⟨_, rfl⟩
  have b24 : Bd v22 (0) (40000) := (by rw [← ee23]; exact b21 0)
  obtain ⟨v25, ee26⟩ : ∃ z : Int32, f1 11 = z := ⟨_, rfl⟩
  have b27 : Bd v25 (0) (12) := (by rw [← ee26]; exact b3.2.1 11 (by decide))
  obtain ⟨v28, ee29⟩ : ∃ z : Int32, f1 10 = z := ⟨_, rfl⟩
  have b30 : Bd v28 (0) (12) := (by rw [← ee29]; exact b3.1 10 (by decide))
  obtain ⟨v31, ee32⟩ : ∃ z : Int32, f1 13 = z := ⟨_, rfl⟩
  have b33 : Bd v31 (0) (12) := (by rw [← ee32]; exact b3.2.2.2.1 13 (by decide))
  obtain ⟨v34, ee35⟩ : ∃ z : Int32, f1 16 = z := ⟨_, rfl⟩
  have b36 : Bd v34 (0) (8) := (by rw [← ee35]; exact b3.2.2.2.2.1 16 (by decide))
  obtain ⟨v37, ee38⟩ : ∃ z : Int32, f1 18 = z := ⟨_, rfl⟩
  have b39 : Bd v37 (0) (3) := (by rw [← ee38]; exact b3.2.2.2.2.2.2.1 18 (by decide))
  obtain ⟨v40, ee41⟩ : ∃ z : Int32, f19 1 = z := ⟨_, rfl⟩
  have b42 : Bd v40 (0) (40000) := (by rw [← ee41]; exact b21 1)
  obtain ⟨v43, ee44⟩ : ∃ z : Int32, f1 21 = z := ⟨_, rfl⟩
  have b45 : Bd v43 (0) (12) := (by rw [← ee44]; exact b3.2.1 21 (by decide))
  obtain ⟨v46, ee47⟩ : ∃ z : Int32, f1 20 = z := ⟨_, rfl⟩
  have b48 : Bd v46 (0) (12) := (by rw [← ee47]; exact b3.1 20 (by decide))
  obtain ⟨v49, ee50⟩ : ∃ z : Int32, f1 23 = z := ⟨_, rfl⟩
  have b51 : Bd v49 (0) (12) := (by rw [← ee50]; exact b3.2.2.2.1 23 (by decide))
  obtain ⟨v52, ee53⟩ : ∃ z : Int32, f1 26 = z := ⟨_, rfl⟩
  have b54 : Bd v52 (0) (8) := (by rw [← ee53]; exact b3.2.2.2.2.1 26 (by decide))
  obtain ⟨v55, ee56⟩ : ∃ z : Int32, f1 28 = z := ⟨_, rfl⟩
  have b57 : Bd v55 (0) (3) := (by rw [← ee56]; exact b3.2.2.2.2.2.2.1 28 (by decide))
  obtain ⟨v58, ee59⟩ : ∃ z : Int32, f19 2 = z := ⟨_, rfl⟩
  have b60 : Bd v58 (0) (40000) := (by rw [← ee59]; exact b21 2)
  obtain ⟨v61, ee62⟩ : ∃ z : Int32, f1 31 = z := ⟨_, rfl⟩
  have b63 : Bd v61 (0) (12) := (by rw [← ee62]; exact b3.2.1 31 (by decide))
  obtain ⟨v64, ee65⟩ : ∃ z : Int32, f1 30 = z := ⟨_, rfl⟩
  have b66 : Bd v64 (0) (12) := (by rw [← ee65]; exact b3.1 30 (by decide))
  obtain ⟨v67, ee68⟩ : ∃ z : Int32, f1 33 = z := ⟨_, rfl⟩
  have b69 : Bd v67 (0) (12) := (by rw [← ee68]; exact b3.2.2.2.1 33 (by decide))
  obtain ⟨v70, ee71⟩ : ∃ z : Int32, f1 36 = z := ⟨_, rfl⟩
  have b72 : Bd v70 (0) (8) := (by rw [← ee71]; exact b3.2.2.2.2.1 36 (by decide))
  obtain ⟨v73, ee74⟩ : ∃ z : Int32, f1 38 = z := ⟨_, rfl⟩
  have b75 : Bd v73 (0) (3) := (by rw [← ee74]; exact b3.2.2.2.2.2.2.1 38 (by decide))
  obtain ⟨v76, ee77⟩ : ∃ z : Int32, f19 3 = z := ⟨_, rfl⟩
  have b78 : Bd v76 (0) (40000) := (by rw [← ee77]; exact b21 3)
  have q79 : elm (S 7) 1 = v4.toInt := (elm_of c2 1).trans (congrArg Int32.toInt (ee5))
  have q80 : elm (S 7) 0 = v7.toInt := (elm_of c2 0).trans (congrArg Int32.toInt (ee8))
  have q81 : elm (S 7) 3 = v10.toInt := (elm_of c2 3).trans (congrArg Int32.toInt (ee11))
  have q82 : elm (S 7) 6 = v13.toInt := (elm_of c2 6).trans (congrArg Int32.toInt (ee14))
  have q83 : elm (S 7) 8 = v16.toInt := (elm_of c2 8).trans (congrArg Int32.toInt (ee17))
  have q84 : elm (S 6) 0 = v22.toInt := (elm_of c20 0).trans (congrArg Int32.toInt (ee23))
  have q85 : elm (S 7) 11 = v25.toInt := (elm_of c2 11).trans (congrArg Int32.toInt (ee26))
  have q86 : elm (S 7) 10 = v28.toInt := (elm_of c2 10).trans (congrArg Int32.toInt (ee29))
  have q87 : elm (S 7) 13 = v31.toInt := (elm_of c2 13).trans (congrArg Int32.toInt (ee32))
  have q88 : elm (S 7) 16 = v34.toInt := (elm_of c2 16).trans (congrArg Int32.toInt (ee35))
  have q89 : elm (S 7) 18 = v37.toInt := (elm_of c2 18).trans (congrArg Int32.toInt (ee38))
  have q90 : elm (S 6) 1 = v40.toInt := (elm_of c20 1).trans (congrArg Int32.toInt (ee41))
  have q91 : elm (S 7) 21 = v43.toInt := (elm_of c2 21).trans (congrArg Int32.toInt (ee44))
  have q92 : elm (S 7) 20 = v46.toInt := (elm_of c2 20).trans (congrArg Int32.toInt (ee47))
  have q93 : elm (S 7) 23 = v49.toInt := (elm_of c2 23).trans (congrArg Int32.toInt (ee50))
  have q94 : elm (S 7) 26 = v52.toInt := (elm_of c2 26).trans (congrArg Int32.toInt (ee53))
  have q95 : elm (S 7) 28 = v55.toInt := (elm_of c2 28).trans (congrArg Int32.toInt (ee56))
  have q96 : elm (S 6) 2 = v58.toInt := (elm_of c20 2).trans (congrArg Int32.toInt (ee59))
  have q97 : elm (S 7) 31 = v61.toInt := (elm_of c2 31).trans (congrArg Int32.toInt (ee62))
  have q98 : elm (S 7) 30 = v64.toInt := (elm_of c2 30).trans (congrArg Int32.toInt (ee65))
  have q99 : elm (S 7) 33 = v67.toInt := (elm_of c2 33).trans (congrArg Int32.toInt (ee68))
  have q100 : elm (S 7) 36 = v70.toInt := (elm_of c2 36).trans (congrArg Int32.toInt (ee71))
  have q101 : elm (S 7) 38 = v73.toInt := (elm_of c2 38).trans (congrArg Int32.toInt (ee74))
  have q102 : elm (S 6) 3 = v76.toInt := (elm_of c20 3).trans (congrArg Int32.toInt (ee77))
  obtain ⟨f103, c104, b105⟩ := invM_12 hI
  obtain ⟨v106, ee107⟩ : ∃ z : Int32, f1 9 = z := ⟨_, rfl⟩
  have b108 : Bd v106 (0) (40) := (by rw [← ee107]; exact b3.2.2.2.2.2.2.2 9 (by decide))
  obtain ⟨v109, ee110⟩ : ∃ z : Int32, f1 19 = z := ⟨_, rfl⟩
  have b111 : Bd v109 (0) (40) := (by rw [← ee110]; exact b3.2.2.2.2.2.2.2 19 (by decide))
  obtain ⟨v112, ee113⟩ : ∃ z : Int32, f1 29 = z := ⟨_, rfl⟩
  have b114 : Bd v112 (0) (40) := (by rw [← ee113]; exact b3.2.2.2.2.2.2.2 29 (by decide))
  obtain ⟨v115, ee116⟩ : ∃ z : Int32, f1 39 = z := ⟨_, rfl⟩
  have b117 : Bd v115 (0) (40) := (by rw [← ee116]; exact b3.2.2.2.2.2.2.2 39 (by decide))
  refine lv_aload_n hx hb dX12_sit_0 rfl (lv_at hl 0 rfl) ?_
  refine lv_iconst (v := 0) hx hb dX12_sit_1 (by decide) ?_
  obtain ⟨v118, v119, v121, v123, v125, v126, w127, v128, v130, v131, v132, v133, v135, v137, v139, v141, v143, v144, v145, c146, b120, b122, b124, b129, b134, b136, b138, b140, b142⟩ := invM_0 hI
  have c146 : S 0 = .inr (12, [.int v118, .ref (ad 1), .ref (ad 2), .ref (ad 3), .ref (ad 4), .ref (ad 5), .int v119, .int v121, .int v123, .int v125, .int v126, .long w127, .int v128, .int v130, .int v131, .int v132, .ref (ad 6), .ref (ad 7), .ref (ad 8), .ref (ad 9), .ref (ad 10), .ref (ad 11), .ref (ad 12), .ref (ad 13), .ref (ad 14), .ref (ad 15), .int v133, .int v135, .ref (ad 16), .int v137, .int v139, .int v141, .int v143, .int v144, .ref (ad 17), .ref (ad 18), .int v145, .ref (ad 19)]) := c146
  refine xputi E hs hQ 0 (by decide) c146 rfl 0 (by decide) q1468 rfl rfl (Nat.le_of_ble_eq_true rfl) dX12_sit_2 (fun H locs S147 eS147 hQ => ?_)
  have hI := invM_up_0 hI eS147 ⟨0, v119, v121, v123, v125, v126, w127, v128, v130, v131, v132, v133, v135, v137, v139, v141, v143, v144, v145, rfl, b120, b122, b124, b129, b134, b136, b138, b140, b142⟩
  have c148 : S147 0 = .inr (12, [.int 0, .ref (ad 1), .ref (ad 2), .ref (ad 3), .ref (ad 4), .ref (ad 5), .int v119, .int v121, .int v123, .int v125, .int v126, .long w127, .int v128, .int v130, .int v131, .int v132, .ref (ad 6), .ref (ad 7), .ref (ad 8), .ref (ad 9), .ref (ad 10), .ref (ad 11), .ref (ad 12), .ref (ad 13), .ref (ad 14), .ref (ad 15), .int v133, .int v135, .ref (ad 16), .int v137, .int v139, .int v141, .int v143, .int v144, .ref (ad 17), .ref (ad 18), .int v145, .ref (ad 19)]) := up_at eS147 rfl
  refine lv_aload_n hx hb dX12_sit_5 rfl (lv_at hl 0 rfl) ?_
  refine lv_iload_n hx hb dX12_sit_6 rfl (lv_at hl 1 rfl) ?_
  have c149 : S147 7 = .inl (g.2 0, 50, .inl f1) := (up_ne eS147 (by decide) c2)
  refine xcVi E hs hQ hml hl.1 0 (gX12_isSitter_0 l g ad hD S147 hI a1) mX12_isSitter q1816 (by decide) c148 rfl rfl ⟨(Nat.le_of_ble_eq_true rfl), (Nat.le_of_ble_eq_true rfl)⟩ ⟨(Nat.le_of_ble_eq_true rfl), (Nat.le_of_ble_eq_true rfl)⟩ (Nat.le_of_ble_eq_true rfl) rfl dX12_sit_7 (fun r150 S150 H locs hp150 hQ _ => ?_)
  obtain ⟨rfl, b150, g150_0⟩ := hp150
  have q151 : elm (S147 7) 8 = v16.toInt := (elm_of c149 8).trans (congrArg Int32.toInt (ee17))
  refine lv_if_eq (tgt := 22) hx hb dX12_sit_10 (by decide) (fun k152 => ?_) (fun k152 => ?_)
  · have h153 := ib_eq k152
    have b154 : Bd r150 (0) (0) := ⟨(b150).1, ((rf_eq b150 (by decide : Bd 0 (0) (0)) h153).1).2⟩
    clear g150_0
    refine lv_bipush (v := (-2)) hx hb dX12_sit_22 (by decide) ?_
    have q155 : elm (S147 7) 1 = v4.toInt := (elm_of c149 1).trans (congrArg Int32.toInt (ee5))
    have q156 : elm (S147 7) 0 = v7.toInt := (elm_of c149 0).trans (congrArg Int32.toInt (ee8))
    have q157 : elm (S147 7) 3 = v10.toInt := (elm_of c149 3).trans (congrArg Int32.toInt (ee11))
    have q158 : elm (S147 7) 6 = v13.toInt := (elm_of c149 6).trans (congrArg Int32.toInt (ee14))
    have c159 : S147 6 = .inl (g.2 0, 5, .inl f19) := (up_ne eS147 (by decide) c20)
    have q160 : elm (S147 6) 0 = v22.toInt := (elm_of c159 0).trans (congrArg Int32.toInt (ee23))
    have q161 : elm (S147 7) 11 = v25.toInt := (elm_of c149 11).trans (congrArg Int32.toInt (ee26))
    have q162 : elm (S147 7) 10 = v28.toInt := (elm_of c149 10).trans (congrArg Int32.toInt (ee29))
    have q163 : elm (S147 7) 13 = v31.toInt := (elm_of c149 13).trans (congrArg Int32.toInt (ee32))
    have q164 : elm (S147 7) 16 = v34.toInt := (elm_of c149 16).trans (congrArg Int32.toInt (ee35))
    have q165 : elm (S147 7) 18 = v37.toInt := (elm_of c149 18).trans (congrArg Int32.toInt (ee38))
    have q166 : elm (S147 6) 1 = v40.toInt := (elm_of c159 1).trans (congrArg Int32.toInt (ee41))
    have q167 : elm (S147 7) 21 = v43.toInt := (elm_of c149 21).trans (congrArg Int32.toInt (ee44))
    have q168 : elm (S147 7) 20 = v46.toInt := (elm_of c149 20).trans (congrArg Int32.toInt (ee47))
    have q169 : elm (S147 7) 23 = v49.toInt := (elm_of c149 23).trans (congrArg Int32.toInt (ee50))
    have q170 : elm (S147 7) 26 = v52.toInt := (elm_of c149 26).trans (congrArg Int32.toInt (ee53))
    have q171 : elm (S147 7) 28 = v55.toInt := (elm_of c149 28).trans (congrArg Int32.toInt (ee56))
    have q172 : elm (S147 6) 2 = v58.toInt := (elm_of c159 2).trans (congrArg Int32.toInt (ee59))
    have q173 : elm (S147 7) 31 = v61.toInt := (elm_of c149 31).trans (congrArg Int32.toInt (ee62))
    have q174 : elm (S147 7) 30 = v64.toInt := (elm_of c149 30).trans (congrArg Int32.toInt (ee65))
    have q175 : elm (S147 7) 33 = v67.toInt := (elm_of c149 33).trans (congrArg Int32.toInt (ee68))
    have q176 : elm (S147 7) 36 = v70.toInt := (elm_of c149 36).trans (congrArg Int32.toInt (ee71))
    have q177 : elm (S147 7) 38 = v73.toInt := (elm_of c149 38).trans (congrArg Int32.toInt (ee74))
    have q178 : elm (S147 6) 3 = v76.toInt := (elm_of c159 3).trans (congrArg Int32.toInt (ee77))
    exact xri E hr hlk hQ (⟨hI, (up_o o_refl eS147 (by decide)), (ib_wk (by decide : Bd (-2) (-2) (-2)) (by decide) (by decide)), (by omega), (by omega), (by omega), (by omega), (by omega), (by omega), (by omega), (by omega), (by omega), (by omega), (by omega), (by omega), (by omega), (by omega), (by omega), (by omega), (by omega), (by omega), (by omega), (by omega), (at_tr hAT0 (up_eq (j := 7) eS147 (by decide)) (up_eq (j := 12) eS147 (by decide))), (at_tr hAT1 (up_eq (j := 7) eS147 (by decide)) (up_eq (j := 12) eS147 (by decide))), (at_tr hAT2 (up_eq (j := 7) eS147 (by decide)) (up_eq (j := 12) eS147 (by decide))), (at_tr hAT3 (up_eq (j := 7) eS147 (by decide)) (up_eq (j := 12) eS147 (by decide)))⟩) dX12_sit_24
  · have h179 := ib_ne k152
    have b180 : Bd r150 (1) (1) := rf_nlo b150 (by decide : Bd 0 (0) (0)) h179
    have g181 := g150_0.resolve_left (by omega)
    clear g150_0
    have b182 : Bd a1 (0) (2) := ⟨by omega, by omega⟩
    have b183 : Bd v16 (1) (3) := ⟨by omega, (b18).2⟩
    refine lv_aload_n hx hb dX12_sit_13 rfl (lv_at hl 0 rfl) ?_
    refine lv_iload_n hx hb dX12_sit_14 rfl (lv_at hl 2 rfl) ?_
    refine lv_i2l hx hb dX12_sit_15 rfl ?_
    refine lv_topl (fun w184 e185 => ?_)
    have t186 : w184.toInt = a2.toInt := by rw [e185]; exact i2l_i _
    have b187 : BdL w184 (-2147483648) (2147483647) := (by have h1 := ((ib_full a2)).1; have h2 := ((ib_full a2)).2; exact ⟨by omega, by omega⟩)
    refine xcVi E hs hQ hml hl.1 0 (gX12_isCell_0 l g ad hD S147 hI w184) mX12_isCell q1750 (by decide) c148 rfl rfl ⟨(Nat.le_of_ble_eq_true rfl), (Nat.le_of_ble_eq_true rfl)⟩ ⟨(Nat.le_of_ble_eq_true rfl), (Nat.le_of_ble_eq_true rfl)⟩ (Nat.le_of_ble_eq_true rfl) rfl dX12_sit_16 (fun r188 S188 H locs hp188 hQ _ => ?_)
    obtain ⟨rfl, b188, g188_0⟩ := hp188
    have q189 : elm (S147 7) 0 = v7.toInt := (elm_of c149 0).trans (congrArg Int32.toInt (ee8))
    refine lv_if_ne (tgt := 25) hx hb dX12_sit_19 (by decide) (fun k190 => ?_) (fun k190 => ?_)
    · have h191 := ib_ne k190
      have b192 : Bd r188 (1) (1) := rf_nlo b188 (by decide : Bd 0 (0) (0)) h191
      have g193 := g188_0.resolve_left (by omega)
      clear g188_0
      have b194 : BdL w184 (0) (11) := ⟨by omega, by omega⟩
      have b195 : Bd v7 (1) (12) := ⟨by omega, (b9).2⟩
      have b196 : Bd a2 (0) (11) := ⟨by omega, by omega⟩
      refine lv_aload_n hx hb dX12_sit_25 rfl (lv_at hl 0 rfl) ?_
      refine xcVi E hs hQ hml hl.1 0 (gX12_isFull_0 l g ad hD S147 hI ) mX12_isFull q2104 (by decide) c148 rfl rfl ⟨(Nat.le_of_ble_eq_true rfl), (Nat.le_of_ble_eq_true rfl)⟩ ⟨(Nat.le_of_ble_eq_true rfl), (Nat.le_of_ble_eq_true rfl)⟩ (Nat.le_of_ble_eq_true rfl) rfl dX12_sit_26 (fun r197 S197 H locs hp197 hQ _ => ?_)
      obtain ⟨rfl, b197, g197_0⟩ := hp197
      have q198 : elm (S147 7) 9 = v106.toInt := (elm_of c149 9).trans (congrArg Int32.toInt (ee107))
      refine lv_if_eq (tgt := 35) hx hb dX12_sit_29 (by decide) (fun k199 => ?_) (fun k199 => ?_)
      · have h200 := ib_eq k199
        have b201 : Bd r197 (0) (0) := ⟨(b197).1, ((rf_eq b197 (by decide : Bd 0 (0) (0)) h200).1).2⟩
        have g202 := g197_0.resolve_left (by omega)
        clear g197_0
        have b203 : Bd v106 (0) (39) := ⟨(b108).1, by omega⟩
        refine lv_aload_n hx hb dX12_sit_35 rfl (lv_at hl 0 rfl) ?_
        refine xcVv E hs hQ hml hl.1 0 (gX12_lays_0 l g ad hD S147 hI (at_tr hAT0 (up_eq (j := 7) eS147 (by decide)) (up_eq (j := 12) eS147 (by decide)))) mX12_lays q1820 (by decide) c148 rfl rfl ⟨(Nat.le_of_ble_eq_true rfl), (Nat.le_of_ble_eq_true rfl)⟩ ⟨(Nat.le_of_ble_eq_true rfl), (Nat.le_of_ble_eq_true rfl)⟩ (Nat.le_of_ble_eq_true rfl) rfl dX12_sit_36 (fun S204 H locs hp204 hQ _ => ?_)
        obtain ⟨hI, o204⟩ := hp204
        refine lv_aload_n hx hb dX12_sit_39 rfl (lv_at hl 0 rfl) ?_
        refine lv_iconst (v := 0) hx hb dX12_sit_40 (by decide) ?_
        refine lv_iload_n hx hb dX12_sit_41 rfl (lv_at hl 1 rfl) ?_
        refine lv_iload_n hx hb dX12_sit_42 rfl (lv_at hl 2 rfl) ?_
        refine lv_iconst (v := 0) hx hb dX12_sit_43 (by decide) ?_
        have c205 : S204 7 = .inl (g.2 0, 50, .inl f1) := ((o204 7 (by decide)).trans c149)
        have q206 : elm (S204 7) 9 = v106.toInt := (elm_of c205 9).trans (congrArg Int32.toInt (ee107))
        have q207 : (0 : Int32).toInt = 0 := by decide
        have c209 : S204 0 = .inr (12, [.int 0, .ref (ad 1), .ref (ad 2), .ref (ad 3), .ref (ad 4), .ref (ad 5), .int v119, .int v121, .int v123, .int v125, .int v126, .long w127, .int v128, .int v130, .int v131, .int v132, .ref (ad 6), .ref (ad 7), .ref (ad 8), .ref (ad 9), .ref (ad 10), .ref (ad 11), .ref (ad 12), .ref (ad 13), .ref (ad 14), .ref (ad 15), .int v133, .int v135, .ref (ad 16), .int v137, .int v139, .int v141, .int v143, .int v144, .ref (ad 17), .ref (ad 18), .int v145, .ref (ad 19)]) := ((o204 0 (by decide)).trans c148)
        refine xcVv E hs hQ hml hl.1 0 (gX12_acts_0 l g ad hD S204 hI 0 a1 a2 0 (ib_wk (by decide : Bd 0 (0) (0)) (by decide) (by decide)) (ib_wk b182 (by decide) (by decide)) (ib_wk b196 (by decide) (by decide)) (ib_wk (by decide : Bd 0 (0) (0)) (by decide) (by decide)) (by omega) (at_tr hAT0 ((o204 7 (by decide)).trans (up_eq (j := 7) eS147 (by decide))) ((o204 12 (by decide)).trans (up_eq (j := 12) eS147 (by decide)))) (at_tr hAT1 ((o204 7 (by decide)).trans (up_eq (j := 7) eS147 (by decide))) ((o204 12 (by decide)).trans (up_eq (j := 12) eS147 (by decide)))) (at_tr hAT2 ((o204 7 (by decide)).trans (up_eq (j := 7) eS147 (by decide))) ((o204 12 (by decide)).trans (up_eq (j := 12) eS147 (by decide)))) (at_tr hAT3 ((o204 7 (by decide)).trans (up_eq (j := 7) eS147 (by decide))) ((o204 12 (by decide)).trans (up_eq (j := 12) eS147 (by decide)))) (fun _ => ⟨by omega, by omega⟩)) mX12_acts q2108 (by decide) c209 rfl rfl ⟨(Nat.le_of_ble_eq_true rfl), (Nat.le_of_ble_eq_true rfl)⟩ ⟨(Nat.le_of_ble_eq_true rfl), (Nat.le_of_ble_eq_true rfl)⟩ (Nat.le_of_ble_eq_true rfl) rfl dX12_sit_44 (fun S208 H locs hp208 hQ _ => ?_)
        obtain ⟨hI, o208, g208_0, g208_1, g208_2, g208_3, g208_4, g208_5, g208_6, g208_7, g208_8, g208_9, g208_10, g208_11, g208_12, g208_13, g208_14, g208_15, g208_16, g208_17, g208_18, g208_19, g208_20, g208_21, g208_22, g208_23, u208_0, u208_1, u208_2, u208_3⟩ := hp208
        obtain ⟨f210, c211, b212⟩ := invM_7 hI
        obtain ⟨v213, ee214⟩ : ∃ z : Int32, f210 9 = z := ⟨_, rfl⟩
        have b215 : Bd v213 (0) (40) := (by rw [← ee214]; exact b212.2.2.2.2.2.2.2 9 (by decide))
        have q216 : elm (S208 7) 9 = v213.toInt := (elm_of c211 9).trans (congrArg Int32.toInt (ee214))
        have b217 : Bd v213 (1) (40) := ⟨by omega, (b215).2⟩
        have q218 : elm (S204 7) 0 = v7.toInt := (elm_of c205 0).trans (congrArg Int32.toInt (ee8))
        obtain ⟨v219, ee220⟩ : ∃ z : Int32, f210 0 = z := ⟨_, rfl⟩
        have b221 : Bd v219 (0) (12) := (by rw [← ee220]; exact b212.1 0 (by decide))
        have q222 : elm (S208 7) 0 = v219.toInt := (elm_of c211 0).trans (congrArg Int32.toInt (ee220))
        have b223 : Bd v219 (1) (12) := ⟨by omega, (b221).2⟩
        have q224 : elm (S204 7) 1 = v4.toInt := (elm_of c205 1).trans (congrArg Int32.toInt (ee5))
        obtain ⟨v225, ee226⟩ : ∃ z : Int32, f210 1 = z := ⟨_, rfl⟩
        have b227 : Bd v225 (0) (12) := (by rw [← ee226]; exact b212.2.1 1 (by decide))
        have q228 : elm (S208 7) 1 = v225.toInt := (elm_of c211 1).trans (congrArg Int32.toInt (ee226))
        have b229 : Bd v225 (1) (12) := ⟨by omega, (b227).2⟩
        have b230 : Bd v4 (1) (12) := ⟨by omega, (b6).2⟩
        have q231 : elm (S204 7) 3 = v10.toInt := (elm_of c205 3).trans (congrArg Int32.toInt (ee11))
        obtain ⟨v232, ee233⟩ : ∃ z : Int32, f210 3 = z := ⟨_, rfl⟩
        have b234 : Bd v232 (0) (12) := (by rw [← ee233]; exact b212.2.2.2.1 3 (by decide))
        have q235 : elm (S208 7) 3 = v232.toInt := (elm_of c211 3).trans (congrArg Int32.toInt (ee233))
        have b236 : Bd v10 (1) (12) := ⟨by omega, (b12).2⟩
        have b237 : Bd v232 (1) (12) := ⟨by omega, (b234).2⟩
        have q238 : elm (S204 7) 6 = v13.toInt := (elm_of c205 6).trans (congrArg Int32.toInt (ee14))
        obtain ⟨v239, ee240⟩ : ∃ z : Int32, f210 6 = z := ⟨_, rfl⟩
        have b241 : Bd v239 (0) (8) := (by rw [← ee240]; exact b212.2.2.2.2.1 6 (by decide))
        have q242 : elm (S208 7) 6 = v239.toInt := (elm_of c211 6).trans (congrArg Int32.toInt (ee240))
        have q243 : elm (S204 7) 8 = v16.toInt := (elm_of c205 8).trans (congrArg Int32.toInt (ee17))
        obtain ⟨v244, ee245⟩ : ∃ z : Int32, f210 8 = z := ⟨_, rfl⟩
        have b246 : Bd v244 (0) (3) := (by rw [← ee245]; exact b212.2.2.2.2.2.2.1 8 (by decide))
        have q247 : elm (S208 7) 8 = v244.toInt := (elm_of c211 8).trans (congrArg Int32.toInt (ee245))
        have b248 : Bd v244 (1) (3) := ⟨by omega, (b246).2⟩
        have q249 : elm (S204 7) 10 = v28.toInt := (elm_of c205 10).trans (congrArg Int32.toInt (ee29))
        obtain ⟨v250, ee251⟩ : ∃ z : Int32, f210 10 = z := ⟨_, rfl⟩
        have b252 : Bd v250 (0) (12) := (by rw [← ee251]; exact b212.1 10 (by decide))
        have q253 : elm (S208 7) 10 = v250.toInt := (elm_of c211 10).trans (congrArg Int32.toInt (ee251))
        have q254 : elm (S204 7) 11 = v25.toInt := (elm_of c205 11).trans (congrArg Int32.toInt (ee26))
        obtain ⟨v255, ee256⟩ : ∃ z : Int32, f210 11 = z := ⟨_, rfl⟩
        have b257 : Bd v255 (0) (12) := (by rw [← ee256]; exact b212.2.1 11 (by decide))
        have q258 : elm (S208 7) 11 = v255.toInt := (elm_of c211 11).trans (congrArg Int32.toInt (ee256))
        have q259 : elm (S204 7) 13 = v31.toInt := (elm_of c205 13).trans (congrArg Int32.toInt (ee32))
        obtain ⟨v260, ee261⟩ : ∃ z : Int32, f210 13 = z := ⟨_, rfl⟩
        have b262 : Bd v260 (0) (12) := (by rw [← ee261]; exact b212.2.2.2.1 13 (by decide))
        have q263 : elm (S208 7) 13 = v260.toInt := (elm_of c211 13).trans (congrArg Int32.toInt (ee261))
        have q264 : elm (S204 7) 16 = v34.toInt := (elm_of c205 16).trans (congrArg Int32.toInt (ee35))
        obtain ⟨v265, ee266⟩ : ∃ z : Int32, f210 16 = z := ⟨_, rfl⟩
        have b267 : Bd v265 (0) (8) := (by rw [← ee266]; exact b212.2.2.2.2.1 16 (by decide))
        have q268 : elm (S208 7) 16 = v265.toInt := (elm_of c211 16).trans (congrArg Int32.toInt (ee266))
        have q269 : elm (S204 7) 18 = v37.toInt := (elm_of c205 18).trans (congrArg Int32.toInt (ee38))
        obtain ⟨v270, ee271⟩ : ∃ z : Int32, f210 18 = z := ⟨_, rfl⟩
        have b272 : Bd v270 (0) (3) := (by rw [← ee271]; exact b212.2.2.2.2.2.2.1 18 (by decide))
        have q273 : elm (S208 7) 18 = v270.toInt := (elm_of c211 18).trans (congrArg Int32.toInt (ee271))
        have q274 : elm (S204 7) 19 = v109.toInt := (elm_of c205 19).trans (congrArg Int32.toInt (ee110))
        obtain ⟨v275, ee276⟩ : ∃ z : Int32, f210 19 = z := ⟨_, rfl⟩
        have b277 : Bd v275 (0) (40) := (by rw [← ee276]; exact b212.2.2.2.2.2.2.2 19 (by decide))
        have q278 : elm (S208 7) 19 = v275.toInt := (elm_of c211 19).trans (congrArg Int32.toInt (ee276))
        have q279 : elm (S204 7) 20 = v46.toInt := (elm_of c205 20).trans (congrArg Int32.toInt (ee47))
        obtain ⟨v280, ee281⟩ : ∃ z : Int32, f210 20 = z := ⟨_, rfl⟩
        have b282 : Bd v280 (0) (12) := (by rw [← ee281]; exact b212.1 20 (by decide))
        have q283 : elm (S208 7) 20 = v280.toInt := (elm_of c211 20).trans (congrArg Int32.toInt (ee281))
        have q284 : elm (S204 7) 21 = v43.toInt := (elm_of c205 21).trans (congrArg Int32.toInt (ee44))
        obtain ⟨v285, ee286⟩ : ∃ z : Int32, f210 21 = z := ⟨_, rfl⟩
        have b287 : Bd v285 (0) (12) := (by rw [← ee286]; exact b212.2.1 21 (by decide))
        have q288 : elm (S208 7) 21 = v285.toInt := (elm_of c211 21).trans (congrArg Int32.toInt (ee286))
        have q289 : elm (S204 7) 23 = v49.toInt := (elm_of c205 23).trans (congrArg Int32.toInt (ee50))
        obtain ⟨v290, ee291⟩ : ∃ z : Int32, f210 23 = z := ⟨_, rfl⟩
        have b292 : Bd v290 (0) (12) := (by rw [← ee291]; exact b212.2.2.2.1 23 (by decide))
        have q293 : elm (S208 7) 23 = v290.toInt := (elm_of c211 23).trans (congrArg Int32.toInt (ee291))
        have q294 : elm (S204 7) 26 = v52.toInt := (elm_of c205 26).trans (congrArg Int32.toInt (ee53))
        obtain ⟨v295, ee296⟩ : ∃ z : Int32, f210 26 = z := ⟨_, rfl⟩
        have b297 : Bd v295 (0) (8) := (by rw [← ee296]; exact b212.2.2.2.2.1 26 (by decide))
        have q298 : elm (S208 7) 26 = v295.toInt := (elm_of c211 26).trans (congrArg Int32.toInt (ee296))
        have q299 : elm (S204 7) 28 = v55.toInt := (elm_of c205 28).trans (congrArg Int32.toInt (ee56))
        obtain ⟨v300, ee301⟩ : ∃ z : Int32, f210 28 = z := ⟨_, rfl⟩
        have b302 : Bd v300 (0) (3) := (by rw [← ee301]; exact b212.2.2.2.2.2.2.1 28 (by decide))
        have q303 : elm (S208 7) 28 = v300.toInt := (elm_of c211 28).trans (congrArg Int32.toInt (ee301))
        have q304 : elm (S204 7) 29 = v112.toInt := (elm_of c205 29).trans (congrArg Int32.toInt (ee113))
        obtain ⟨v305, ee306⟩ : ∃ z : Int32, f210 29 = z := ⟨_, rfl⟩
        have b307 : Bd v305 (0) (40) := (by rw [← ee306]; exact b212.2.2.2.2.2.2.2 29 (by decide))
        have q308 : elm (S208 7) 29 = v305.toInt := (elm_of c211 29).trans (congrArg Int32.toInt (ee306))
        have q309 : elm (S204 7) 30 = v64.toInt := (elm_of c205 30).trans (congrArg Int32.toInt (ee65))
        obtain ⟨v310, ee311⟩ : ∃ z : Int32, f210 30 = z := ⟨_, rfl⟩
        have b312 : Bd v310 (0) (12) := (by rw [← ee311]; exact b212.1 30 (by decide))
        have q313 : elm (S208 7) 30 = v310.toInt := (elm_of c211 30).trans (congrArg Int32.toInt (ee311))
        have q314 : elm (S204 7) 31 = v61.toInt := (elm_of c205 31).trans (congrArg Int32.toInt (ee62))
        obtain ⟨v315, ee316⟩ : ∃ z : Int32, f210 31 = z := ⟨_, rfl⟩
        have b317 : Bd v315 (0) (12) := (by rw [← ee316]; exact b212.2.1 31 (by decide))
        have q318 : elm (S208 7) 31 = v315.toInt := (elm_of c211 31).trans (congrArg Int32.toInt (ee316))
        have q319 : elm (S204 7) 33 = v67.toInt := (elm_of c205 33).trans (congrArg Int32.toInt (ee68))
        obtain ⟨v320, ee321⟩ : ∃ z : Int32, f210 33 = z := ⟨_, rfl⟩
        have b322 : Bd v320 (0) (12) := (by rw [← ee321]; exact b212.2.2.2.1 33 (by decide))
        have q323 : elm (S208 7) 33 = v320.toInt := (elm_of c211 33).trans (congrArg Int32.toInt (ee321))
        have q324 : elm (S204 7) 36 = v70.toInt := (elm_of c205 36).trans (congrArg Int32.toInt (ee71))
        obtain ⟨v325, ee326⟩ : ∃ z : Int32, f210 36 = z := ⟨_, rfl⟩
        have b327 : Bd v325 (0) (8) := (by rw [← ee326]; exact b212.2.2.2.2.1 36 (by decide))
        have q328 : elm (S208 7) 36 = v325.toInt := (elm_of c211 36).trans (congrArg Int32.toInt (ee326))
        have q329 : elm (S204 7) 38 = v73.toInt := (elm_of c205 38).trans (congrArg Int32.toInt (ee74))
        obtain ⟨v330, ee331⟩ : ∃ z : Int32, f210 38 = z := ⟨_, rfl⟩
        have b332 : Bd v330 (0) (3) := (by rw [← ee331]; exact b212.2.2.2.2.2.2.1 38 (by decide))
        have q333 : elm (S208 7) 38 = v330.toInt := (elm_of c211 38).trans (congrArg Int32.toInt (ee331))
        have q334 : elm (S204 7) 39 = v115.toInt := (elm_of c205 39).trans (congrArg Int32.toInt (ee116))
        obtain ⟨v335, ee336⟩ : ∃ z : Int32, f210 39 = z := ⟨_, rfl⟩
        have b337 : Bd v335 (0) (40) := (by rw [← ee336]; exact b212.2.2.2.2.2.2.2 39 (by decide))
        have q338 : elm (S208 7) 39 = v335.toInt := (elm_of c211 39).trans (congrArg Int32.toInt (ee336))
        refine lv_aload_n hx hb dX12_sit_47 rfl (lv_at hl 0 rfl) ?_
        have c339 : S208 0 = .inr (12, [.int 0, .ref (ad 1), .ref (ad 2), .ref (ad 3), .ref (ad 4), .ref (ad 5), .int v119, .int v121, .int v123, .int v125, .int v126, .long w127, .int v128, .int v130, .int v131, .int v132, .ref (ad 6), .ref (ad 7), .ref (ad 8), .ref (ad 9), .ref (ad 10), .ref (ad 11), .ref (ad 12), .ref (ad 13), .ref (ad 14), .ref (ad 15), .int v133, .int v135, .ref (ad 16), .int v137, .int v139, .int v141, .int v143, .int v144, .ref (ad 17), .ref (ad 18), .int v145, .ref (ad 19)]) := ((o208 0 (by decide)).trans c209)
        refine xget E hQ 0 (by decide) c339 rfl 24 (by decide) q1492 rfl dX12_sit_48 ?_
        refine lv_iload_n hx hb dX12_sit_51 rfl (lv_at hl 1 rfl) ?_
        obtain ⟨f340, c341, b342⟩ := invM_14 hI
        refine xiald E hQ 14 (by decide) c341 (ib_in b182 (by decide) (by decide)) dX12_sit_52 ?_
        refine lv_topi (fun z343 e344 => ?_)
        have b345 : Bd z343 (0) (11) := (by rw [e344]; exact b342 _)
        have c346 : S208 6 = .inl (g.2 0, 5, .inl f19) := ((o208 6 (by decide)).trans ((o204 6 (by decide)).trans (up_ne eS147 (by decide) c20)))
        have q347 : elm (S208 6) 0 = v22.toInt := (elm_of c346 0).trans (congrArg Int32.toInt (ee23))
        have q348 : elm (S208 6) 1 = v40.toInt := (elm_of c346 1).trans (congrArg Int32.toInt (ee41))
        have q349 : elm (S208 6) 2 = v58.toInt := (elm_of c346 2).trans (congrArg Int32.toInt (ee59))
        have q350 : elm (S208 6) 3 = v76.toInt := (elm_of c346 3).trans (congrArg Int32.toInt (ee77))
        exact xri E hr hlk hQ (⟨hI, (o_trans (o_trans (up_o o_refl eS147 (by decide)) o204 (by decide)) o208 (by decide)), (ib_wk b345 (by decide) (by decide)), (by omega), (by omega), (by omega), (by omega), (by omega), (by omega), (by omega), (by omega), (by omega), (by omega), (by omega), (by omega), (by omega), (by omega), (by omega), (by omega), (by omega), (by omega), (by omega), (by omega), u208_0, u208_1, u208_2, u208_3⟩) dX12_sit_53
      · have h351 := ib_ne k199
        have b352 : Bd r197 (1) (1) := rf_nlo b197 (by decide : Bd 0 (0) (0)) h351
        clear g197_0
        refine lv_bipush (v := (-5)) hx hb dX12_sit_32 (by decide) ?_
        have q353 : elm (S147 7) 1 = v4.toInt := (elm_of c149 1).trans (congrArg Int32.toInt (ee5))
        have q354 : elm (S147 7) 3 = v10.toInt := (elm_of c149 3).trans (congrArg Int32.toInt (ee11))
        have q355 : elm (S147 7) 6 = v13.toInt := (elm_of c149 6).trans (congrArg Int32.toInt (ee14))
        have c356 : S147 6 = .inl (g.2 0, 5, .inl f19) := (up_ne eS147 (by decide) c20)
        have q357 : elm (S147 6) 0 = v22.toInt := (elm_of c356 0).trans (congrArg Int32.toInt (ee23))
        have q358 : elm (S147 7) 11 = v25.toInt := (elm_of c149 11).trans (congrArg Int32.toInt (ee26))
        have q359 : elm (S147 7) 10 = v28.toInt := (elm_of c149 10).trans (congrArg Int32.toInt (ee29))
        have q360 : elm (S147 7) 13 = v31.toInt := (elm_of c149 13).trans (congrArg Int32.toInt (ee32))
        have q361 : elm (S147 7) 16 = v34.toInt := (elm_of c149 16).trans (congrArg Int32.toInt (ee35))
        have q362 : elm (S147 7) 18 = v37.toInt := (elm_of c149 18).trans (congrArg Int32.toInt (ee38))
        have q363 : elm (S147 6) 1 = v40.toInt := (elm_of c356 1).trans (congrArg Int32.toInt (ee41))
        have q364 : elm (S147 7) 21 = v43.toInt := (elm_of c149 21).trans (congrArg Int32.toInt (ee44))
        have q365 : elm (S147 7) 20 = v46.toInt := (elm_of c149 20).trans (congrArg Int32.toInt (ee47))
        have q366 : elm (S147 7) 23 = v49.toInt := (elm_of c149 23).trans (congrArg Int32.toInt (ee50))
        have q367 : elm (S147 7) 26 = v52.toInt := (elm_of c149 26).trans (congrArg Int32.toInt (ee53))
        have q368 : elm (S147 7) 28 = v55.toInt := (elm_of c149 28).trans (congrArg Int32.toInt (ee56))
        have q369 : elm (S147 6) 2 = v58.toInt := (elm_of c356 2).trans (congrArg Int32.toInt (ee59))
        have q370 : elm (S147 7) 31 = v61.toInt := (elm_of c149 31).trans (congrArg Int32.toInt (ee62))
        have q371 : elm (S147 7) 30 = v64.toInt := (elm_of c149 30).trans (congrArg Int32.toInt (ee65))
        have q372 : elm (S147 7) 33 = v67.toInt := (elm_of c149 33).trans (congrArg Int32.toInt (ee68))
        have q373 : elm (S147 7) 36 = v70.toInt := (elm_of c149 36).trans (congrArg Int32.toInt (ee71))
        have q374 : elm (S147 7) 38 = v73.toInt := (elm_of c149 38).trans (congrArg Int32.toInt (ee74))
        have q375 : elm (S147 6) 3 = v76.toInt := (elm_of c356 3).trans (congrArg Int32.toInt (ee77))
        exact xri E hr hlk hQ (⟨hI, (up_o o_refl eS147 (by decide)), (ib_wk (by decide : Bd (-5) (-5) (-5)) (by decide) (by decide)), (by omega), (by omega), (by omega), (by omega), (by omega), (by omega), (by omega), (by omega), (by omega), (by omega), (by omega), (by omega), (by omega), (by omega), (by omega), (by omega), (by omega), (by omega), (by omega), (by omega), (at_tr hAT0 (up_eq (j := 7) eS147 (by decide)) (up_eq (j := 12) eS147 (by decide))), (at_tr hAT1 (up_eq (j := 7) eS147 (by decide)) (up_eq (j := 12) eS147 (by decide))), (at_tr hAT2 (up_eq (j := 7) eS147 (by decide)) (up_eq (j := 12) eS147 (by decide))), (at_tr hAT3 (up_eq (j := 7) eS147 (by decide)) (up_eq (j := 12) eS147 (by decide)))⟩) dX12_sit_34
    · have h376 := ib_eq k190
      have b377 : Bd r188 (0) (0) := ⟨(b188).1, ((rf_eq b188 (by decide : Bd 0 (0) (0)) h376).1).2⟩
      clear g188_0
      refine lv_bipush (v := (-2)) hx hb dX12_sit_22 (by decide) ?_
      have q378 : elm (S147 7) 1 = v4.toInt := (elm_of c149 1).trans (congrArg Int32.toInt (ee5))
      have q379 : elm (S147 7) 3 = v10.toInt := (elm_of c149 3).trans (congrArg Int32.toInt (ee11))
      have q380 : elm (S147 7) 6 = v13.toInt := (elm_of c149 6).trans (congrArg Int32.toInt (ee14))
      have c381 : S147 6 = .inl (g.2 0, 5, .inl f19) := (up_ne eS147 (by decide) c20)
      have q382 : elm (S147 6) 0 = v22.toInt := (elm_of c381 0).trans (congrArg Int32.toInt (ee23))
      have q383 : elm (S147 7) 11 = v25.toInt := (elm_of c149 11).trans (congrArg Int32.toInt (ee26))
      have q384 : elm (S147 7) 10 = v28.toInt := (elm_of c149 10).trans (congrArg Int32.toInt (ee29))
      have q385 : elm (S147 7) 13 = v31.toInt := (elm_of c149 13).trans (congrArg Int32.toInt (ee32))
      have q386 : elm (S147 7) 16 = v34.toInt := (elm_of c149 16).trans (congrArg Int32.toInt (ee35))
      have q387 : elm (S147 7) 18 = v37.toInt := (elm_of c149 18).trans (congrArg Int32.toInt (ee38))
      have q388 : elm (S147 6) 1 = v40.toInt := (elm_of c381 1).trans (congrArg Int32.toInt (ee41))
      have q389 : elm (S147 7) 21 = v43.toInt := (elm_of c149 21).trans (congrArg Int32.toInt (ee44))
      have q390 : elm (S147 7) 20 = v46.toInt := (elm_of c149 20).trans (congrArg Int32.toInt (ee47))
      have q391 : elm (S147 7) 23 = v49.toInt := (elm_of c149 23).trans (congrArg Int32.toInt (ee50))
      have q392 : elm (S147 7) 26 = v52.toInt := (elm_of c149 26).trans (congrArg Int32.toInt (ee53))
      have q393 : elm (S147 7) 28 = v55.toInt := (elm_of c149 28).trans (congrArg Int32.toInt (ee56))
      have q394 : elm (S147 6) 2 = v58.toInt := (elm_of c381 2).trans (congrArg Int32.toInt (ee59))
      have q395 : elm (S147 7) 31 = v61.toInt := (elm_of c149 31).trans (congrArg Int32.toInt (ee62))
      have q396 : elm (S147 7) 30 = v64.toInt := (elm_of c149 30).trans (congrArg Int32.toInt (ee65))
      have q397 : elm (S147 7) 33 = v67.toInt := (elm_of c149 33).trans (congrArg Int32.toInt (ee68))
      have q398 : elm (S147 7) 36 = v70.toInt := (elm_of c149 36).trans (congrArg Int32.toInt (ee71))
      have q399 : elm (S147 7) 38 = v73.toInt := (elm_of c149 38).trans (congrArg Int32.toInt (ee74))
      have q400 : elm (S147 6) 3 = v76.toInt := (elm_of c381 3).trans (congrArg Int32.toInt (ee77))
      exact xri E hr hlk hQ (⟨hI, (up_o o_refl eS147 (by decide)), (ib_wk (by decide : Bd (-2) (-2) (-2)) (by decide) (by decide)), (by omega), (by omega), (by omega), (by omega), (by omega), (by omega), (by omega), (by omega), (by omega), (by omega), (by omega), (by omega), (by omega), (by omega), (by omega), (by omega), (by omega), (by omega), (by omega), (by omega), (at_tr hAT0 (up_eq (j := 7) eS147 (by decide)) (up_eq (j := 12) eS147 (by decide))), (at_tr hAT1 (up_eq (j := 7) eS147 (by decide)) (up_eq (j := 12) eS147 (by decide))), (at_tr hAT2 (up_eq (j := 7) eS147 (by decide)) (up_eq (j := 12) eS147 (by decide))), (at_tr hAT3 (up_eq (j := 7) eS147 (by decide)) (up_eq (j := 12) eS147 (by decide)))⟩) dX12_sit_24
set_option maxHeartbeats 4000000 in
set_option maxRecDepth 100000 in
theorem gX12_shove_0 (l : Launch) (g : GG) (ad : Nat → Nat) (hD : Dj ad 20) (S : SS) (hI : InvM g ad S) (a1 : Int32) (a2 : Int32) (a3 : Int32) (hq1 : 0 ≤ 12 * elm (S 7) 1 + (-1) * elm (S 7) 0) (hq2 : 0 ≤ 12 * elm (S 7) 3 + (-1) * elm (S 7) 0) (hq3 : 0 ≤ 8 * elm (S 7) 0 + (-1) * elm (S 7) 6) (hq4 : 0 ≤ 3 * elm (S 7) 0 + (-1) * elm (S 7) 8) (hq5 : 0 ≤ 40000 * elm (S 7) 0 + (-1) * elm (S 6) 0) (hq6 : 0 ≤ 12 * elm (S 7) 11 + (-1) * elm (S 7) 10) (hq7 : 0 ≤ 12 * elm (S 7) 13 + (-1) * elm (S 7) 10) (hq8 : 0 ≤ 8 * elm (S 7) 10 + (-1) * elm (S 7) 16) (hq9 : 0 ≤ 3 * elm (S 7) 10 + (-1) * elm (S 7) 18) (hq10 : 0 ≤ 40000 * elm (S 7) 10 + (-1) * elm (S 6) 1) (hq11 : 0 ≤ 12 * elm (S 7) 21 + (-1) * elm (S 7) 20) (hq12 : 0 ≤ 12 * elm (S 7) 23 + (-1) * elm (S 7) 20) (hq13 : 0 ≤ 8 * elm (S 7) 20 + (-1) * elm (S 7) 26) (hq14 : 0 ≤ 3 * elm (S 7) 20 + (-1) * elm (S 7) 28) (hq15 : 0 ≤ 40000 * elm (S 7) 20 + (-1) * elm (S 6) 2) (hq16 : 0 ≤ 12 * elm (S 7) 31 + (-1) * elm (S 7) 30) (hq17 : 0 ≤ 12 * elm (S 7) 33 + (-1) * elm (S 7) 30) (hq18 : 0 ≤ 8 * elm (S 7) 30 + (-1) * elm (S 7) 36) (hq19 : 0 ≤ 3 * elm (S 7) 30 + (-1) * elm (S 7) 38) (hq20 : 0 ≤ 40000 * elm (S 7) 30 + (-1) * elm (S 6) 3) (hAT0 : ATp (S 7) (S 12) 0) (hAT1 : ATp (S 7) (S 12) 1) (hAT2 : ATp (S 7) (S 12) 2) (hAT3 : ATp (S 7) (S 12) 3) : Met l yX12_shove (wG (.code yX12_shove cX12_shove 6 (some .int))) (Rm 2) (XPre g ad 20 S [.ref (ad 0), .int a1, .int a2, .int a3]) (va_Qi (fun _ S' => InvM g ad S' ∧ (∀ j, j ∉ ([0, 7, 12, 14, 15] : List Nat) → S' j = S j) ∧ (0 ≤ 12 * elm (S' 7) 1 + (-1) * elm (S' 7) 0) ∧ (0 ≤ 12 * elm (S' 7) 3 + (-1) * elm (S' 7) 0) ∧ (0 ≤ 8 * elm (S' 7) 0 + (-1) * elm (S' 7) 6) ∧ (0 ≤ 3 * elm (S' 7) 0 + (-1) * elm (S' 7) 8) ∧ (0 ≤ 40000 * elm (S' 7) 0 + (-1) * elm (S' 6) 0) ∧ (0 ≤ 12 * elm (S' 7) 11 + (-1) * elm (S' 7) 10) ∧ (0 ≤ 12 * elm (S' 7) 13 + (-1) * elm (S' 7) 10) ∧ (0 ≤ 8 * elm (S' 7) 10 + (-1) * elm (S' 7) 16) ∧ (0 ≤ 3 * elm (S' 7) 10 + (-1) * elm (S' 7) 18) ∧ (0 ≤ 40000 * elm (S' 7) 10 + (-1) * elm (S' 6) 1) ∧ (0 ≤ 12 * elm (S' 7) 21 + (-1) * elm (S' 7) 20) ∧ (0 ≤ 12 * elm (S' 7) 23 + (-1) * elm (S' 7) 20) ∧ (0 ≤ 8 * elm (S' 7) 20 + (-1) * elm (S' 7) 26) ∧ (0 ≤ 3 * elm (S' 7) 20 + (-1) * elm (S' 7) 28) ∧ (0 ≤ 40000 * elm (S' 7) 20 + (-1) * elm (S' 6) 2) ∧ (0 ≤ 12 * elm (S' 7) 31 + (-1) * elm (S' 7) 30) ∧ (0 ≤ 12 * elm (S' 7) 33 + (-1) * elm (S' 7) 30) ∧ (0 ≤ 8 * elm (S' 7) 30 + (-1) * elm (S' 7) 36) ∧ (0 ≤ 3 * elm (S' 7) 30 + (-1) * elm (S' 7) 38) ∧ (0 ≤ 40000 * elm (S' 7) 30 + (-1) * elm (S' 6) 3) ∧ (ATp (S' 7) (S' 12) 0) ∧ (ATp (S' 7) (S' 12) 1) ∧ (ATp (S' 7) (S' 12) 2) ∧ (ATp (S' 7) (S' 12) 3)) (QB g ad 20) (FA ad 20)) 0 0 (FA ad 20) := by
  refine xmet cX12_shove "EbbWreckModel" (by decide) rfl (Nat.le_of_ble_eq_true rfl) (fun p e s m below meth c E hr hlk hml hQ ls hl => ?_)
  have hx := E.1
  have hb := E.2.1
  have hs : Sp ad 20 (FA ad 20) := Sp.fa hD
  have hl : lv_has ls 6 [(0, .ref (ad 0)), (1, .int a1), (2, .int a2), (3, .int a3)] := hl
  obtain ⟨f1, c2, b3⟩ := invM_7 hI
  obtain ⟨v4, ee5⟩ : ∃ z : Int32, f1 1 = z := ⟨_, rfl⟩
  have b6 : Bd v4 (0) (12) := (by rw [← ee5]; exact b3.2.1 1 (by decide))
  obtain ⟨v7, ee8⟩ : ∃ z : Int32, f1 0 = z := ⟨_, rfl⟩
  have b9 : Bd v7 (0) (12) := (by rw [← ee8]; exact b3.1 0 (by decide))
  obtain ⟨v10, ee11⟩ : ∃ z : Int32, f1 3 = z := ⟨_, rfl⟩
  have b12 : Bd v10 (0) (12) := (by rw [← ee11]; exact b3.2.2.2.1 3 (by decide))
  obtain ⟨v13, ee14⟩ : ∃ z : Int32, f1 6 = z := ⟨_, rfl⟩
  have b15 : Bd v13 (0) (8) := (by rw [← ee14]; exact b3.2.2.2.2.1 6 (by decide))
  obtain ⟨v16, ee17⟩ : ∃ z : Int32, f1 8 = z := ⟨_, rfl⟩
  have b18 : Bd v16 (0) (3) := (by rw [← ee17]; exact b3.2.2.2.2.2.2.1 8 (by decide))
  obtain ⟨f19, c20, b21⟩ := invM_6 hI
  obtain ⟨v22, ee23⟩ : ∃ z : Int32, f19 0 = z := ⟨_, rfl⟩
  have b24 : Bd v22 (0) (40000) := (by rw [← ee23]; exact b21 0)
  obtain ⟨v25, ee26⟩ : ∃ z : Int32, f1 11 = z := ⟨_, rfl⟩
  have b27 : Bd v25 (0) (12) := (by rw [← ee26]; exact b3.2.1 11 (by decide))
  obtain ⟨v28, ee29⟩ : ∃ z : Int32, f1 10 = z := ⟨_, rfl⟩
  have b30 : Bd v28 (0) (12) := (by rw [← ee29]; exact b3.1 10 (by decide))
  obtain ⟨v31, ee32⟩ : ∃ z : Int32, f1 13 = z := ⟨_, rfl⟩
  have b33 : Bd v31 (0) (12) := (by rw [← ee32]; exact b3.2.2.2.1 13 (by decide))
  obtain ⟨v34, ee35⟩ : ∃ z : Int32, f1 16 = z := ⟨_, rfl⟩
  have b36 : Bd v34 (0) (8) := (by rw [← ee35]; exact b3.2.2.2.2.1 16 (by decide))
  obtain ⟨v37, ee38⟩ : ∃ z : Int32, f1 18 = z := ⟨_, rfl⟩
  have b39 : Bd v37 (0) (3) := (by rw [← ee38]; exact b3.2.2.2.2.2.2.1 18 (by decide))
  obtain ⟨v40, ee41⟩ : ∃ z : Int32, f19 1 = z := ⟨_, rfl⟩
  have b42 : Bd v40 (0) (40000) := (by rw [← ee41]; exact b21 1)
  obtain ⟨v43, ee44⟩ : ∃ z : Int32, f1 21 = z := ⟨_, rfl⟩
  have b45 : Bd v43 (0) (12) := (by rw [← ee44]; exact b3.2.1 21 (by decide))
  obtain ⟨v46, ee47⟩ : ∃ z : Int32, f1 20 = z := ⟨_, rfl⟩
  have b48 : Bd v46 (0) (12) := (by rw [← ee47]; exact b3.1 20 (by decide))
  obtain ⟨v49, ee50⟩ : ∃ z : Int32, f1 23 = z := ⟨_, rfl⟩
  have b51 : Bd v49 (0) (12) := (by rw [← ee50]; exact b3.2.2.2.1 23 (by decide))
  obtain ⟨v52, ee53⟩ : ∃ z : Int32, f1 26 = z := ⟨_, rfl⟩
  have b54 : Bd v52 (0) (8) := (by rw [← ee53]; exact b3.2.2.2.2.1 26 (by decide))
  obtain ⟨v55, ee56⟩ : ∃ z : Int32, f1 28 = z := ⟨_, rfl⟩
  have b57 : Bd v55 (0) (3) := (by rw [← ee56]; exact b3.2.2.2.2.2.2.1 28 (by decide))
  obtain ⟨v58, ee59⟩ : ∃ z : Int32, f19 2 = z := ⟨_, rfl⟩
  have b60 : Bd v58 (0) (40000) := (by rw [← ee59]; exact b21 2)
  obtain ⟨v61, ee62⟩ : ∃ z : Int32, f1 31 = z := ⟨_, rfl⟩
  have b63 : Bd v61 (0) (12) := (by rw [← ee62]; exact b3.2.1 31 (by decide))
  obtain ⟨v64, ee65⟩ : ∃ z : Int32, f1 30 = z := ⟨_, rfl⟩
  have b66 : Bd v64 (0) (12) := (by rw [← ee65]; exact b3.1 30 (by decide))
  obtain ⟨v67, ee68⟩ : ∃ z : Int32, f1 33 = z := ⟨_, rfl⟩
  have b69 : Bd v67 (0) (12) := (by rw [← ee68]; exact b3.2.2.2.1 33 (by decide))
  obtain ⟨v70, ee71⟩ : ∃ z : Int32, f1 36 = z := ⟨_, rfl⟩
  have b72 : Bd v70 (0) (8) := (by rw [← ee71]; exact b3.2.2.2.2.1 36 (by decide))
  obtain ⟨v73, ee74⟩ : ∃ z : Int32, f1 38 = z := ⟨_, rfl⟩
  have b75 : Bd v73 (0) (3) := (by rw [← ee74]; exact b3.2.2.2.2.2.2.1 38 (by decide))
  obtain ⟨v76, ee77⟩ : ∃ z : Int32, f19 3 = z := ⟨_, rfl⟩
  have b78 : Bd v76 (0) (40000) := (by rw [← ee77]; exact b21 3)
  have q79 : elm (S 7) 1 = v4.toInt := (elm_of c2 1).trans (congrArg Int32.toInt (ee5))
  have q80 : elm (S 7) 0 = v7.toInt := (elm_of c2 0).trans (congrArg Int32.toInt (ee8))
  have q81 : elm (S 7) 3 = v10.toInt := (elm_of c2 3).trans (congrArg Int32.toInt (ee11))
  have q82 : elm (S 7) 6 = v13.toInt := (elm_of c2 6).trans (congrArg Int32.toInt (ee14))
  have q83 : elm (S 7) 8 = v16.toInt := (elm_of c2 8).trans (congrArg Int32.toInt (ee17))
  have q84 : elm (S 6) 0 = v22.toInt := (elm_of c20 0).trans (congrArg Int32.toInt (ee23))
  have q85 : elm (S 7) 11 = v25.toInt := (elm_of c2 11).trans (congrArg Int32.toInt (ee26))
  have q86 : elm (S 7) 10 = v28.toInt := (elm_of c2 10).trans (congrArg Int32.toInt (ee29))
  have q87 : elm (S 7) 13 = v31.toInt := (elm_of c2 13).trans (congrArg Int32.toInt (ee32))
  have q88 : elm (S 7) 16 = v34.toInt := (elm_of c2 16).trans (congrArg Int32.toInt (ee35))
  have q89 : elm (S 7) 18 = v37.toInt := (elm_of c2 18).trans (congrArg Int32.toInt (ee38))
  have q90 : elm (S 6) 1 = v40.toInt := (elm_of c20 1).trans (congrArg Int32.toInt (ee41))
  have q91 : elm (S 7) 21 = v43.toInt := (elm_of c2 21).trans (congrArg Int32.toInt (ee44))
  have q92 : elm (S 7) 20 = v46.toInt := (elm_of c2 20).trans (congrArg Int32.toInt (ee47))
  have q93 : elm (S 7) 23 = v49.toInt := (elm_of c2 23).trans (congrArg Int32.toInt (ee50))
  have q94 : elm (S 7) 26 = v52.toInt := (elm_of c2 26).trans (congrArg Int32.toInt (ee53))
  have q95 : elm (S 7) 28 = v55.toInt := (elm_of c2 28).trans (congrArg Int32.toInt (ee56))
  have q96 : elm (S 6) 2 = v58.toInt := (elm_of c20 2).trans (congrArg Int32.toInt (ee59))
  have q97 : elm (S 7) 31 = v61.toInt := (elm_of c2 31).trans (congrArg Int32.toInt (ee62))
  have q98 : elm (S 7) 30 = v64.toInt := (elm_of c2 30).trans (congrArg Int32.toInt (ee65))
  have q99 : elm (S 7) 33 = v67.toInt := (elm_of c2 33).trans (congrArg Int32.toInt (ee68))
  have q100 : elm (S 7) 36 = v70.toInt := (elm_of c2 36).trans (congrArg Int32.toInt (ee71))
  have q101 : elm (S 7) 38 = v73.toInt := (elm_of c2 38).trans (congrArg Int32.toInt (ee74))
  have q102 : elm (S 6) 3 = v76.toInt := (elm_of c20 3).trans (congrArg Int32.toInt (ee77))
  obtain ⟨f103, c104, b105⟩ := invM_12 hI
  obtain ⟨v106, ee107⟩ : ∃ z : Int32, f1 9 = z := ⟨_, rfl⟩
  have b108 : Bd v106 (0) (40) := (by rw [← ee107]; exact b3.2.2.2.2.2.2.2 9 (by decide))
  obtain ⟨v109, ee110⟩ : ∃ z : Int32, f1 19 = z := ⟨_, rfl⟩
  have b111 : Bd v109 (0) (40) := (by rw [← ee110]; exact b3.2.2.2.2.2.2.2 19 (by decide))
  obtain ⟨v112, ee113⟩ : ∃ z : Int32, f1 29 = z := ⟨_, rfl⟩
  have b114 : Bd v112 (0) (40) := (by rw [← ee113]; exact b3.2.2.2.2.2.2.2 29 (by decide))
  obtain ⟨v115, ee116⟩ : ∃ z : Int32, f1 39 = z := ⟨_, rfl⟩
  have b117 : Bd v115 (0) (40) := (by rw [← ee116]; exact b3.2.2.2.2.2.2.2 39 (by decide))
  refine lv_aload_n hx hb dX12_shove_0 rfl (lv_at hl 0 rfl) ?_
  refine lv_iconst (v := 0) hx hb dX12_shove_1 (by decide) ?_
  obtain ⟨v118, v119, v121, v123, v125, v126, w127, v128, v130, v131, v132, v133, v135, v137, v139, v141, v143, v144, v145, c146, b120, b122, b124, b129, b134, b136, b138, b140, b142⟩ := invM_0 hI
  have c146 : S 0 = .inr (12, [.int v118, .ref (ad 1), .ref (ad 2), .ref (ad 3), .ref (ad 4), .ref (ad 5), .int v119, .int v121, .int v123, .int v125, .int v126, .long w127, .int v128, .int v130, .int v131, .int v132, .ref (ad 6), .ref (ad 7), .ref (ad 8), .ref (ad 9), .ref (ad 10), .ref (ad 11), .ref (ad 12), .ref (ad 13), .ref (ad 14), .ref (ad 15), .int v133, .int v135, .ref (ad 16), .int v137, .int v139, .int v141, .int v143, .int v144, .ref (ad 17), .ref (ad 18), .int v145, .ref (ad 19)]) := c146
  refine xputi E hs hQ 0 (by decide) c146 rfl 0 (by decide) q1468 rfl rfl (Nat.le_of_ble_eq_true rfl) dX12_shove_2 (fun H locs S147 eS147 hQ => ?_)
  have hI := invM_up_0 hI eS147 ⟨0, v119, v121, v123, v125, v126, w127, v128, v130, v131, v132, v133, v135, v137, v139, v141, v143, v144, v145, rfl, b120, b122, b124, b129, b134, b136, b138, b140, b142⟩
  have c148 : S147 0 = .inr (12, [.int 0, .ref (ad 1), .ref (ad 2), .ref (ad 3), .ref (ad 4), .ref (ad 5), .int v119, .int v121, .int v123, .int v125, .int v126, .long w127, .int v128, .int v130, .int v131, .int v132, .ref (ad 6), .ref (ad 7), .ref (ad 8), .ref (ad 9), .ref (ad 10), .ref (ad 11), .ref (ad 12), .ref (ad 13), .ref (ad 14), .ref (ad 15), .int v133, .int v135, .ref (ad 16), .int v137, .int v139, .int v141, .int v143, .int v144, .ref (ad 17), .ref (ad 18), .int v145, .ref (ad 19)]) := up_at eS147 rfl
  refine lv_aload_n hx hb dX12_shove_5 rfl (lv_at hl 0 rfl) ?_
  refine lv_iload_n hx hb dX12_shove_6 rfl (lv_at hl 1 rfl) ?_
  have c149 : S147 7 = .inl (g.2 0, 50, .inl f1) := (up_ne eS147 (by decide) c2)
  refine xcVi E hs hQ hml hl.1 0 (gX12_isThing_0 l g ad hD S147 hI a1) mX12_isThing q1766 (by decide) c148 rfl rfl ⟨(Nat.le_of_ble_eq_true rfl), (Nat.le_of_ble_eq_true rfl)⟩ ⟨(Nat.le_of_ble_eq_true rfl), (Nat.le_of_ble_eq_true rfl)⟩ (Nat.le_of_ble_eq_true rfl) rfl dX12_shove_7 (fun r150 S150 H locs hp150 hQ _ => ?_)
  obtain ⟨rfl, b150, g150_0⟩ := hp150
  have q151 : elm (S147 7) 6 = v13.toInt := (elm_of c149 6).trans (congrArg Int32.toInt (ee14))
  refine lv_if_eq (tgt := 35) hx hb dX12_shove_10 (by decide) (fun k152 => ?_) (fun k152 => ?_)
  · have h153 := ib_eq k152
    have b154 : Bd r150 (0) (0) := ⟨(b150).1, ((rf_eq b150 (by decide : Bd 0 (0) (0)) h153).1).2⟩
    clear g150_0
    refine lv_bipush (v := (-2)) hx hb dX12_shove_35 (by decide) ?_
    have q155 : elm (S147 7) 1 = v4.toInt := (elm_of c149 1).trans (congrArg Int32.toInt (ee5))
    have q156 : elm (S147 7) 0 = v7.toInt := (elm_of c149 0).trans (congrArg Int32.toInt (ee8))
    have q157 : elm (S147 7) 3 = v10.toInt := (elm_of c149 3).trans (congrArg Int32.toInt (ee11))
    have q158 : elm (S147 7) 8 = v16.toInt := (elm_of c149 8).trans (congrArg Int32.toInt (ee17))
    have c159 : S147 6 = .inl (g.2 0, 5, .inl f19) := (up_ne eS147 (by decide) c20)
    have q160 : elm (S147 6) 0 = v22.toInt := (elm_of c159 0).trans (congrArg Int32.toInt (ee23))
    have q161 : elm (S147 7) 11 = v25.toInt := (elm_of c149 11).trans (congrArg Int32.toInt (ee26))
    have q162 : elm (S147 7) 10 = v28.toInt := (elm_of c149 10).trans (congrArg Int32.toInt (ee29))
    have q163 : elm (S147 7) 13 = v31.toInt := (elm_of c149 13).trans (congrArg Int32.toInt (ee32))
    have q164 : elm (S147 7) 16 = v34.toInt := (elm_of c149 16).trans (congrArg Int32.toInt (ee35))
    have q165 : elm (S147 7) 18 = v37.toInt := (elm_of c149 18).trans (congrArg Int32.toInt (ee38))
    have q166 : elm (S147 6) 1 = v40.toInt := (elm_of c159 1).trans (congrArg Int32.toInt (ee41))
    have q167 : elm (S147 7) 21 = v43.toInt := (elm_of c149 21).trans (congrArg Int32.toInt (ee44))
    have q168 : elm (S147 7) 20 = v46.toInt := (elm_of c149 20).trans (congrArg Int32.toInt (ee47))
    have q169 : elm (S147 7) 23 = v49.toInt := (elm_of c149 23).trans (congrArg Int32.toInt (ee50))
    have q170 : elm (S147 7) 26 = v52.toInt := (elm_of c149 26).trans (congrArg Int32.toInt (ee53))
    have q171 : elm (S147 7) 28 = v55.toInt := (elm_of c149 28).trans (congrArg Int32.toInt (ee56))
    have q172 : elm (S147 6) 2 = v58.toInt := (elm_of c159 2).trans (congrArg Int32.toInt (ee59))
    have q173 : elm (S147 7) 31 = v61.toInt := (elm_of c149 31).trans (congrArg Int32.toInt (ee62))
    have q174 : elm (S147 7) 30 = v64.toInt := (elm_of c149 30).trans (congrArg Int32.toInt (ee65))
    have q175 : elm (S147 7) 33 = v67.toInt := (elm_of c149 33).trans (congrArg Int32.toInt (ee68))
    have q176 : elm (S147 7) 36 = v70.toInt := (elm_of c149 36).trans (congrArg Int32.toInt (ee71))
    have q177 : elm (S147 7) 38 = v73.toInt := (elm_of c149 38).trans (congrArg Int32.toInt (ee74))
    have q178 : elm (S147 6) 3 = v76.toInt := (elm_of c159 3).trans (congrArg Int32.toInt (ee77))
    exact xri E hr hlk hQ (⟨hI, (up_o o_refl eS147 (by decide)), (by omega), (by omega), (by omega), (by omega), (by omega), (by omega), (by omega), (by omega), (by omega), (by omega), (by omega), (by omega), (by omega), (by omega), (by omega), (by omega), (by omega), (by omega), (by omega), (by omega), (at_tr hAT0 (up_eq (j := 7) eS147 (by decide)) (up_eq (j := 12) eS147 (by decide))), (at_tr hAT1 (up_eq (j := 7) eS147 (by decide)) (up_eq (j := 12) eS147 (by decide))), (at_tr hAT2 (up_eq (j := 7) eS147 (by decide)) (up_eq (j := 12) eS147 (by decide))), (at_tr hAT3 (up_eq (j := 7) eS147 (by decide)) (up_eq (j := 12) eS147 (by decide)))⟩) dX12_shove_37
  · have h179 := ib_ne k152
    have b180 : Bd r150 (1) (1) := rf_nlo b150 (by decide : Bd 0 (0) (0)) h179
    have g181 := g150_0.resolve_left (by omega)
    clear g150_0
    have b182 : Bd a1 (0) (7) := ⟨by omega, by omega⟩
    have b183 : Bd v13 (1) (8) := ⟨by omega, (b15).2⟩
    refine lv_iload_n hx hb dX12_shove_13 rfl (lv_at hl 2 rfl) ?_
    refine lv_i2l hx hb dX12_shove_14 rfl ?_
    refine lv_topl (fun w184 e185 => ?_)
    have t186 : w184.toInt = a2.toInt := by rw [e185]; exact i2l_i _
    have b187 : BdL w184 (-2147483648) (2147483647) := (by have h1 := ((ib_full a2)).1; have h2 := ((ib_full a2)).2; exact ⟨by omega, by omega⟩)
    refine lv_lconst (v := 0) hx hb dX12_shove_15 (by decide) ?_
    refine lv_ldc2 (v := 400) hx hb E.2.2.1 (E.2.2.2.1 _ q1828) dX12_shove_16 ?_
    have q188 : (0 : Int64).toInt = 0 := by decide
    have q189 : (400 : Int64).toInt = 400 := by decide
    refine xcSi E hs hQ hml hl.1 (gX12_in l g ad hD S147 hI w184 0 400) mX12_in q1591 rfl ⟨(Nat.le_of_ble_eq_true rfl), (Nat.le_of_ble_eq_true rfl)⟩ ⟨(Nat.le_of_ble_eq_true rfl), (Nat.le_of_ble_eq_true rfl)⟩ (Nat.le_of_ble_eq_true rfl) rfl dX12_shove_19 (fun r190 S190 H locs hp190 hQ => ?_)
    obtain ⟨rfl, b190, g190_0, u190_0⟩ := hp190
    refine lv_if_eq (tgt := 35) hx hb dX12_shove_22 (by decide) (fun k191 => ?_) (fun k191 => ?_)
    · have h192 := ib_eq k191
      have b193 : Bd r190 (0) (0) := ⟨(b190).1, ((rf_eq b190 (by decide : Bd 0 (0) (0)) h192).1).2⟩
      clear g190_0
      refine lv_bipush (v := (-2)) hx hb dX12_shove_35 (by decide) ?_
      have q194 : elm (S147 7) 1 = v4.toInt := (elm_of c149 1).trans (congrArg Int32.toInt (ee5))
      have q195 : elm (S147 7) 0 = v7.toInt := (elm_of c149 0).trans (congrArg Int32.toInt (ee8))
      have q196 : elm (S147 7) 3 = v10.toInt := (elm_of c149 3).trans (congrArg Int32.toInt (ee11))
      have q197 : elm (S147 7) 8 = v16.toInt := (elm_of c149 8).trans (congrArg Int32.toInt (ee17))
      have c198 : S147 6 = .inl (g.2 0, 5, .inl f19) := (up_ne eS147 (by decide) c20)
      have q199 : elm (S147 6) 0 = v22.toInt := (elm_of c198 0).trans (congrArg Int32.toInt (ee23))
      have q200 : elm (S147 7) 11 = v25.toInt := (elm_of c149 11).trans (congrArg Int32.toInt (ee26))
      have q201 : elm (S147 7) 10 = v28.toInt := (elm_of c149 10).trans (congrArg Int32.toInt (ee29))
      have q202 : elm (S147 7) 13 = v31.toInt := (elm_of c149 13).trans (congrArg Int32.toInt (ee32))
      have q203 : elm (S147 7) 16 = v34.toInt := (elm_of c149 16).trans (congrArg Int32.toInt (ee35))
      have q204 : elm (S147 7) 18 = v37.toInt := (elm_of c149 18).trans (congrArg Int32.toInt (ee38))
      have q205 : elm (S147 6) 1 = v40.toInt := (elm_of c198 1).trans (congrArg Int32.toInt (ee41))
      have q206 : elm (S147 7) 21 = v43.toInt := (elm_of c149 21).trans (congrArg Int32.toInt (ee44))
      have q207 : elm (S147 7) 20 = v46.toInt := (elm_of c149 20).trans (congrArg Int32.toInt (ee47))
      have q208 : elm (S147 7) 23 = v49.toInt := (elm_of c149 23).trans (congrArg Int32.toInt (ee50))
      have q209 : elm (S147 7) 26 = v52.toInt := (elm_of c149 26).trans (congrArg Int32.toInt (ee53))
      have q210 : elm (S147 7) 28 = v55.toInt := (elm_of c149 28).trans (congrArg Int32.toInt (ee56))
      have q211 : elm (S147 6) 2 = v58.toInt := (elm_of c198 2).trans (congrArg Int32.toInt (ee59))
      have q212 : elm (S147 7) 31 = v61.toInt := (elm_of c149 31).trans (congrArg Int32.toInt (ee62))
      have q213 : elm (S147 7) 30 = v64.toInt := (elm_of c149 30).trans (congrArg Int32.toInt (ee65))
      have q214 : elm (S147 7) 33 = v67.toInt := (elm_of c149 33).trans (congrArg Int32.toInt (ee68))
      have q215 : elm (S147 7) 36 = v70.toInt := (elm_of c149 36).trans (congrArg Int32.toInt (ee71))
      have q216 : elm (S147 7) 38 = v73.toInt := (elm_of c149 38).trans (congrArg Int32.toInt (ee74))
      have q217 : elm (S147 6) 3 = v76.toInt := (elm_of c198 3).trans (congrArg Int32.toInt (ee77))
      exact xri E hr hlk hQ (⟨hI, (up_o o_refl eS147 (by decide)), (by omega), (by omega), (by omega), (by omega), (by omega), (by omega), (by omega), (by omega), (by omega), (by omega), (by omega), (by omega), (by omega), (by omega), (by omega), (by omega), (by omega), (by omega), (by omega), (by omega), (at_tr hAT0 (up_eq (j := 7) eS147 (by decide)) (up_eq (j := 12) eS147 (by decide))), (at_tr hAT1 (up_eq (j := 7) eS147 (by decide)) (up_eq (j := 12) eS147 (by decide))), (at_tr hAT2 (up_eq (j := 7) eS147 (by decide)) (up_eq (j := 12) eS147 (by decide))), (at_tr hAT3 (up_eq (j := 7) eS147 (by decide)) (up_eq (j := 12) eS147 (by decide)))⟩) dX12_shove_37
    · have h218 := ib_ne k191
      have b219 : Bd r190 (1) (1) := rf_nlo b190 (by decide : Bd 0 (0) (0)) h218
      have g220 := g190_0.resolve_left (by omega)
      clear g190_0
      have b221 : BdL w184 (0) (400) := ⟨by omega, by omega⟩
      have b222 : Bd a2 (0) (400) := ⟨by omega, by omega⟩
      refine lv_iload_n hx hb dX12_shove_25 rfl (lv_at hl 3 rfl) ?_
      refine lv_i2l hx hb dX12_shove_26 rfl ?_
      refine lv_topl (fun w223 e224 => ?_)
      have t225 : w223.toInt = a3.toInt := by rw [e224]; exact i2l_i _
      have b226 : BdL w223 (-2147483648) (2147483647) := (by have h1 := ((ib_full a3)).1; have h2 := ((ib_full a3)).2; exact ⟨by omega, by omega⟩)
      refine lv_lconst (v := 0) hx hb dX12_shove_27 (by decide) ?_
      refine lv_lconst (v := 1) hx hb dX12_shove_28 (by decide) ?_
      have q227 : (1 : Int64).toInt = 1 := by decide
      refine xcSi E hs hQ hml hl.1 (gX12_in l g ad hD S147 hI w223 0 1) mX12_in q1591 rfl ⟨(Nat.le_of_ble_eq_true rfl), (Nat.le_of_ble_eq_true rfl)⟩ ⟨(Nat.le_of_ble_eq_true rfl), (Nat.le_of_ble_eq_true rfl)⟩ (Nat.le_of_ble_eq_true rfl) rfl dX12_shove_29 (fun r228 S228 H locs hp228 hQ => ?_)
      obtain ⟨rfl, b228, g228_0, u228_0⟩ := hp228
      refine lv_if_ne (tgt := 38) hx hb dX12_shove_32 (by decide) (fun k229 => ?_) (fun k229 => ?_)
      · have h230 := ib_ne k229
        have b231 : Bd r228 (1) (1) := rf_nlo b228 (by decide : Bd 0 (0) (0)) h230
        have g232 := g228_0.resolve_left (by omega)
        clear g228_0
        have b233 : BdL w223 (0) (1) := ⟨by omega, by omega⟩
        have b234 : Bd a3 (0) (1) := ⟨by omega, by omega⟩
        refine lv_aload_n hx hb dX12_shove_38 rfl (lv_at hl 0 rfl) ?_
        refine xcVv E hs hQ hml hl.1 0 (gX12_lays_0 l g ad hD S147 hI (at_tr hAT0 (up_eq (j := 7) eS147 (by decide)) (up_eq (j := 12) eS147 (by decide)))) mX12_lays q1820 (by decide) c148 rfl rfl ⟨(Nat.le_of_ble_eq_true rfl), (Nat.le_of_ble_eq_true rfl)⟩ ⟨(Nat.le_of_ble_eq_true rfl), (Nat.le_of_ble_eq_true rfl)⟩ (Nat.le_of_ble_eq_true rfl) rfl dX12_shove_39 (fun S235 H locs hp235 hQ _ => ?_)
        obtain ⟨hI, o235⟩ := hp235
        refine lv_aload_n hx hb dX12_shove_42 rfl (lv_at hl 0 rfl) ?_
        have c236 : S235 7 = .inl (g.2 0, 50, .inl f1) := ((o235 7 (by decide)).trans c149)
        have c238 : S235 0 = .inr (12, [.int 0, .ref (ad 1), .ref (ad 2), .ref (ad 3), .ref (ad 4), .ref (ad 5), .int v119, .int v121, .int v123, .int v125, .int v126, .long w127, .int v128, .int v130, .int v131, .int v132, .ref (ad 6), .ref (ad 7), .ref (ad 8), .ref (ad 9), .ref (ad 10), .ref (ad 11), .ref (ad 12), .ref (ad 13), .ref (ad 14), .ref (ad 15), .int v133, .int v135, .ref (ad 16), .int v137, .int v139, .int v141, .int v143, .int v144, .ref (ad 17), .ref (ad 18), .int v145, .ref (ad 19)]) := ((o235 0 (by decide)).trans c148)
        refine xcVi E hs hQ hml hl.1 0 (gX12_isFull_0 l g ad hD S235 hI ) mX12_isFull q2104 (by decide) c238 rfl rfl ⟨(Nat.le_of_ble_eq_true rfl), (Nat.le_of_ble_eq_true rfl)⟩ ⟨(Nat.le_of_ble_eq_true rfl), (Nat.le_of_ble_eq_true rfl)⟩ (Nat.le_of_ble_eq_true rfl) rfl dX12_shove_43 (fun r237 S237 H locs hp237 hQ _ => ?_)
        obtain ⟨rfl, b237, g237_0⟩ := hp237
        have q239 : elm (S235 7) 9 = v106.toInt := (elm_of c236 9).trans (congrArg Int32.toInt (ee107))
        refine lv_if_ne (tgt := 64) hx hb dX12_shove_46 (by decide) (fun k240 => ?_) (fun k240 => ?_)
        · have h241 := ib_ne k240
          have b242 : Bd r237 (1) (1) := rf_nlo b237 (by decide : Bd 0 (0) (0)) h241
          clear g237_0
          refine lv_bipush (v := (-5)) hx hb dX12_shove_64 (by decide) ?_
          have q243 : elm (S235 7) 1 = v4.toInt := (elm_of c236 1).trans (congrArg Int32.toInt (ee5))
          have q244 : elm (S235 7) 0 = v7.toInt := (elm_of c236 0).trans (congrArg Int32.toInt (ee8))
          have q245 : elm (S235 7) 3 = v10.toInt := (elm_of c236 3).trans (congrArg Int32.toInt (ee11))
          have q246 : elm (S235 7) 6 = v13.toInt := (elm_of c236 6).trans (congrArg Int32.toInt (ee14))
          have q247 : elm (S235 7) 8 = v16.toInt := (elm_of c236 8).trans (congrArg Int32.toInt (ee17))
          have c248 : S235 6 = .inl (g.2 0, 5, .inl f19) := ((o235 6 (by decide)).trans (up_ne eS147 (by decide) c20))
          have q249 : elm (S235 6) 0 = v22.toInt := (elm_of c248 0).trans (congrArg Int32.toInt (ee23))
          have q250 : elm (S235 7) 11 = v25.toInt := (elm_of c236 11).trans (congrArg Int32.toInt (ee26))
          have q251 : elm (S235 7) 10 = v28.toInt := (elm_of c236 10).trans (congrArg Int32.toInt (ee29))
          have q252 : elm (S235 7) 13 = v31.toInt := (elm_of c236 13).trans (congrArg Int32.toInt (ee32))
          have q253 : elm (S235 7) 16 = v34.toInt := (elm_of c236 16).trans (congrArg Int32.toInt (ee35))
          have q254 : elm (S235 7) 18 = v37.toInt := (elm_of c236 18).trans (congrArg Int32.toInt (ee38))
          have q255 : elm (S235 6) 1 = v40.toInt := (elm_of c248 1).trans (congrArg Int32.toInt (ee41))
          have q256 : elm (S235 7) 21 = v43.toInt := (elm_of c236 21).trans (congrArg Int32.toInt (ee44))
          have q257 : elm (S235 7) 20 = v46.toInt := (elm_of c236 20).trans (congrArg Int32.toInt (ee47))
          have q258 : elm (S235 7) 23 = v49.toInt := (elm_of c236 23).trans (congrArg Int32.toInt (ee50))
          have q259 : elm (S235 7) 26 = v52.toInt := (elm_of c236 26).trans (congrArg Int32.toInt (ee53))
          have q260 : elm (S235 7) 28 = v55.toInt := (elm_of c236 28).trans (congrArg Int32.toInt (ee56))
          have q261 : elm (S235 6) 2 = v58.toInt := (elm_of c248 2).trans (congrArg Int32.toInt (ee59))
          have q262 : elm (S235 7) 31 = v61.toInt := (elm_of c236 31).trans (congrArg Int32.toInt (ee62))
          have q263 : elm (S235 7) 30 = v64.toInt := (elm_of c236 30).trans (congrArg Int32.toInt (ee65))
          have q264 : elm (S235 7) 33 = v67.toInt := (elm_of c236 33).trans (congrArg Int32.toInt (ee68))
          have q265 : elm (S235 7) 36 = v70.toInt := (elm_of c236 36).trans (congrArg Int32.toInt (ee71))
          have q266 : elm (S235 7) 38 = v73.toInt := (elm_of c236 38).trans (congrArg Int32.toInt (ee74))
          have q267 : elm (S235 6) 3 = v76.toInt := (elm_of c248 3).trans (congrArg Int32.toInt (ee77))
          exact xri E hr hlk hQ (⟨hI, (o_trans (up_o o_refl eS147 (by decide)) o235 (by decide)), (by omega), (by omega), (by omega), (by omega), (by omega), (by omega), (by omega), (by omega), (by omega), (by omega), (by omega), (by omega), (by omega), (by omega), (by omega), (by omega), (by omega), (by omega), (by omega), (by omega), (at_tr hAT0 ((o235 7 (by decide)).trans (up_eq (j := 7) eS147 (by decide))) ((o235 12 (by decide)).trans (up_eq (j := 12) eS147 (by decide)))), (at_tr hAT1 ((o235 7 (by decide)).trans (up_eq (j := 7) eS147 (by decide))) ((o235 12 (by decide)).trans (up_eq (j := 12) eS147 (by decide)))), (at_tr hAT2 ((o235 7 (by decide)).trans (up_eq (j := 7) eS147 (by decide))) ((o235 12 (by decide)).trans (up_eq (j := 12) eS147 (by decide)))), (at_tr hAT3 ((o235 7 (by decide)).trans (up_eq (j := 7) eS147 (by decide))) ((o235 12 (by decide)).trans (up_eq (j := 12) eS147 (by decide))))⟩) dX12_shove_66
        · have h268 := ib_eq k240
          have b269 : Bd r237 (0) (0) := ⟨(b237).1, ((rf_eq b237 (by decide : Bd 0 (0) (0)) h268).1).2⟩
          have g270 := g237_0.resolve_left (by omega)
          clear g237_0
          have b271 : Bd v106 (0) (39) := ⟨(b108).1, by omega⟩
          refine lv_aload_n hx hb dX12_shove_49 rfl (lv_at hl 0 rfl) ?_
          refine xget E hQ 0 (by decide) c238 rfl 25 (by decide) q1493 rfl dX12_shove_50 ?_
          refine lv_sipush (v := 401) hx hb dX12_shove_53 (by decide) ?_
          refine lv_iload_n hx hb dX12_shove_56 rfl (lv_at hl 1 rfl) ?_
          refine lv_imul hx hb dX12_shove_57 ?_
          refine lv_topi (fun z272 e273 => ?_)
          have t274 := ib_cmul (q := 401) e273 (by decide) (by decide) b182 (by decide) (by decide)
          have b275 : Bd z272 (0) (2807) := ib_mulb t274 (by decide) b182
          refine lv_iload_n hx hb dX12_shove_58 rfl (lv_at hl 2 rfl) ?_
          refine lv_iadd hx hb dX12_shove_59 ?_
          refine lv_topi (fun z276 e277 => ?_)
          have t278 := ib_add e277 b275 b222 (by decide) (by decide)
          have b279 : Bd z276 (0) (3207) := ib_addb t278 b275 b222
          obtain ⟨f280, c281⟩ := invM_15 hI
          refine xiald E hQ 15 (by decide) c281 (ib_in b279 (by decide) (by decide)) dX12_shove_60 ?_
          refine lv_topi (fun z283 e284 => ?_)
          refine lv_if_eq (tgt := 67) hx hb dX12_shove_61 (by decide) (fun k285 => ?_) (fun k285 => ?_)
          · have h286 := ib_eq k285
            have b287 : Bd z283 (0) (0) := ⟨((rf_eq (ib_full z283) (by decide : Bd 0 (0) (0)) h286).1).1, ((rf_eq (ib_full z283) (by decide : Bd 0 (0) (0)) h286).1).2⟩
            refine lv_aload_n hx hb dX12_shove_67 rfl (lv_at hl 0 rfl) ?_
            refine lv_iconst (v := 1) hx hb dX12_shove_68 (by decide) ?_
            refine lv_iload_n hx hb dX12_shove_69 rfl (lv_at hl 1 rfl) ?_
            refine lv_iload_n hx hb dX12_shove_70 rfl (lv_at hl 2 rfl) ?_
            refine lv_iload_n hx hb dX12_shove_71 rfl (lv_at hl 3 rfl) ?_
            have q288 : (1 : Int32).toInt = 1 := by decide
            refine xcVv E hs hQ hml hl.1 0 (gX12_acts_0 l g ad hD S235 hI 1 a1 a2 a3 (ib_wk (by decide : Bd 1 (1) (1)) (by decide) (by decide)) b182 b222 b234 (by omega) (at_tr hAT0 ((o235 7 (by decide)).trans (up_eq (j := 7) eS147 (by decide))) ((o235 12 (by decide)).trans (up_eq (j := 12) eS147 (by decide)))) (at_tr hAT1 ((o235 7 (by decide)).trans (up_eq (j := 7) eS147 (by decide))) ((o235 12 (by decide)).trans (up_eq (j := 12) eS147 (by decide)))) (at_tr hAT2 ((o235 7 (by decide)).trans (up_eq (j := 7) eS147 (by decide))) ((o235 12 (by decide)).trans (up_eq (j := 12) eS147 (by decide)))) (at_tr hAT3 ((o235 7 (by decide)).trans (up_eq (j := 7) eS147 (by decide))) ((o235 12 (by decide)).trans (up_eq (j := 12) eS147 (by decide)))) (fun h => absurd h (by decide))) mX12_acts q2108 (by decide) c238 rfl rfl ⟨(Nat.le_of_ble_eq_true rfl), (Nat.le_of_ble_eq_true rfl)⟩ ⟨(Nat.le_of_ble_eq_true rfl), (Nat.le_of_ble_eq_true rfl)⟩ (Nat.le_of_ble_eq_true rfl) rfl dX12_shove_72 (fun S289 H locs hp289 hQ _ => ?_)
            obtain ⟨hI, o289, g289_0, g289_1, g289_2, g289_3, g289_4, g289_5, g289_6, g289_7, g289_8, g289_9, g289_10, g289_11, g289_12, g289_13, g289_14, g289_15, g289_16, g289_17, g289_18, g289_19, g289_20, g289_21, g289_22, g289_23, u289_0, u289_1, u289_2, u289_3⟩ := hp289
            obtain ⟨f290, c291, b292⟩ := invM_7 hI
            obtain ⟨v293, ee294⟩ : ∃ z : Int32, f290 9 = z := ⟨_, rfl⟩
            have b295 : Bd v293 (0) (40) := (by rw [← ee294]; exact b292.2.2.2.2.2.2.2 9 (by decide))
            have q296 : elm (S289 7) 9 = v293.toInt := (elm_of c291 9).trans (congrArg Int32.toInt (ee294))
            have b297 : Bd v293 (1) (40) := ⟨by omega, (b295).2⟩
            have q298 : elm (S235 7) 0 = v7.toInt := (elm_of c236 0).trans (congrArg Int32.toInt (ee8))
            obtain ⟨v299, ee300⟩ : ∃ z : Int32, f290 0 = z := ⟨_, rfl⟩
            have b301 : Bd v299 (0) (12) := (by rw [← ee300]; exact b292.1 0 (by decide))
            have q302 : elm (S289 7) 0 = v299.toInt := (elm_of c291 0).trans (congrArg Int32.toInt (ee300))
            have b303 : Bd v299 (1) (12) := ⟨by omega, (b301).2⟩
            have b304 : Bd v7 (1) (12) := ⟨by omega, (b9).2⟩
            have q305 : elm (S235 7) 1 = v4.toInt := (elm_of c236 1).trans (congrArg Int32.toInt (ee5))
            obtain ⟨v306, ee307⟩ : ∃ z : Int32, f290 1 = z := ⟨_, rfl⟩
            have b308 : Bd v306 (0) (12) := (by rw [← ee307]; exact b292.2.1 1 (by decide))
            have q309 : elm (S289 7) 1 = v306.toInt := (elm_of c291 1).trans (congrArg Int32.toInt (ee307))
            have b310 : Bd v306 (1) (12) := ⟨by omega, (b308).2⟩
            have b311 : Bd v4 (1) (12) := ⟨by omega, (b6).2⟩
            have q312 : elm (S235 7) 3 = v10.toInt := (elm_of c236 3).trans (congrArg Int32.toInt (ee11))
            obtain ⟨v313, ee314⟩ : ∃ z : Int32, f290 3 = z := ⟨_, rfl⟩
            have b315 : Bd v313 (0) (12) := (by rw [← ee314]; exact b292.2.2.2.1 3 (by decide))
            have q316 : elm (S289 7) 3 = v313.toInt := (elm_of c291 3).trans (congrArg Int32.toInt (ee314))
            have b317 : Bd v10 (1) (12) := ⟨by omega, (b12).2⟩
            have b318 : Bd v313 (1) (12) := ⟨by omega, (b315).2⟩
            have q319 : elm (S235 7) 6 = v13.toInt := (elm_of c236 6).trans (congrArg Int32.toInt (ee14))
            obtain ⟨v320, ee321⟩ : ∃ z : Int32, f290 6 = z := ⟨_, rfl⟩
            have b322 : Bd v320 (0) (8) := (by rw [← ee321]; exact b292.2.2.2.2.1 6 (by decide))
            have q323 : elm (S289 7) 6 = v320.toInt := (elm_of c291 6).trans (congrArg Int32.toInt (ee321))
            have b324 : Bd v320 (1) (8) := ⟨by omega, (b322).2⟩
            have q325 : elm (S235 7) 8 = v16.toInt := (elm_of c236 8).trans (congrArg Int32.toInt (ee17))
            obtain ⟨v326, ee327⟩ : ∃ z : Int32, f290 8 = z := ⟨_, rfl⟩
            have b328 : Bd v326 (0) (3) := (by rw [← ee327]; exact b292.2.2.2.2.2.2.1 8 (by decide))
            have q329 : elm (S289 7) 8 = v326.toInt := (elm_of c291 8).trans (congrArg Int32.toInt (ee327))
            have q330 : elm (S235 7) 10 = v28.toInt := (elm_of c236 10).trans (congrArg Int32.toInt (ee29))
            obtain ⟨v331, ee332⟩ : ∃ z : Int32, f290 10 = z := ⟨_, rfl⟩
            have b333 : Bd v331 (0) (12) := (by rw [← ee332]; exact b292.1 10 (by decide))
            have q334 : elm (S289 7) 10 = v331.toInt := (elm_of c291 10).trans (congrArg Int32.toInt (ee332))
            have q335 : elm (S235 7) 11 = v25.toInt := (elm_of c236 11).trans (congrArg Int32.toInt (ee26))
            obtain ⟨v336, ee337⟩ : ∃ z : Int32, f290 11 = z := ⟨_, rfl⟩
            have b338 : Bd v336 (0) (12) := (by rw [← ee337]; exact b292.2.1 11 (by decide))
            have q339 : elm (S289 7) 11 = v336.toInt := (elm_of c291 11).trans (congrArg Int32.toInt (ee337))
            have q340 : elm (S235 7) 13 = v31.toInt := (elm_of c236 13).trans (congrArg Int32.toInt (ee32))
            obtain ⟨v341, ee342⟩ : ∃ z : Int32, f290 13 = z := ⟨_, rfl⟩
            have b343 : Bd v341 (0) (12) := (by rw [← ee342]; exact b292.2.2.2.1 13 (by decide))
            have q344 : elm (S289 7) 13 = v341.toInt := (elm_of c291 13).trans (congrArg Int32.toInt (ee342))
            have q345 : elm (S235 7) 16 = v34.toInt := (elm_of c236 16).trans (congrArg Int32.toInt (ee35))
            obtain ⟨v346, ee347⟩ : ∃ z : Int32, f290 16 = z := ⟨_, rfl⟩
            have b348 : Bd v346 (0) (8) := (by rw [← ee347]; exact b292.2.2.2.2.1 16 (by decide))
            have q349 : elm (S289 7) 16 = v346.toInt := (elm_of c291 16).trans (congrArg Int32.toInt (ee347))
            have q350 : elm (S235 7) 18 = v37.toInt := (elm_of c236 18).trans (congrArg Int32.toInt (ee38))
            obtain ⟨v351, ee352⟩ : ∃ z : Int32, f290 18 = z := ⟨_, rfl⟩
            have b353 : Bd v351 (0) (3) := (by rw [← ee352]; exact b292.2.2.2.2.2.2.1 18 (by decide))
            have q354 : elm (S289 7) 18 = v351.toInt := (elm_of c291 18).trans (congrArg Int32.toInt (ee352))
            have q355 : elm (S235 7) 19 = v109.toInt := (elm_of c236 19).trans (congrArg Int32.toInt (ee110))
            obtain ⟨v356, ee357⟩ : ∃ z : Int32, f290 19 = z := ⟨_, rfl⟩
            have b358 : Bd v356 (0) (40) := (by rw [← ee357]; exact b292.2.2.2.2.2.2.2 19 (by decide))
            have q359 : elm (S289 7) 19 = v356.toInt := (elm_of c291 19).trans (congrArg Int32.toInt (ee357))
            have q360 : elm (S235 7) 20 = v46.toInt := (elm_of c236 20).trans (congrArg Int32.toInt (ee47))
            obtain ⟨v361, ee362⟩ : ∃ z : Int32, f290 20 = z := ⟨_, rfl⟩
            have b363 : Bd v361 (0) (12) := (by rw [← ee362]; exact b292.1 20 (by decide))
            have q364 : elm (S289 7) 20 = v361.toInt := (elm_of c291 20).trans (congrArg Int32.toInt (ee362))
            have q365 : elm (S235 7) 21 = v43.toInt := (elm_of c236 21).trans (congrArg Int32.toInt (ee44))
            obtain ⟨v366, ee367⟩ : ∃ z : Int32, f290 21 = z := ⟨_, rfl⟩
            have b368 : Bd v366 (0) (12) := (by rw [← ee367]; exact b292.2.1 21 (by decide))
            have q369 : elm (S289 7) 21 = v366.toInt := (elm_of c291 21).trans (congrArg Int32.toInt (ee367))
            have q370 : elm (S235 7) 23 = v49.toInt := (elm_of c236 23).trans (congrArg Int32.toInt (ee50))
            obtain ⟨v371, ee372⟩ : ∃ z : Int32, f290 23 = z := ⟨_, rfl⟩
            have b373 : Bd v371 (0) (12) := (by rw [← ee372]; exact b292.2.2.2.1 23 (by decide))
            have q374 : elm (S289 7) 23 = v371.toInt := (elm_of c291 23).trans (congrArg Int32.toInt (ee372))
            have q375 : elm (S235 7) 26 = v52.toInt := (elm_of c236 26).trans (congrArg Int32.toInt (ee53))
            obtain ⟨v376, ee377⟩ : ∃ z : Int32, f290 26 = z := ⟨_, rfl⟩
            have b378 : Bd v376 (0) (8) := (by rw [← ee377]; exact b292.2.2.2.2.1 26 (by decide))
            have q379 : elm (S289 7) 26 = v376.toInt := (elm_of c291 26).trans (congrArg Int32.toInt (ee377))
            have q380 : elm (S235 7) 28 = v55.toInt := (elm_of c236 28).trans (congrArg Int32.toInt (ee56))
            obtain ⟨v381, ee382⟩ : ∃ z : Int32, f290 28 = z := ⟨_, rfl⟩
            have b383 : Bd v381 (0) (3) := (by rw [← ee382]; exact b292.2.2.2.2.2.2.1 28 (by decide))
            have q384 : elm (S289 7) 28 = v381.toInt := (elm_of c291 28).trans (congrArg Int32.toInt (ee382))
            have q385 : elm (S235 7) 29 = v112.toInt := (elm_of c236 29).trans (congrArg Int32.toInt (ee113))
            obtain ⟨v386, ee387⟩ : ∃ z : Int32, f290 29 = z := ⟨_, rfl⟩
            have b388 : Bd v386 (0) (40) := (by rw [← ee387]; exact b292.2.2.2.2.2.2.2 29 (by decide))
            have q389 : elm (S289 7) 29 = v386.toInt := (elm_of c291 29).trans (congrArg Int32.toInt (ee387))
            have q390 : elm (S235 7) 30 = v64.toInt := (elm_of c236 30).trans (congrArg Int32.toInt (ee65))
            obtain ⟨v391, ee392⟩ : ∃ z : Int32, f290 30 = z := ⟨_, rfl⟩
            have b393 : Bd v391 (0) (12) := (by rw [← ee392]; exact b292.1 30 (by decide))
            have q394 : elm (S289 7) 30 = v391.toInt := (elm_of c291 30).trans (congrArg Int32.toInt (ee392))
            have q395 : elm (S235 7) 31 = v61.toInt := (elm_of c236 31).trans (congrArg Int32.toInt (ee62))
            obtain ⟨v396, ee397⟩ : ∃ z : Int32, f290 31 = z := ⟨_, rfl⟩
            have b398 : Bd v396 (0) (12) := (by rw [← ee397]; exact b292.2.1 31 (by decide))
            have q399 : elm (S289 7) 31 = v396.toInt := (elm_of c291 31).trans (congrArg Int32.toInt (ee397))
            have q400 : elm (S235 7) 33 = v67.toInt := (elm_of c236 33).trans (congrArg Int32.toInt (ee68))
            obtain ⟨v401, ee402⟩ : ∃ z : Int32, f290 33 = z := ⟨_, rfl⟩
            have b403 : Bd v401 (0) (12) := (by rw [← ee402]; exact b292.2.2.2.1 33 (by decide))
            have q404 : elm (S289 7) 33 = v401.toInt := (elm_of c291 33).trans (congrArg Int32.toInt (ee402))
            have q405 : elm (S235 7) 36 = v70.toInt := (elm_of c236 36).trans (congrArg Int32.toInt (ee71))
            obtain ⟨v406, ee407⟩ : ∃ z : Int32, f290 36 = z := ⟨_, rfl⟩
            have b408 : Bd v406 (0) (8) := (by rw [← ee407]; exact b292.2.2.2.2.1 36 (by decide))
            have q409 : elm (S289 7) 36 = v406.toInt := (elm_of c291 36).trans (congrArg Int32.toInt (ee407))
            have q410 : elm (S235 7) 38 = v73.toInt := (elm_of c236 38).trans (congrArg Int32.toInt (ee74))
            obtain ⟨v411, ee412⟩ : ∃ z : Int32, f290 38 = z := ⟨_, rfl⟩
            have b413 : Bd v411 (0) (3) := (by rw [← ee412]; exact b292.2.2.2.2.2.2.1 38 (by decide))
            have q414 : elm (S289 7) 38 = v411.toInt := (elm_of c291 38).trans (congrArg Int32.toInt (ee412))
            have q415 : elm (S235 7) 39 = v115.toInt := (elm_of c236 39).trans (congrArg Int32.toInt (ee116))
            obtain ⟨v416, ee417⟩ : ∃ z : Int32, f290 39 = z := ⟨_, rfl⟩
            have b418 : Bd v416 (0) (40) := (by rw [← ee417]; exact b292.2.2.2.2.2.2.2 39 (by decide))
            have q419 : elm (S289 7) 39 = v416.toInt := (elm_of c291 39).trans (congrArg Int32.toInt (ee417))
            refine lv_iconst (v := 1) hx hb dX12_shove_75 (by decide) ?_
            refine lv_istore (lv' := [(4, .int 1), (0, .ref (ad 0)), (1, .int a1), (2, .int a2), (3, .int a3)]) hx hb dX12_shove_76 hl (by decide) rfl (fun ls hl => ?_)
            refine lv_iconst (v := 0) hx hb dX12_shove_78 (by decide) ?_
            refine lv_istore (lv' := [(5, .int 0), (4, .int 1), (0, .ref (ad 0)), (1, .int a1), (2, .int a2), (3, .int a3)]) hx hb dX12_shove_79 hl (by decide) rfl (fun ls hl => ?_)
            have loop81 : ∀ (n : Nat) (H : Heap) (locs : List Loc) (ls : Array Slot) (x81_4 : Int32) (x81_5 : Int32), Bd x81_5 (0) (401) → (-1) * x81_5.toInt + 401 < ((n : Nat) : Int) → Hp g ad 20 S289 (FA ad 20) s.heap H locs → lv_has ls 6 [(5, .int x81_5), (4, .int x81_4), (0, .ref (ad 0)), (1, .int a1), (2, .int a2), (3, .int a3)] → W p l e (Rm 2) s m [.ref (ad 0), .int a1, .int a2, .int a3].toArray below meth c H locs 0 0 (MQ below (va_Qi (fun _ S' => InvM g ad S' ∧ (∀ j, j ∉ ([0, 7, 12, 14, 15] : List Nat) → S' j = S j) ∧ (0 ≤ 12 * elm (S' 7) 1 + (-1) * elm (S' 7) 0) ∧ (0 ≤ 12 * elm (S' 7) 3 + (-1) * elm (S' 7) 0) ∧ (0 ≤ 8 * elm (S' 7) 0 + (-1) * elm (S' 7) 6) ∧ (0 ≤ 3 * elm (S' 7) 0 + (-1) * elm (S' 7) 8) ∧ (0 ≤ 40000 * elm (S' 7) 0 + (-1) * elm (S' 6) 0) ∧ (0 ≤ 12 * elm (S' 7) 11 + (-1) * elm (S' 7) 10) ∧ (0 ≤ 12 * elm (S' 7) 13 + (-1) * elm (S' 7) 10) ∧ (0 ≤ 8 * elm (S' 7) 10 + (-1) * elm (S' 7) 16) ∧ (0 ≤ 3 * elm (S' 7) 10 + (-1) * elm (S' 7) 18) ∧ (0 ≤ 40000 * elm (S' 7) 10 + (-1) * elm (S' 6) 1) ∧ (0 ≤ 12 * elm (S' 7) 21 + (-1) * elm (S' 7) 20) ∧ (0 ≤ 12 * elm (S' 7) 23 + (-1) * elm (S' 7) 20) ∧ (0 ≤ 8 * elm (S' 7) 20 + (-1) * elm (S' 7) 26) ∧ (0 ≤ 3 * elm (S' 7) 20 + (-1) * elm (S' 7) 28) ∧ (0 ≤ 40000 * elm (S' 7) 20 + (-1) * elm (S' 6) 2) ∧ (0 ≤ 12 * elm (S' 7) 31 + (-1) * elm (S' 7) 30) ∧ (0 ≤ 12 * elm (S' 7) 33 + (-1) * elm (S' 7) 30) ∧ (0 ≤ 8 * elm (S' 7) 30 + (-1) * elm (S' 7) 36) ∧ (0 ≤ 3 * elm (S' 7) 30 + (-1) * elm (S' 7) 38) ∧ (0 ≤ 40000 * elm (S' 7) 30 + (-1) * elm (S' 6) 3) ∧ (ATp (S' 7) (S' 12) 0) ∧ (ATp (S' 7) (S' 12) 1) ∧ (ATp (S' 7) (S' 12) 2) ∧ (ATp (S' 7) (S' 12) 3)) (QB g ad 20) (FA ad 20)) [.ref (ad 0), .int a1, .int a2, .int a3].toArray s 0 0 (FA ad 20)) (F0 m 81 ls []) := by
              intro n
              induction n with
              | zero => intro H locs ls x81_4 x81_5 Bx81_5 hn81_ hQ hl; exfalso; have := (Bx81_5).2; omega
              | succ n81_ ih81 =>
                intro H locs ls x81_4 x81_5 Bx81_5 hn81_ hQ hl
                refine lv_iload hx hb dX12_shove_81 (lv_at hl 0 rfl) ?_
                refine lv_sipush (v := 400) hx hb dX12_shove_83 (by decide) ?_
                refine lv_icmp_gt (tgt := 121) hx hb dX12_shove_86 (by decide) (fun k420 => ?_) (fun k420 => ?_)
                · have h421 := ib_lt k420
                  have b422 : Bd x81_5 (401) (401) := ⟨((rf_lt (by decide : Bd 400 (400) (400)) Bx81_5 h421).2).1, (Bx81_5).2⟩
                  refine lv_iload hx hb dX12_shove_121 (lv_at hl 1 rfl) ?_
                  have c423 : S289 6 = .inl (g.2 0, 5, .inl f19) := ((o289 6 (by decide)).trans ((o235 6 (by decide)).trans (up_ne eS147 (by decide) c20)))
                  have q424 : elm (S289 6) 0 = v22.toInt := (elm_of c423 0).trans (congrArg Int32.toInt (ee23))
                  have q425 : elm (S289 6) 1 = v40.toInt := (elm_of c423 1).trans (congrArg Int32.toInt (ee41))
                  have q426 : elm (S289 6) 2 = v58.toInt := (elm_of c423 2).trans (congrArg Int32.toInt (ee59))
                  have q427 : elm (S289 6) 3 = v76.toInt := (elm_of c423 3).trans (congrArg Int32.toInt (ee77))
                  exact xri E hr hlk hQ (⟨hI, (o_trans (o_trans (up_o o_refl eS147 (by decide)) o235 (by decide)) o289 (by decide)), (by omega), (by omega), (by omega), (by omega), (by omega), (by omega), (by omega), (by omega), (by omega), (by omega), (by omega), (by omega), (by omega), (by omega), (by omega), (by omega), (by omega), (by omega), (by omega), (by omega), u289_0, u289_1, u289_2, u289_3⟩) dX12_shove_123
                · have h428 := ib_nlt k420
                  have b429 : Bd x81_5 (0) (400) := ⟨(Bx81_5).1, ((rf_le Bx81_5 (by decide : Bd 400 (400) (400)) h428).1).2⟩
                  refine lv_iload hx hb dX12_shove_89 (lv_at hl 1 rfl) ?_
                  refine lv_aload_n hx hb dX12_shove_91 rfl (lv_at hl 2 rfl) ?_
                  have c430 : S289 0 = .inr (12, [.int 0, .ref (ad 1), .ref (ad 2), .ref (ad 3), .ref (ad 4), .ref (ad 5), .int v119, .int v121, .int v123, .int v125, .int v126, .long w127, .int v128, .int v130, .int v131, .int v132, .ref (ad 6), .ref (ad 7), .ref (ad 8), .ref (ad 9), .ref (ad 10), .ref (ad 11), .ref (ad 12), .ref (ad 13), .ref (ad 14), .ref (ad 15), .int v133, .int v135, .ref (ad 16), .int v137, .int v139, .int v141, .int v143, .int v144, .ref (ad 17), .ref (ad 18), .int v145, .ref (ad 19)]) := ((o289 0 (by decide)).trans c238)
                  refine xget E hQ 0 (by decide) c430 rfl 25 (by decide) q1493 rfl dX12_shove_92 ?_
                  refine lv_sipush (v := 401) hx hb dX12_shove_95 (by decide) ?_
                  refine lv_iload_n hx hb dX12_shove_98 rfl (lv_at hl 3 rfl) ?_
                  refine lv_imul hx hb dX12_shove_99 ?_
                  refine lv_topi (fun z431 e432 => ?_)
                  have t433 := ib_cmul (q := 401) e432 (by decide) (by decide) b182 (by decide) (by decide)
                  have b434 : Bd z431 (0) (2807) := ib_mulb t433 (by decide) b182
                  refine lv_iload hx hb dX12_shove_100 (lv_at hl 0 rfl) ?_
                  refine lv_iadd hx hb dX12_shove_102 ?_
                  refine lv_topi (fun z435 e436 => ?_)
                  have t437 := ib_add e436 b434 b429 (by decide) (by decide)
                  have b438 : Bd z435 (0) (3207) := ib_addb t437 b434 b429
                  have c439 : S289 15 = .inl (g.2 0, 3208, .inl f280) := ((o289 15 (by decide)).trans c281)
                  refine xiald E hQ 15 (by decide) c439 (ib_in b438 (by decide) (by decide)) dX12_shove_103 ?_
                  refine lv_topi (fun z440 e441 => ?_)
                  refine lv_if_eq (tgt := 111) hx hb dX12_shove_104 (by decide) (fun k442 => ?_) (fun k442 => ?_)
                  · have h443 := ib_eq k442
                    have b444 : Bd z440 (0) (0) := ⟨((rf_eq (ib_full z440) (by decide : Bd 0 (0) (0)) h443).1).1, ((rf_eq (ib_full z440) (by decide : Bd 0 (0) (0)) h443).1).2⟩
                    refine lv_iconst (v := 0) hx hb dX12_shove_111 (by decide) ?_
                    refine lv_iadd hx hb dX12_shove_112 ?_
                    refine lv_topi (fun z445 e446 => ?_)
                    have t447 := ib_add e446 (ib_full x81_4) (by decide : Bd 0 (0) (0)) (by decide) (by decide)
                    have b448 : Bd z445 (-2147483648) (2147483647) := ib_addb t447 (ib_full x81_4) (by decide : Bd 0 (0) (0))
                    have t447 : z445.toInt = x81_4.toInt + 0 := fold_add t447 rfl (by decide)
                    refine lv_istore (lv' := [(4, .int z445), (5, .int x81_5), (0, .ref (ad 0)), (1, .int a1), (2, .int a2), (3, .int a3)]) hx hb dX12_shove_113 hl (by decide) rfl (fun ls hl => ?_)
                    obtain ⟨z449, e450⟩ : ∃ z : Int32, z = x81_5 + 1 := ⟨_, rfl⟩
                    have t451 := ib_add e450 b429 (by decide : Bd 1 (1) (1)) (by decide) (by decide)
                    have b452 : Bd z449 (1) (401) := ib_addb t451 b429 (by decide : Bd 1 (1) (1))
                    have t451 : z449.toInt = x81_5.toInt + 1 := fold_add t451 rfl (by decide)
                    refine lv_iinc (v := z449) (lv' := [(5, .int z449), (4, .int z445), (0, .ref (ad 0)), (1, .int a1), (2, .int a2), (3, .int a3)]) hx hb dX12_shove_115 hl (k := 1) rfl (by rw [e450]; rfl) (by decide) rfl (fun ls hl => ?_)
                    refine lv_goto (tgt := 81) hx hb dX12_shove_118 (by decide) ?_
                    exact ih81 _ _ _ z445 z449 (ib_wk b452 (by decide) (by decide)) (by omega) hQ (lv_sub hl [0, 1, 2, 3, 4, 5] rfl)
                  · have h453 := ib_ne k442
                    refine lv_iconst (v := 1) hx hb dX12_shove_107 (by decide) ?_
                    refine lv_goto (tgt := 112) hx hb dX12_shove_108 (by decide) ?_
                    refine lv_iadd hx hb dX12_shove_112 ?_
                    refine lv_topi (fun z454 e455 => ?_)
                    refine lv_istore (lv' := [(4, .int z454), (5, .int x81_5), (0, .ref (ad 0)), (1, .int a1), (2, .int a2), (3, .int a3)]) hx hb dX12_shove_113 hl (by decide) rfl (fun ls hl => ?_)
                    obtain ⟨z456, e457⟩ : ∃ z : Int32, z = x81_5 + 1 := ⟨_, rfl⟩
                    have t458 := ib_add e457 b429 (by decide : Bd 1 (1) (1)) (by decide) (by decide)
                    have b459 : Bd z456 (1) (401) := ib_addb t458 b429 (by decide : Bd 1 (1) (1))
                    have t458 : z456.toInt = x81_5.toInt + 1 := fold_add t458 rfl (by decide)
                    refine lv_iinc (v := z456) (lv' := [(5, .int z456), (4, .int z454), (0, .ref (ad 0)), (1, .int a1), (2, .int a2), (3, .int a3)]) hx hb dX12_shove_115 hl (k := 1) rfl (by rw [e457]; rfl) (by decide) rfl (fun ls hl => ?_)
                    refine lv_goto (tgt := 81) hx hb dX12_shove_118 (by decide) ?_
                    exact ih81 _ _ _ z454 z456 (ib_wk b459 (by decide) (by decide)) (by omega) hQ (lv_sub hl [0, 1, 2, 3, 4, 5] rfl)
            obtain ⟨n81, hn81⟩ := fu_n (401)
            exact loop81 n81 _ _ _ 1 0 (ib_wk (by decide : Bd 0 (0) (0)) (by decide) (by decide)) (by have : (1 : Int32).toInt = 1 := (by decide); have : (0 : Int32).toInt = 0 := (by decide); omega) hQ (lv_sub hl [0, 1, 2, 3, 4, 5] rfl)
          · have h460 := ib_ne k285
            refine lv_bipush (v := (-5)) hx hb dX12_shove_64 (by decide) ?_
            have q461 : elm (S235 7) 1 = v4.toInt := (elm_of c236 1).trans (congrArg Int32.toInt (ee5))
            have q462 : elm (S235 7) 0 = v7.toInt := (elm_of c236 0).trans (congrArg Int32.toInt (ee8))
            have q463 : elm (S235 7) 3 = v10.toInt := (elm_of c236 3).trans (congrArg Int32.toInt (ee11))
            have q464 : elm (S235 7) 6 = v13.toInt := (elm_of c236 6).trans (congrArg Int32.toInt (ee14))
            have q465 : elm (S235 7) 8 = v16.toInt := (elm_of c236 8).trans (congrArg Int32.toInt (ee17))
            have c466 : S235 6 = .inl (g.2 0, 5, .inl f19) := ((o235 6 (by decide)).trans (up_ne eS147 (by decide) c20))
            have q467 : elm (S235 6) 0 = v22.toInt := (elm_of c466 0).trans (congrArg Int32.toInt (ee23))
            have q468 : elm (S235 7) 11 = v25.toInt := (elm_of c236 11).trans (congrArg Int32.toInt (ee26))
            have q469 : elm (S235 7) 10 = v28.toInt := (elm_of c236 10).trans (congrArg Int32.toInt (ee29))
            have q470 : elm (S235 7) 13 = v31.toInt := (elm_of c236 13).trans (congrArg Int32.toInt (ee32))
            have q471 : elm (S235 7) 16 = v34.toInt := (elm_of c236 16).trans (congrArg Int32.toInt (ee35))
            have q472 : elm (S235 7) 18 = v37.toInt := (elm_of c236 18).trans (congrArg Int32.toInt (ee38))
            have q473 : elm (S235 6) 1 = v40.toInt := (elm_of c466 1).trans (congrArg Int32.toInt (ee41))
            have q474 : elm (S235 7) 21 = v43.toInt := (elm_of c236 21).trans (congrArg Int32.toInt (ee44))
            have q475 : elm (S235 7) 20 = v46.toInt := (elm_of c236 20).trans (congrArg Int32.toInt (ee47))
            have q476 : elm (S235 7) 23 = v49.toInt := (elm_of c236 23).trans (congrArg Int32.toInt (ee50))
            have q477 : elm (S235 7) 26 = v52.toInt := (elm_of c236 26).trans (congrArg Int32.toInt (ee53))
            have q478 : elm (S235 7) 28 = v55.toInt := (elm_of c236 28).trans (congrArg Int32.toInt (ee56))
            have q479 : elm (S235 6) 2 = v58.toInt := (elm_of c466 2).trans (congrArg Int32.toInt (ee59))
            have q480 : elm (S235 7) 31 = v61.toInt := (elm_of c236 31).trans (congrArg Int32.toInt (ee62))
            have q481 : elm (S235 7) 30 = v64.toInt := (elm_of c236 30).trans (congrArg Int32.toInt (ee65))
            have q482 : elm (S235 7) 33 = v67.toInt := (elm_of c236 33).trans (congrArg Int32.toInt (ee68))
            have q483 : elm (S235 7) 36 = v70.toInt := (elm_of c236 36).trans (congrArg Int32.toInt (ee71))
            have q484 : elm (S235 7) 38 = v73.toInt := (elm_of c236 38).trans (congrArg Int32.toInt (ee74))
            have q485 : elm (S235 6) 3 = v76.toInt := (elm_of c466 3).trans (congrArg Int32.toInt (ee77))
            exact xri E hr hlk hQ (⟨hI, (o_trans (up_o o_refl eS147 (by decide)) o235 (by decide)), (by omega), (by omega), (by omega), (by omega), (by omega), (by omega), (by omega), (by omega), (by omega), (by omega), (by omega), (by omega), (by omega), (by omega), (by omega), (by omega), (by omega), (by omega), (by omega), (by omega), (at_tr hAT0 ((o235 7 (by decide)).trans (up_eq (j := 7) eS147 (by decide))) ((o235 12 (by decide)).trans (up_eq (j := 12) eS147 (by decide)))), (at_tr hAT1 ((o235 7 (by decide)).trans (up_eq (j := 7) eS147 (by decide))) ((o235 12 (by decide)).trans (up_eq (j := 12) eS147 (by decide)))), (at_tr hAT2 ((o235 7 (by decide)).trans (up_eq (j := 7) eS147 (by decide))) ((o235 12 (by decide)).trans (up_eq (j := 12) eS147 (by decide)))), (at_tr hAT3 ((o235 7 (by decide)).trans (up_eq (j := 7) eS147 (by decide))) ((o235 12 (by decide)).trans (up_eq (j := 12) eS147 (by decide))))⟩) dX12_shove_66
      · have h486 := ib_eq k229
        have b487 : Bd r228 (0) (0) := ⟨(b228).1, ((rf_eq b228 (by decide : Bd 0 (0) (0)) h486).1).2⟩
        clear g228_0
        refine lv_bipush (v := (-2)) hx hb dX12_shove_35 (by decide) ?_
        have q488 : elm (S147 7) 1 = v4.toInt := (elm_of c149 1).trans (congrArg Int32.toInt (ee5))
        have q489 : elm (S147 7) 0 = v7.toInt := (elm_of c149 0).trans (congrArg Int32.toInt (ee8))
        have q490 : elm (S147 7) 3 = v10.toInt := (elm_of c149 3).trans (congrArg Int32.toInt (ee11))
        have q491 : elm (S147 7) 8 = v16.toInt := (elm_of c149 8).trans (congrArg Int32.toInt (ee17))
        have c492 : S147 6 = .inl (g.2 0, 5, .inl f19) := (up_ne eS147 (by decide) c20)
        have q493 : elm (S147 6) 0 = v22.toInt := (elm_of c492 0).trans (congrArg Int32.toInt (ee23))
        have q494 : elm (S147 7) 11 = v25.toInt := (elm_of c149 11).trans (congrArg Int32.toInt (ee26))
        have q495 : elm (S147 7) 10 = v28.toInt := (elm_of c149 10).trans (congrArg Int32.toInt (ee29))
        have q496 : elm (S147 7) 13 = v31.toInt := (elm_of c149 13).trans (congrArg Int32.toInt (ee32))
        have q497 : elm (S147 7) 16 = v34.toInt := (elm_of c149 16).trans (congrArg Int32.toInt (ee35))
        have q498 : elm (S147 7) 18 = v37.toInt := (elm_of c149 18).trans (congrArg Int32.toInt (ee38))
        have q499 : elm (S147 6) 1 = v40.toInt := (elm_of c492 1).trans (congrArg Int32.toInt (ee41))
        have q500 : elm (S147 7) 21 = v43.toInt := (elm_of c149 21).trans (congrArg Int32.toInt (ee44))
        have q501 : elm (S147 7) 20 = v46.toInt := (elm_of c149 20).trans (congrArg Int32.toInt (ee47))
        have q502 : elm (S147 7) 23 = v49.toInt := (elm_of c149 23).trans (congrArg Int32.toInt (ee50))
        have q503 : elm (S147 7) 26 = v52.toInt := (elm_of c149 26).trans (congrArg Int32.toInt (ee53))
        have q504 : elm (S147 7) 28 = v55.toInt := (elm_of c149 28).trans (congrArg Int32.toInt (ee56))
        have q505 : elm (S147 6) 2 = v58.toInt := (elm_of c492 2).trans (congrArg Int32.toInt (ee59))
        have q506 : elm (S147 7) 31 = v61.toInt := (elm_of c149 31).trans (congrArg Int32.toInt (ee62))
        have q507 : elm (S147 7) 30 = v64.toInt := (elm_of c149 30).trans (congrArg Int32.toInt (ee65))
        have q508 : elm (S147 7) 33 = v67.toInt := (elm_of c149 33).trans (congrArg Int32.toInt (ee68))
        have q509 : elm (S147 7) 36 = v70.toInt := (elm_of c149 36).trans (congrArg Int32.toInt (ee71))
        have q510 : elm (S147 7) 38 = v73.toInt := (elm_of c149 38).trans (congrArg Int32.toInt (ee74))
        have q511 : elm (S147 6) 3 = v76.toInt := (elm_of c492 3).trans (congrArg Int32.toInt (ee77))
        exact xri E hr hlk hQ (⟨hI, (up_o o_refl eS147 (by decide)), (by omega), (by omega), (by omega), (by omega), (by omega), (by omega), (by omega), (by omega), (by omega), (by omega), (by omega), (by omega), (by omega), (by omega), (by omega), (by omega), (by omega), (by omega), (by omega), (by omega), (at_tr hAT0 (up_eq (j := 7) eS147 (by decide)) (up_eq (j := 12) eS147 (by decide))), (at_tr hAT1 (up_eq (j := 7) eS147 (by decide)) (up_eq (j := 12) eS147 (by decide))), (at_tr hAT2 (up_eq (j := 7) eS147 (by decide)) (up_eq (j := 12) eS147 (by decide))), (at_tr hAT3 (up_eq (j := 7) eS147 (by decide)) (up_eq (j := 12) eS147 (by decide)))⟩) dX12_shove_37
set_option maxHeartbeats 4000000 in
set_option maxRecDepth 100000 in
theorem gX12_undo_0 (l : Launch) (g : GG) (ad : Nat → Nat) (hD : Dj ad 20) (S : SS) (hI : InvM g ad S) (hq1 : 0 ≤ 12 * elm (S 7) 1 + (-1) * elm (S 7) 0) (hq2 : 0 ≤ 12 * elm (S 7) 3 + (-1) * elm (S 7) 0) (hq3 : 0 ≤ 8 * elm (S 7) 0 + (-1) * elm (S 7) 6) (hq4 : 0 ≤ 3 * elm (S 7) 0 + (-1) * elm (S 7) 8) (hq5 : 0 ≤ 40000 * elm (S 7) 0 + (-1) * elm (S 6) 0) (hq6 : 0 ≤ 12 * elm (S 7) 11 + (-1) * elm (S 7) 10) (hq7 : 0 ≤ 12 * elm (S 7) 13 + (-1) * elm (S 7) 10) (hq8 : 0 ≤ 8 * elm (S 7) 10 + (-1) * elm (S 7) 16) (hq9 : 0 ≤ 3 * elm (S 7) 10 + (-1) * elm (S 7) 18) (hq10 : 0 ≤ 40000 * elm (S 7) 10 + (-1) * elm (S 6) 1) (hq11 : 0 ≤ 12 * elm (S 7) 21 + (-1) * elm (S 7) 20) (hq12 : 0 ≤ 12 * elm (S 7) 23 + (-1) * elm (S 7) 20) (hq13 : 0 ≤ 8 * elm (S 7) 20 + (-1) * elm (S 7) 26) (hq14 : 0 ≤ 3 * elm (S 7) 20 + (-1) * elm (S 7) 28) (hq15 : 0 ≤ 40000 * elm (S 7) 20 + (-1) * elm (S 6) 2) (hq16 : 0 ≤ 12 * elm (S 7) 31 + (-1) * elm (S 7) 30) (hq17 : 0 ≤ 12 * elm (S 7) 33 + (-1) * elm (S 7) 30) (hq18 : 0 ≤ 8 * elm (S 7) 30 + (-1) * elm (S 7) 36) (hq19 : 0 ≤ 3 * elm (S 7) 30 + (-1) * elm (S 7) 38) (hq20 : 0 ≤ 40000 * elm (S 7) 30 + (-1) * elm (S 6) 3) (hq21 : 0 ≤ (-1) * elm (S 7) 9 + 40) (hq22 : 0 ≤ (-1) * elm (S 7) 19 + 40) (hq23 : 0 ≤ (-1) * elm (S 7) 29 + 40) (hq24 : 0 ≤ (-1) * elm (S 7) 39 + 40) (hAT0 : ATp (S 7) (S 12) 0) (hAT1 : ATp (S 7) (S 12) 1) (hAT2 : ATp (S 7) (S 12) 2) (hAT3 : ATp (S 7) (S 12) 3) : Met l yX12_undo (wG (.code yX12_undo cX12_undo 1 (some .int))) (Rm 1) (XPre g ad 20 S [.ref (ad 0)]) (va_Qi (fun r S' => InvM g ad S' ∧ (∀ j, j ∉ ([0, 7] : List Nat) → S' j = S j) ∧ Bd r (-5) (39) ∧ (0 ≤ 12 * elm (S' 7) 1 + (-1) * elm (S' 7) 0) ∧ (0 ≤ 12 * elm (S' 7) 3 + (-1) * elm (S' 7) 0) ∧ (0 ≤ 8 * elm (S' 7) 0 + (-1) * elm (S' 7) 6) ∧ (0 ≤ 3 * elm (S' 7) 0 + (-1) * elm (S' 7) 8) ∧ (0 ≤ 40000 * elm (S' 7) 0 + (-1) * elm (S' 6) 0) ∧ (0 ≤ 12 * elm (S' 7) 11 + (-1) * elm (S' 7) 10) ∧ (0 ≤ 12 * elm (S' 7) 13 + (-1) * elm (S' 7) 10) ∧ (0 ≤ 8 * elm (S' 7) 10 + (-1) * elm (S' 7) 16) ∧ (0 ≤ 3 * elm (S' 7) 10 + (-1) * elm (S' 7) 18) ∧ (0 ≤ 40000 * elm (S' 7) 10 + (-1) * elm (S' 6) 1) ∧ (0 ≤ 12 * elm (S' 7) 21 + (-1) * elm (S' 7) 20) ∧ (0 ≤ 12 * elm (S' 7) 23 + (-1) * elm (S' 7) 20) ∧ (0 ≤ 8 * elm (S' 7) 20 + (-1) * elm (S' 7) 26) ∧ (0 ≤ 3 * elm (S' 7) 20 + (-1) * elm (S' 7) 28) ∧ (0 ≤ 40000 * elm (S' 7) 20 + (-1) * elm (S' 6) 2) ∧ (0 ≤ 12 * elm (S' 7) 31 + (-1) * elm (S' 7) 30) ∧ (0 ≤ 12 * elm (S' 7) 33 + (-1) * elm (S' 7) 30) ∧ (0 ≤ 8 * elm (S' 7) 30 + (-1) * elm (S' 7) 36) ∧ (0 ≤ 3 * elm (S' 7) 30 + (-1) * elm (S' 7) 38) ∧ (0 ≤ 40000 * elm (S' 7) 30 + (-1) * elm (S' 6) 3) ∧ (ATp (S' 7) (S' 12) 0) ∧ (ATp (S' 7) (S' 12) 1) ∧ (ATp (S' 7) (S' 12) 2) ∧ (ATp (S' 7) (S' 12) 3)) (QB g ad 20) (FA ad 20)) 0 0 (FA ad 20) := by
  refine xmet cX12_undo "EbbWreckModel" (by decide) rfl (Nat.le_of_ble_eq_true rfl) (fun p e s m below meth c E hr hlk hml hQ ls hl => ?_)
  have hx := E.1
  have hb := E.2.1
  have hs : Sp ad 20 (FA ad 20) := Sp.fa hD
  have hl : lv_has ls 1 [(0, .ref (ad 0))] := hl
  obtain ⟨f1, c2, b3⟩ := invM_7 hI
  obtain ⟨v4, ee5⟩ : ∃ z : Int32, f1 1 = z := ⟨_, rfl⟩
  have b6 : Bd v4 (0) (12) := (by rw [← ee5]; exact b3.2.1 1 (by decide))
  obtain ⟨v7, ee8⟩ : ∃ z : Int32, f1 0 = z := ⟨_, rfl⟩
  have b9 : Bd v7 (0) (12) := (by rw [← ee8]; exact b3.1 0 (by decide))
  obtain ⟨v10, ee11⟩ : ∃ z : Int32, f1 3 = z := ⟨_, rfl⟩
  have b12 : Bd v10 (0) (12) := (by rw [← ee11]; exact b3.2.2.2.1 3 (by decide))
  obtain ⟨v13, ee14⟩ : ∃ z : Int32, f1 6 = z := ⟨_, rfl⟩
  have b15 : Bd v13 (0) (8) := (by rw [← ee14]; exact b3.2.2.2.2.1 6 (by decide))
  obtain ⟨v16, ee17⟩ : ∃ z : Int32, f1 8 = z := ⟨_, rfl⟩
  have b18 : Bd v16 (0) (3) := (by rw [← ee17]; exact b3.2.2.2.2.2.2.1 8 (by decide))
  obtain ⟨f19, c20, b21⟩ := invM_6 hI
  obtain ⟨v22, ee23⟩ : ∃ z : Int32, f19 0 = z := ⟨_, rfl⟩
  have b24 : Bd v22 (0) (40000) := (by rw [← ee23]; exact b21 0)
  obtain ⟨v25, ee26⟩ : ∃ z : Int32, f1 11 = z := ⟨_, rfl⟩
  have b27 : Bd v25 (0) (12) := (by rw [← ee26]; exact b3.2.1 11 (by decide))
  obtain ⟨v28, ee29⟩ : ∃ z : Int32, f1 10 = z := ⟨_, rfl⟩
  have b30 : Bd v28 (0) (12) := (by rw [← ee29]; exact b3.1 10 (by decide))
  obtain ⟨v31, ee32⟩ : ∃ z : Int32, f1 13 = z := ⟨_, rfl⟩
  have b33 : Bd v31 (0) (12) := (by rw [← ee32]; exact b3.2.2.2.1 13 (by decide))
  obtain ⟨v34, ee35⟩ : ∃ z : Int32, f1 16 = z := ⟨_, rfl⟩
  have b36 : Bd v34 (0) (8) := (by rw [← ee35]; exact b3.2.2.2.2.1 16 (by decide))
  obtain ⟨v37, ee38⟩ : ∃ z : Int32, f1 18 = z := ⟨_, rfl⟩
  have b39 : Bd v37 (0) (3) := (by rw [← ee38]; exact b3.2.2.2.2.2.2.1 18 (by decide))
  obtain ⟨v40, ee41⟩ : ∃ z : Int32, f19 1 = z := ⟨_, rfl⟩
  have b42 : Bd v40 (0) (40000) := (by rw [← ee41]; exact b21 1)
  obtain ⟨v43, ee44⟩ : ∃ z : Int32, f1 21 = z := ⟨_, rfl⟩
  have b45 : Bd v43 (0) (12) := (by rw [← ee44]; exact b3.2.1 21 (by decide))
  obtain ⟨v46, ee47⟩ : ∃ z : Int32, f1 20 = z := ⟨_, rfl⟩
  have b48 : Bd v46 (0) (12) := (by rw [← ee47]; exact b3.1 20 (by decide))
  obtain ⟨v49, ee50⟩ : ∃ z : Int32, f1 23 = z := ⟨_, rfl⟩
  have b51 : Bd v49 (0) (12) := (by rw [← ee50]; exact b3.2.2.2.1 23 (by decide))
  obtain ⟨v52, ee53⟩ : ∃ z : Int32, f1 26 = z := ⟨_, rfl⟩
  have b54 : Bd v52 (0) (8) := (by rw [← ee53]; exact b3.2.2.2.2.1 26 (by decide))
  obtain ⟨v55, ee56⟩ : ∃ z : Int32, f1 28 = z := ⟨_, rfl⟩
  have b57 : Bd v55 (0) (3) := (by rw [← ee56]; exact b3.2.2.2.2.2.2.1 28 (by decide))
  obtain ⟨v58, ee59⟩ : ∃ z : Int32, f19 2 = z := ⟨_, rfl⟩
  have b60 : Bd v58 (0) (40000) := (by rw [← ee59]; exact b21 2)
  obtain ⟨v61, ee62⟩ : ∃ z : Int32, f1 31 = z := ⟨_, rfl⟩
  have b63 : Bd v61 (0) (12) := (by rw [← ee62]; exact b3.2.1 31 (by decide))
  obtain ⟨v64, ee65⟩ : ∃ z : Int32, f1 30 = z := ⟨_, rfl⟩
  have b66 : Bd v64 (0) (12) := (by rw [← ee65]; exact b3.1 30 (by decide))
  obtain ⟨v67, ee68⟩ : ∃ z : Int32, f1 33 = z := ⟨_, rfl⟩
  have b69 : Bd v67 (0) (12) := (by rw [← ee68]; exact b3.2.2.2.1 33 (by decide))
  obtain ⟨v70, ee71⟩ : ∃ z : Int32, f1 36 = z := ⟨_, rfl⟩
  have b72 : Bd v70 (0) (8) := (by rw [← ee71]; exact b3.2.2.2.2.1 36 (by decide))
  obtain ⟨v73, ee74⟩ : ∃ z : Int32, f1 38 = z := ⟨_, rfl⟩
  have b75 : Bd v73 (0) (3) := (by rw [← ee74]; exact b3.2.2.2.2.2.2.1 38 (by decide))
  obtain ⟨v76, ee77⟩ : ∃ z : Int32, f19 3 = z := ⟨_, rfl⟩
  have b78 : Bd v76 (0) (40000) := (by rw [← ee77]; exact b21 3)
  obtain ⟨v79, ee80⟩ : ∃ z : Int32, f1 9 = z := ⟨_, rfl⟩
  have b81 : Bd v79 (0) (40) := (by rw [← ee80]; exact b3.2.2.2.2.2.2.2 9 (by decide))
  obtain ⟨v82, ee83⟩ : ∃ z : Int32, f1 19 = z := ⟨_, rfl⟩
  have b84 : Bd v82 (0) (40) := (by rw [← ee83]; exact b3.2.2.2.2.2.2.2 19 (by decide))
  obtain ⟨v85, ee86⟩ : ∃ z : Int32, f1 29 = z := ⟨_, rfl⟩
  have b87 : Bd v85 (0) (40) := (by rw [← ee86]; exact b3.2.2.2.2.2.2.2 29 (by decide))
  obtain ⟨v88, ee89⟩ : ∃ z : Int32, f1 39 = z := ⟨_, rfl⟩
  have b90 : Bd v88 (0) (40) := (by rw [← ee89]; exact b3.2.2.2.2.2.2.2 39 (by decide))
  have q91 : elm (S 7) 1 = v4.toInt := (elm_of c2 1).trans (congrArg Int32.toInt (ee5))
  have q92 : elm (S 7) 0 = v7.toInt := (elm_of c2 0).trans (congrArg Int32.toInt (ee8))
  have q93 : elm (S 7) 3 = v10.toInt := (elm_of c2 3).trans (congrArg Int32.toInt (ee11))
  have q94 : elm (S 7) 6 = v13.toInt := (elm_of c2 6).trans (congrArg Int32.toInt (ee14))
  have q95 : elm (S 7) 8 = v16.toInt := (elm_of c2 8).trans (congrArg Int32.toInt (ee17))
  have q96 : elm (S 6) 0 = v22.toInt := (elm_of c20 0).trans (congrArg Int32.toInt (ee23))
  have q97 : elm (S 7) 11 = v25.toInt := (elm_of c2 11).trans (congrArg Int32.toInt (ee26))
  have q98 : elm (S 7) 10 = v28.toInt := (elm_of c2 10).trans (congrArg Int32.toInt (ee29))
  have q99 : elm (S 7) 13 = v31.toInt := (elm_of c2 13).trans (congrArg Int32.toInt (ee32))
  have q100 : elm (S 7) 16 = v34.toInt := (elm_of c2 16).trans (congrArg Int32.toInt (ee35))
  have q101 : elm (S 7) 18 = v37.toInt := (elm_of c2 18).trans (congrArg Int32.toInt (ee38))
  have q102 : elm (S 6) 1 = v40.toInt := (elm_of c20 1).trans (congrArg Int32.toInt (ee41))
  have q103 : elm (S 7) 21 = v43.toInt := (elm_of c2 21).trans (congrArg Int32.toInt (ee44))
  have q104 : elm (S 7) 20 = v46.toInt := (elm_of c2 20).trans (congrArg Int32.toInt (ee47))
  have q105 : elm (S 7) 23 = v49.toInt := (elm_of c2 23).trans (congrArg Int32.toInt (ee50))
  have q106 : elm (S 7) 26 = v52.toInt := (elm_of c2 26).trans (congrArg Int32.toInt (ee53))
  have q107 : elm (S 7) 28 = v55.toInt := (elm_of c2 28).trans (congrArg Int32.toInt (ee56))
  have q108 : elm (S 6) 2 = v58.toInt := (elm_of c20 2).trans (congrArg Int32.toInt (ee59))
  have q109 : elm (S 7) 31 = v61.toInt := (elm_of c2 31).trans (congrArg Int32.toInt (ee62))
  have q110 : elm (S 7) 30 = v64.toInt := (elm_of c2 30).trans (congrArg Int32.toInt (ee65))
  have q111 : elm (S 7) 33 = v67.toInt := (elm_of c2 33).trans (congrArg Int32.toInt (ee68))
  have q112 : elm (S 7) 36 = v70.toInt := (elm_of c2 36).trans (congrArg Int32.toInt (ee71))
  have q113 : elm (S 7) 38 = v73.toInt := (elm_of c2 38).trans (congrArg Int32.toInt (ee74))
  have q114 : elm (S 6) 3 = v76.toInt := (elm_of c20 3).trans (congrArg Int32.toInt (ee77))
  have q115 : elm (S 7) 9 = v79.toInt := (elm_of c2 9).trans (congrArg Int32.toInt (ee80))
  have q116 : elm (S 7) 19 = v82.toInt := (elm_of c2 19).trans (congrArg Int32.toInt (ee83))
  have q117 : elm (S 7) 29 = v85.toInt := (elm_of c2 29).trans (congrArg Int32.toInt (ee86))
  have q118 : elm (S 7) 39 = v88.toInt := (elm_of c2 39).trans (congrArg Int32.toInt (ee89))
  obtain ⟨f119, c120, b121⟩ := invM_12 hI
  refine lv_aload_n hx hb dX12_undo_0 rfl (lv_at hl 0 rfl) ?_
  refine lv_iconst (v := 0) hx hb dX12_undo_1 (by decide) ?_
  obtain ⟨v122, v123, v125, v127, v129, v130, w131, v132, v134, v135, v136, v137, v139, v141, v143, v145, v147, v148, v149, c150, b124, b126, b128, b133, b138, b140, b142, b144, b146⟩ := invM_0 hI
  have c150 : S 0 = .inr (12, [.int v122, .ref (ad 1), .ref (ad 2), .ref (ad 3), .ref (ad 4), .ref (ad 5), .int v123, .int v125, .int v127, .int v129, .int v130, .long w131, .int v132, .int v134, .int v135, .int v136, .ref (ad 6), .ref (ad 7), .ref (ad 8), .ref (ad 9), .ref (ad 10), .ref (ad 11), .ref (ad 12), .ref (ad 13), .ref (ad 14), .ref (ad 15), .int v137, .int v139, .ref (ad 16), .int v141, .int v143, .int v145, .int v147, .int v148, .ref (ad 17), .ref (ad 18), .int v149, .ref (ad 19)]) := c150
  refine xputi E hs hQ 0 (by decide) c150 rfl 0 (by decide) q1468 rfl rfl (Nat.le_of_ble_eq_true rfl) dX12_undo_2 (fun H locs S151 eS151 hQ => ?_)
  have hI := invM_up_0 hI eS151 ⟨0, v123, v125, v127, v129, v130, w131, v132, v134, v135, v136, v137, v139, v141, v143, v145, v147, v148, v149, rfl, b124, b126, b128, b133, b138, b140, b142, b144, b146⟩
  have c152 : S151 0 = .inr (12, [.int 0, .ref (ad 1), .ref (ad 2), .ref (ad 3), .ref (ad 4), .ref (ad 5), .int v123, .int v125, .int v127, .int v129, .int v130, .long w131, .int v132, .int v134, .int v135, .int v136, .ref (ad 6), .ref (ad 7), .ref (ad 8), .ref (ad 9), .ref (ad 10), .ref (ad 11), .ref (ad 12), .ref (ad 13), .ref (ad 14), .ref (ad 15), .int v137, .int v139, .ref (ad 16), .int v141, .int v143, .int v145, .int v147, .int v148, .ref (ad 17), .ref (ad 18), .int v149, .ref (ad 19)]) := up_at eS151 rfl
  refine lv_aload_n hx hb dX12_undo_5 rfl (lv_at hl 0 rfl) ?_
  have c153 : S151 6 = .inl (g.2 0, 5, .inl f19) := (up_ne eS151 (by decide) c20)
  refine xcVi E hs hQ hml hl.1 0 (gX12_isShore_0 l g ad hD S151 hI ) mX12_isShore q1782 (by decide) c152 rfl rfl ⟨(Nat.le_of_ble_eq_true rfl), (Nat.le_of_ble_eq_true rfl)⟩ ⟨(Nat.le_of_ble_eq_true rfl), (Nat.le_of_ble_eq_true rfl)⟩ (Nat.le_of_ble_eq_true rfl) rfl dX12_undo_6 (fun r154 S154 H locs hp154 hQ _ => ?_)
  obtain ⟨rfl, b154, g154_0⟩ := hp154
  have q155 : elm (S151 6) 0 = v22.toInt := (elm_of c153 0).trans (congrArg Int32.toInt (ee23))
  refine lv_if_ne (tgt := 15) hx hb dX12_undo_9 (by decide) (fun k156 => ?_) (fun k156 => ?_)
  · have h157 := ib_ne k156
    have b158 : Bd r154 (1) (1) := rf_nlo b154 (by decide : Bd 0 (0) (0)) h157
    have g159 := g154_0.resolve_left (by omega)
    clear g154_0
    have b160 : Bd v22 (1) (40000) := ⟨by omega, (b24).2⟩
    refine lv_aload_n hx hb dX12_undo_15 rfl (lv_at hl 0 rfl) ?_
    refine xget E hQ 0 (by decide) c152 rfl 17 (by decide) q1485 rfl dX12_undo_16 ?_
    refine lv_bipush (v := 9) hx hb dX12_undo_19 (by decide) ?_
    have c161 : S151 7 = .inl (g.2 0, 50, .inl f1) := (up_ne eS151 (by decide) c2)
    refine xiald E hQ 7 (by decide) c161 (vp_in_lit 9 50 (by decide)) dX12_undo_21 ?_
    refine sb_at (P := fun z => W _ _ _ _ _ _ _ _ _ _ _ _ _ _ _ (F0 _ _ _ (.int z :: _))) (show f1 (9 : Int32).toNatClampNeg = v79 from ee80) ?_
    refine lv_if_ne (tgt := 28) hx hb dX12_undo_22 (by decide) (fun k162 => ?_) (fun k162 => ?_)
    · have h163 := ib_ne k162
      have b164 : Bd v79 (1) (40) := rf_nlo b81 (by decide : Bd 0 (0) (0)) h163
      refine lv_aload_n hx hb dX12_undo_28 rfl (lv_at hl 0 rfl) ?_
      refine xget E hQ 0 (by decide) c152 rfl 17 (by decide) q1485 rfl dX12_undo_29 ?_
      refine lv_bipush (v := 9) hx hb dX12_undo_32 (by decide) ?_
      refine lv_dup2_11 hx hb dX12_undo_34 rfl rfl ?_
      refine xiald E hQ 7 (by decide) c161 (vp_in_lit 9 50 (by decide)) dX12_undo_35 ?_
      refine sb_at (P := fun z => W _ _ _ _ _ _ _ _ _ _ _ _ _ _ _ (F0 _ _ _ (.int z :: _))) (show f1 (9 : Int32).toNatClampNeg = v79 from ee80) ?_
      refine lv_iconst (v := 1) hx hb dX12_undo_36 (by decide) ?_
      refine lv_isub hx hb dX12_undo_37 ?_
      refine lv_topi (fun z165 e166 => ?_)
      have t167 := ib_sub e166 b164 (by decide : Bd 1 (1) (1)) (by decide) (by decide)
      have b168 : Bd z165 (0) (39) := ib_subb t167 b164 (by decide : Bd 1 (1) (1))
      have t167 : z165.toInt = v79.toInt - 1 := fold_sub t167 rfl (by decide)
      refine xiast E hs hQ 7 (by decide) c161 (vp_in_lit 9 50 (by decide)) dX12_undo_38 (fun H locs S169 eS169 hQ => ?_)
      have hI := invM_up_7 hI eS169 ⟨_, rfl, ⟨upd_mn b3.1 (by decide), upd_mn b3.2.1 (by decide), upd_mn b3.2.2.1 (by decide), upd_mn b3.2.2.2.1 (by decide), upd_mn b3.2.2.2.2.1 (by decide), upd_mn b3.2.2.2.2.2.1 (by decide), upd_mn b3.2.2.2.2.2.2.1 (by decide), upd_m b3.2.2.2.2.2.2.2 (ib_wk b168 (by decide) (by decide))⟩⟩
      have b171 : (∀ j, j % 10 = 0 → Bd ((upd f1 (9 : Int32).toNatClampNeg z165) j) (0) (12)) ∧ (∀ j, j % 10 = 1 → Bd ((upd f1 (9 : Int32).toNatClampNeg z165) j) (0) (12)) ∧ (∀ j, j % 10 = 2 → Bd ((upd f1 (9 : Int32).toNatClampNeg z165) j) (0) (6)) ∧ (∀ j, j % 10 = 3 → Bd ((upd f1 (9 : Int32).toNatClampNeg z165) j) (0) (12)) ∧ (∀ j, j % 10 = 6 → Bd ((upd f1 (9 : Int32).toNatClampNeg z165) j) (0) (8)) ∧ (∀ j, j % 10 = 7 → Bd ((upd f1 (9 : Int32).toNatClampNeg z165) j) (0) (6)) ∧ (∀ j, j % 10 = 8 → Bd ((upd f1 (9 : Int32).toNatClampNeg z165) j) (0) (3)) ∧ (∀ j, j % 10 = 9 → Bd ((upd f1 (9 : Int32).toNatClampNeg z165) j) (0) (40)) := ⟨upd_mn b3.1 (by decide), upd_mn b3.2.1 (by decide), upd_mn b3.2.2.1 (by decide), upd_mn b3.2.2.2.1 (by decide), upd_mn b3.2.2.2.2.1 (by decide), upd_mn b3.2.2.2.2.2.1 (by decide), upd_mn b3.2.2.2.2.2.2.1 (by decide), upd_m b3.2.2.2.2.2.2.2 (ib_wk b168 (by decide) (by decide))⟩
      have c170 : S169 7 = .inl (g.2 0, 50, .inl (upd f1 (9 : Int32).toNatClampNeg z165)) := up_at eS169 rfl
      refine lv_aload_n hx hb dX12_undo_39 rfl (lv_at hl 0 rfl) ?_
      have c172 : S169 0 = .inr (12, [.int 0, .ref (ad 1), .ref (ad 2), .ref (ad 3), .ref (ad 4), .ref (ad 5), .int v123, .int v125, .int v127, .int v129, .int v130, .long w131, .int v132, .int v134, .int v135, .int v136, .ref (ad 6), .ref (ad 7), .ref (ad 8), .ref (ad 9), .ref (ad 10), .ref (ad 11), .ref (ad 12), .ref (ad 13), .ref (ad 14), .ref (ad 15), .int v137, .int v139, .ref (ad 16), .int v141, .int v143, .int v145, .int v147, .int v148, .ref (ad 17), .ref (ad 18), .int v149, .ref (ad 19)]) := (up_ne eS169 (by decide) c152)
      refine xget E hQ 0 (by decide) c172 rfl 17 (by decide) q1485 rfl dX12_undo_40 ?_
      refine lv_bipush (v := 9) hx hb dX12_undo_43 (by decide) ?_
      refine xiald E hQ 7 (by decide) c170 (vp_in_lit 9 50 (by decide)) dX12_undo_45 ?_
      refine sb_at (P := fun z => W _ _ _ _ _ _ _ _ _ _ _ _ _ _ _ (F0 _ _ _ (.int z :: _))) (show (upd f1 (9 : Int32).toNatClampNeg z165) (9 : Int32).toNatClampNeg = z165 from (upd_s)) ?_
      have q173 : elm (S169 7) 1 = v4.toInt := (elm_of c170 1).trans (congrArg Int32.toInt (((upd_o (by decide)).trans (ee5))))
      have q174 : elm (S169 7) 0 = v7.toInt := (elm_of c170 0).trans (congrArg Int32.toInt (((upd_o (by decide)).trans (ee8))))
      have q175 : elm (S169 7) 3 = v10.toInt := (elm_of c170 3).trans (congrArg Int32.toInt (((upd_o (by decide)).trans (ee11))))
      have q176 : elm (S169 7) 6 = v13.toInt := (elm_of c170 6).trans (congrArg Int32.toInt (((upd_o (by decide)).trans (ee14))))
      have q177 : elm (S169 7) 8 = v16.toInt := (elm_of c170 8).trans (congrArg Int32.toInt (((upd_o (by decide)).trans (ee17))))
      have c178 : S169 6 = .inl (g.2 0, 5, .inl f19) := (up_ne eS169 (by decide) c153)
      have q179 : elm (S169 6) 0 = v22.toInt := (elm_of c178 0).trans (congrArg Int32.toInt (ee23))
      have q180 : elm (S169 7) 11 = v25.toInt := (elm_of c170 11).trans (congrArg Int32.toInt (((upd_o (by decide)).trans (ee26))))
      have q181 : elm (S169 7) 10 = v28.toInt := (elm_of c170 10).trans (congrArg Int32.toInt (((upd_o (by decide)).trans (ee29))))
      have q182 : elm (S169 7) 13 = v31.toInt := (elm_of c170 13).trans (congrArg Int32.toInt (((upd_o (by decide)).trans (ee32))))
      have q183 : elm (S169 7) 16 = v34.toInt := (elm_of c170 16).trans (congrArg Int32.toInt (((upd_o (by decide)).trans (ee35))))
      have q184 : elm (S169 7) 18 = v37.toInt := (elm_of c170 18).trans (congrArg Int32.toInt (((upd_o (by decide)).trans (ee38))))
      have q185 : elm (S169 6) 1 = v40.toInt := (elm_of c178 1).trans (congrArg Int32.toInt (ee41))
      have q186 : elm (S169 7) 21 = v43.toInt := (elm_of c170 21).trans (congrArg Int32.toInt (((upd_o (by decide)).trans (ee44))))
      have q187 : elm (S169 7) 20 = v46.toInt := (elm_of c170 20).trans (congrArg Int32.toInt (((upd_o (by decide)).trans (ee47))))
      have q188 : elm (S169 7) 23 = v49.toInt := (elm_of c170 23).trans (congrArg Int32.toInt (((upd_o (by decide)).trans (ee50))))
      have q189 : elm (S169 7) 26 = v52.toInt := (elm_of c170 26).trans (congrArg Int32.toInt (((upd_o (by decide)).trans (ee53))))
      have q190 : elm (S169 7) 28 = v55.toInt := (elm_of c170 28).trans (congrArg Int32.toInt (((upd_o (by decide)).trans (ee56))))
      have q191 : elm (S169 6) 2 = v58.toInt := (elm_of c178 2).trans (congrArg Int32.toInt (ee59))
      have q192 : elm (S169 7) 31 = v61.toInt := (elm_of c170 31).trans (congrArg Int32.toInt (((upd_o (by decide)).trans (ee62))))
      have q193 : elm (S169 7) 30 = v64.toInt := (elm_of c170 30).trans (congrArg Int32.toInt (((upd_o (by decide)).trans (ee65))))
      have q194 : elm (S169 7) 33 = v67.toInt := (elm_of c170 33).trans (congrArg Int32.toInt (((upd_o (by decide)).trans (ee68))))
      have q195 : elm (S169 7) 36 = v70.toInt := (elm_of c170 36).trans (congrArg Int32.toInt (((upd_o (by decide)).trans (ee71))))
      have q196 : elm (S169 7) 38 = v73.toInt := (elm_of c170 38).trans (congrArg Int32.toInt (((upd_o (by decide)).trans (ee74))))
      have q197 : elm (S169 6) 3 = v76.toInt := (elm_of c178 3).trans (congrArg Int32.toInt (ee77))
      have q198 : elm (S169 7) 9 = z165.toInt := (elm_of c170 9).trans (congrArg Int32.toInt ((upd_s)))
      have q199 : elm (S169 7) 19 = v82.toInt := (elm_of c170 19).trans (congrArg Int32.toInt (((upd_o (by decide)).trans (ee83))))
      have q200 : elm (S169 7) 29 = v85.toInt := (elm_of c170 29).trans (congrArg Int32.toInt (((upd_o (by decide)).trans (ee86))))
      have q201 : elm (S169 7) 39 = v88.toInt := (elm_of c170 39).trans (congrArg Int32.toInt (((upd_o (by decide)).trans (ee89))))
      exact xri E hr hlk hQ (⟨hI, (up_o (up_o o_refl eS151 (by decide)) eS169 (by decide)), (ib_wk b168 (by decide) (by decide)), (by omega), (by omega), (by omega), (by omega), (by omega), (by omega), (by omega), (by omega), (by omega), (by omega), (by omega), (by omega), (by omega), (by omega), (by omega), (by omega), (by omega), (by omega), (by omega), (by omega), (at_mono hAT0 (by show elm _ 9 ≤ elm _ 9; omega) ((up_eq (j := 12) eS169 (by decide)).trans (up_eq (j := 12) eS151 (by decide)))), (at_mono hAT1 (by show elm _ 19 ≤ elm _ 19; omega) ((up_eq (j := 12) eS169 (by decide)).trans (up_eq (j := 12) eS151 (by decide)))), (at_mono hAT2 (by show elm _ 29 ≤ elm _ 29; omega) ((up_eq (j := 12) eS169 (by decide)).trans (up_eq (j := 12) eS151 (by decide)))), (at_mono hAT3 (by show elm _ 39 ≤ elm _ 39; omega) ((up_eq (j := 12) eS169 (by decide)).trans (up_eq (j := 12) eS151 (by decide))))⟩) dX12_undo_46
    · have h202 := ib_eq k162
      have b203 : Bd v79 (0) (0) := ⟨(b81).1, ((rf_eq b81 (by decide : Bd 0 (0) (0)) h202).1).2⟩
      refine lv_bipush (v := (-5)) hx hb dX12_undo_25 (by decide) ?_
      have q204 : elm (S151 7) 1 = v4.toInt := (elm_of c161 1).trans (congrArg Int32.toInt (ee5))
      have q205 : elm (S151 7) 0 = v7.toInt := (elm_of c161 0).trans (congrArg Int32.toInt (ee8))
      have q206 : elm (S151 7) 3 = v10.toInt := (elm_of c161 3).trans (congrArg Int32.toInt (ee11))
      have q207 : elm (S151 7) 6 = v13.toInt := (elm_of c161 6).trans (congrArg Int32.toInt (ee14))
      have q208 : elm (S151 7) 8 = v16.toInt := (elm_of c161 8).trans (congrArg Int32.toInt (ee17))
      have q209 : elm (S151 7) 11 = v25.toInt := (elm_of c161 11).trans (congrArg Int32.toInt (ee26))
      have q210 : elm (S151 7) 10 = v28.toInt := (elm_of c161 10).trans (congrArg Int32.toInt (ee29))
      have q211 : elm (S151 7) 13 = v31.toInt := (elm_of c161 13).trans (congrArg Int32.toInt (ee32))
      have q212 : elm (S151 7) 16 = v34.toInt := (elm_of c161 16).trans (congrArg Int32.toInt (ee35))
      have q213 : elm (S151 7) 18 = v37.toInt := (elm_of c161 18).trans (congrArg Int32.toInt (ee38))
      have q214 : elm (S151 6) 1 = v40.toInt := (elm_of c153 1).trans (congrArg Int32.toInt (ee41))
      have q215 : elm (S151 7) 21 = v43.toInt := (elm_of c161 21).trans (congrArg Int32.toInt (ee44))
      have q216 : elm (S151 7) 20 = v46.toInt := (elm_of c161 20).trans (congrArg Int32.toInt (ee47))
      have q217 : elm (S151 7) 23 = v49.toInt := (elm_of c161 23).trans (congrArg Int32.toInt (ee50))
      have q218 : elm (S151 7) 26 = v52.toInt := (elm_of c161 26).trans (congrArg Int32.toInt (ee53))
      have q219 : elm (S151 7) 28 = v55.toInt := (elm_of c161 28).trans (congrArg Int32.toInt (ee56))
      have q220 : elm (S151 6) 2 = v58.toInt := (elm_of c153 2).trans (congrArg Int32.toInt (ee59))
      have q221 : elm (S151 7) 31 = v61.toInt := (elm_of c161 31).trans (congrArg Int32.toInt (ee62))
      have q222 : elm (S151 7) 30 = v64.toInt := (elm_of c161 30).trans (congrArg Int32.toInt (ee65))
      have q223 : elm (S151 7) 33 = v67.toInt := (elm_of c161 33).trans (congrArg Int32.toInt (ee68))
      have q224 : elm (S151 7) 36 = v70.toInt := (elm_of c161 36).trans (congrArg Int32.toInt (ee71))
      have q225 : elm (S151 7) 38 = v73.toInt := (elm_of c161 38).trans (congrArg Int32.toInt (ee74))
      have q226 : elm (S151 6) 3 = v76.toInt := (elm_of c153 3).trans (congrArg Int32.toInt (ee77))
      exact xri E hr hlk hQ (⟨hI, (up_o o_refl eS151 (by decide)), (ib_wk (by decide : Bd (-5) (-5) (-5)) (by decide) (by decide)), (by omega), (by omega), (by omega), (by omega), (by omega), (by omega), (by omega), (by omega), (by omega), (by omega), (by omega), (by omega), (by omega), (by omega), (by omega), (by omega), (by omega), (by omega), (by omega), (by omega), (at_tr hAT0 (up_eq (j := 7) eS151 (by decide)) (up_eq (j := 12) eS151 (by decide))), (at_tr hAT1 (up_eq (j := 7) eS151 (by decide)) (up_eq (j := 12) eS151 (by decide))), (at_tr hAT2 (up_eq (j := 7) eS151 (by decide)) (up_eq (j := 12) eS151 (by decide))), (at_tr hAT3 (up_eq (j := 7) eS151 (by decide)) (up_eq (j := 12) eS151 (by decide)))⟩) dX12_undo_27
  · have h227 := ib_eq k156
    have b228 : Bd r154 (0) (0) := ⟨(b154).1, ((rf_eq b154 (by decide : Bd 0 (0) (0)) h227).1).2⟩
    clear g154_0
    refine lv_bipush (v := (-2)) hx hb dX12_undo_12 (by decide) ?_
    have c229 : S151 7 = .inl (g.2 0, 50, .inl f1) := (up_ne eS151 (by decide) c2)
    have q230 : elm (S151 7) 1 = v4.toInt := (elm_of c229 1).trans (congrArg Int32.toInt (ee5))
    have q231 : elm (S151 7) 0 = v7.toInt := (elm_of c229 0).trans (congrArg Int32.toInt (ee8))
    have q232 : elm (S151 7) 3 = v10.toInt := (elm_of c229 3).trans (congrArg Int32.toInt (ee11))
    have q233 : elm (S151 7) 6 = v13.toInt := (elm_of c229 6).trans (congrArg Int32.toInt (ee14))
    have q234 : elm (S151 7) 8 = v16.toInt := (elm_of c229 8).trans (congrArg Int32.toInt (ee17))
    have q235 : elm (S151 7) 11 = v25.toInt := (elm_of c229 11).trans (congrArg Int32.toInt (ee26))
    have q236 : elm (S151 7) 10 = v28.toInt := (elm_of c229 10).trans (congrArg Int32.toInt (ee29))
    have q237 : elm (S151 7) 13 = v31.toInt := (elm_of c229 13).trans (congrArg Int32.toInt (ee32))
    have q238 : elm (S151 7) 16 = v34.toInt := (elm_of c229 16).trans (congrArg Int32.toInt (ee35))
    have q239 : elm (S151 7) 18 = v37.toInt := (elm_of c229 18).trans (congrArg Int32.toInt (ee38))
    have q240 : elm (S151 6) 1 = v40.toInt := (elm_of c153 1).trans (congrArg Int32.toInt (ee41))
    have q241 : elm (S151 7) 21 = v43.toInt := (elm_of c229 21).trans (congrArg Int32.toInt (ee44))
    have q242 : elm (S151 7) 20 = v46.toInt := (elm_of c229 20).trans (congrArg Int32.toInt (ee47))
    have q243 : elm (S151 7) 23 = v49.toInt := (elm_of c229 23).trans (congrArg Int32.toInt (ee50))
    have q244 : elm (S151 7) 26 = v52.toInt := (elm_of c229 26).trans (congrArg Int32.toInt (ee53))
    have q245 : elm (S151 7) 28 = v55.toInt := (elm_of c229 28).trans (congrArg Int32.toInt (ee56))
    have q246 : elm (S151 6) 2 = v58.toInt := (elm_of c153 2).trans (congrArg Int32.toInt (ee59))
    have q247 : elm (S151 7) 31 = v61.toInt := (elm_of c229 31).trans (congrArg Int32.toInt (ee62))
    have q248 : elm (S151 7) 30 = v64.toInt := (elm_of c229 30).trans (congrArg Int32.toInt (ee65))
    have q249 : elm (S151 7) 33 = v67.toInt := (elm_of c229 33).trans (congrArg Int32.toInt (ee68))
    have q250 : elm (S151 7) 36 = v70.toInt := (elm_of c229 36).trans (congrArg Int32.toInt (ee71))
    have q251 : elm (S151 7) 38 = v73.toInt := (elm_of c229 38).trans (congrArg Int32.toInt (ee74))
    have q252 : elm (S151 6) 3 = v76.toInt := (elm_of c153 3).trans (congrArg Int32.toInt (ee77))
    exact xri E hr hlk hQ (⟨hI, (up_o o_refl eS151 (by decide)), (ib_wk (by decide : Bd (-2) (-2) (-2)) (by decide) (by decide)), (by omega), (by omega), (by omega), (by omega), (by omega), (by omega), (by omega), (by omega), (by omega), (by omega), (by omega), (by omega), (by omega), (by omega), (by omega), (by omega), (by omega), (by omega), (by omega), (by omega), (at_tr hAT0 (up_eq (j := 7) eS151 (by decide)) (up_eq (j := 12) eS151 (by decide))), (at_tr hAT1 (up_eq (j := 7) eS151 (by decide)) (up_eq (j := 12) eS151 (by decide))), (at_tr hAT2 (up_eq (j := 7) eS151 (by decide)) (up_eq (j := 12) eS151 (by decide))), (at_tr hAT3 (up_eq (j := 7) eS151 (by decide)) (up_eq (j := 12) eS151 (by decide)))⟩) dX12_undo_14
set_option maxHeartbeats 4000000 in
set_option maxRecDepth 100000 in
theorem gX12_anew_0 (l : Launch) (g : GG) (ad : Nat → Nat) (hD : Dj ad 20) (S : SS) (hI : InvM g ad S) (hq1 : 0 ≤ 12 * elm (S 7) 1 + (-1) * elm (S 7) 0) (hq2 : 0 ≤ 12 * elm (S 7) 3 + (-1) * elm (S 7) 0) (hq3 : 0 ≤ 8 * elm (S 7) 0 + (-1) * elm (S 7) 6) (hq4 : 0 ≤ 3 * elm (S 7) 0 + (-1) * elm (S 7) 8) (hq5 : 0 ≤ 40000 * elm (S 7) 0 + (-1) * elm (S 6) 0) (hq6 : 0 ≤ 12 * elm (S 7) 11 + (-1) * elm (S 7) 10) (hq7 : 0 ≤ 12 * elm (S 7) 13 + (-1) * elm (S 7) 10) (hq8 : 0 ≤ 8 * elm (S 7) 10 + (-1) * elm (S 7) 16) (hq9 : 0 ≤ 3 * elm (S 7) 10 + (-1) * elm (S 7) 18) (hq10 : 0 ≤ 40000 * elm (S 7) 10 + (-1) * elm (S 6) 1) (hq11 : 0 ≤ 12 * elm (S 7) 21 + (-1) * elm (S 7) 20) (hq12 : 0 ≤ 12 * elm (S 7) 23 + (-1) * elm (S 7) 20) (hq13 : 0 ≤ 8 * elm (S 7) 20 + (-1) * elm (S 7) 26) (hq14 : 0 ≤ 3 * elm (S 7) 20 + (-1) * elm (S 7) 28) (hq15 : 0 ≤ 40000 * elm (S 7) 20 + (-1) * elm (S 6) 2) (hq16 : 0 ≤ 12 * elm (S 7) 31 + (-1) * elm (S 7) 30) (hq17 : 0 ≤ 12 * elm (S 7) 33 + (-1) * elm (S 7) 30) (hq18 : 0 ≤ 8 * elm (S 7) 30 + (-1) * elm (S 7) 36) (hq19 : 0 ≤ 3 * elm (S 7) 30 + (-1) * elm (S 7) 38) (hq20 : 0 ≤ 40000 * elm (S 7) 30 + (-1) * elm (S 6) 3) (hq21 : 0 ≤ (-1) * elm (S 7) 9 + 40) (hq22 : 0 ≤ (-1) * elm (S 7) 19 + 40) (hq23 : 0 ≤ (-1) * elm (S 7) 29 + 40) (hq24 : 0 ≤ (-1) * elm (S 7) 39 + 40) (hAT0 : ATp (S 7) (S 12) 0) (hAT1 : ATp (S 7) (S 12) 1) (hAT2 : ATp (S 7) (S 12) 2) (hAT3 : ATp (S 7) (S 12) 3) : Met l yX12_anew (wG (.code yX12_anew cX12_anew 2 (some .int))) (Rm 1) (XPre g ad 20 S [.ref (ad 0)]) (va_Qi (fun r S' => InvM g ad S' ∧ (∀ j, j ∉ ([0, 7] : List Nat) → S' j = S j) ∧ Bd r (-2) (40) ∧ (0 ≤ 12 * elm (S' 7) 1 + (-1) * elm (S' 7) 0) ∧ (0 ≤ 12 * elm (S' 7) 3 + (-1) * elm (S' 7) 0) ∧ (0 ≤ 8 * elm (S' 7) 0 + (-1) * elm (S' 7) 6) ∧ (0 ≤ 3 * elm (S' 7) 0 + (-1) * elm (S' 7) 8) ∧ (0 ≤ 40000 * elm (S' 7) 0 + (-1) * elm (S' 6) 0) ∧ (0 ≤ 12 * elm (S' 7) 11 + (-1) * elm (S' 7) 10) ∧ (0 ≤ 12 * elm (S' 7) 13 + (-1) * elm (S' 7) 10) ∧ (0 ≤ 8 * elm (S' 7) 10 + (-1) * elm (S' 7) 16) ∧ (0 ≤ 3 * elm (S' 7) 10 + (-1) * elm (S' 7) 18) ∧ (0 ≤ 40000 * elm (S' 7) 10 + (-1) * elm (S' 6) 1) ∧ (0 ≤ 12 * elm (S' 7) 21 + (-1) * elm (S' 7) 20) ∧ (0 ≤ 12 * elm (S' 7) 23 + (-1) * elm (S' 7) 20) ∧ (0 ≤ 8 * elm (S' 7) 20 + (-1) * elm (S' 7) 26) ∧ (0 ≤ 3 * elm (S' 7) 20 + (-1) * elm (S' 7) 28) ∧ (0 ≤ 40000 * elm (S' 7) 20 + (-1) * elm (S' 6) 2) ∧ (0 ≤ 12 * elm (S' 7) 31 + (-1) * elm (S' 7) 30) ∧ (0 ≤ 12 * elm (S' 7) 33 + (-1) * elm (S' 7) 30) ∧ (0 ≤ 8 * elm (S' 7) 30 + (-1) * elm (S' 7) 36) ∧ (0 ≤ 3 * elm (S' 7) 30 + (-1) * elm (S' 7) 38) ∧ (0 ≤ 40000 * elm (S' 7) 30 + (-1) * elm (S' 6) 3) ∧ (ATp (S' 7) (S' 12) 0) ∧ (ATp (S' 7) (S' 12) 1) ∧ (ATp (S' 7) (S' 12) 2) ∧ (ATp (S' 7) (S' 12) 3)) (QB g ad 20) (FA ad 20)) 0 0 (FA ad 20) := by
  refine xmet cX12_anew "EbbWreckModel" (by decide) rfl (Nat.le_of_ble_eq_true rfl) (fun p e s m below meth c E hr hlk hml hQ ls hl => ?_)
  have hx := E.1
  have hb := E.2.1
  have hs : Sp ad 20 (FA ad 20) := Sp.fa hD
  have hl : lv_has ls 2 [(0, .ref (ad 0))] := hl
  obtain ⟨f1, c2, b3⟩ := invM_7 hI
  obtain ⟨v4, ee5⟩ : ∃ z : Int32, f1 1 = z := ⟨_, rfl⟩
  have b6 : Bd v4 (0) (12) := (by rw [← ee5]; exact b3.2.1 1 (by decide))
  obtain ⟨v7, ee8⟩ : ∃ z : Int32, f1 0 = z := ⟨_, rfl⟩
  have b9 : Bd v7 (0) (12) := (by rw [← ee8]; exact b3.1 0 (by decide))
  obtain ⟨v10, ee11⟩ : ∃ z : Int32, f1 3 = z := ⟨_, rfl⟩
  have b12 : Bd v10 (0) (12) := (by rw [← ee11]; exact b3.2.2.2.1 3 (by decide))
  obtain ⟨v13, ee14⟩ : ∃ z : Int32, f1 6 = z := ⟨_, rfl⟩
  have b15 : Bd v13 (0) (8) := (by rw [← ee14]; exact b3.2.2.2.2.1 6 (by decide))
  obtain ⟨v16, ee17⟩ : ∃ z : Int32, f1 8 = z := ⟨_, rfl⟩
  have b18 : Bd v16 (0) (3) := (by rw [← ee17]; exact b3.2.2.2.2.2.2.1 8 (by decide))
  obtain ⟨f19, c20, b21⟩ := invM_6 hI
  obtain ⟨v22, ee23⟩ : ∃ z : Int32, f19 0 = z := ⟨_, rfl⟩
  have b24 : Bd v22 (0) (40000) := (by rw [← ee23]; exact b21 0)
  obtain ⟨v25, ee26⟩ : ∃ z : Int32, f1 11 = z := ⟨_, rfl⟩
  have b27 : Bd v25 (0) (12) := (by rw [← ee26]; exact b3.2.1 11 (by decide))
  obtain ⟨v28, ee29⟩ : ∃ z : Int32, f1 10 = z := ⟨_, rfl⟩
  have b30 : Bd v28 (0) (12) := (by rw [← ee29]; exact b3.1 10 (by decide))
  obtain ⟨v31, ee32⟩ : ∃ z : Int32, f1 13 = z := ⟨_, rfl⟩
  have b33 : Bd v31 (0) (12) := (by rw [← ee32]; exact b3.2.2.2.1 13 (by decide))
  obtain ⟨v34, ee35⟩ : ∃ z : Int32, f1 16 = z := ⟨_, rfl⟩
  have b36 : Bd v34 (0) (8) := (by rw [← ee35]; exact b3.2.2.2.2.1 16 (by decide))
  obtain ⟨v37, ee38⟩ : ∃ z : Int32, f1 18 = z := ⟨_, rfl⟩
  have b39 : Bd v37 (0) (3) := (by rw [← ee38]; exact b3.2.2.2.2.2.2.1 18 (by decide))
  obtain ⟨v40, ee41⟩ : ∃ z : Int32, f19 1 = z := ⟨_, rfl⟩
  have b42 : Bd v40 (0) (40000) := (by rw [← ee41]; exact b21 1)
  obtain ⟨v43, ee44⟩ : ∃ z : Int32, f1 21 = z := ⟨_, rfl⟩
  have b45 : Bd v43 (0) (12) := (by rw [← ee44]; exact b3.2.1 21 (by decide))
  obtain ⟨v46, ee47⟩ : ∃ z : Int32, f1 20 = z := ⟨_, rfl⟩
  have b48 : Bd v46 (0) (12) := (by rw [← ee47]; exact b3.1 20 (by decide))
  obtain ⟨v49, ee50⟩ : ∃ z : Int32, f1 23 = z := ⟨_, rfl⟩
  have b51 : Bd v49 (0) (12) := (by rw [← ee50]; exact b3.2.2.2.1 23 (by decide))
  obtain ⟨v52, ee53⟩ : ∃ z : Int32, f1 26 = z := ⟨_, rfl⟩
  have b54 : Bd v52 (0) (8) := (by rw [← ee53]; exact b3.2.2.2.2.1 26 (by decide))
  obtain ⟨v55, ee56⟩ : ∃ z : Int32, f1 28 = z := ⟨_, rfl⟩
  have b57 : Bd v55 (0) (3) := (by rw [← ee56]; exact b3.2.2.2.2.2.2.1 28 (by decide))
  obtain ⟨v58, ee59⟩ : ∃ z : Int32, f19 2 = z := ⟨_, rfl⟩
  have b60 : Bd v58 (0) (40000) := (by rw [← ee59]; exact b21 2)
  obtain ⟨v61, ee62⟩ : ∃ z : Int32, f1 31 = z := ⟨_, rfl⟩
  have b63 : Bd v61 (0) (12) := (by rw [← ee62]; exact b3.2.1 31 (by decide))
  obtain ⟨v64, ee65⟩ : ∃ z : Int32, f1 30 = z := ⟨_, rfl⟩
  have b66 : Bd v64 (0) (12) := (by rw [← ee65]; exact b3.1 30 (by decide))
  obtain ⟨v67, ee68⟩ : ∃ z : Int32, f1 33 = z := ⟨_, rfl⟩
  have b69 : Bd v67 (0) (12) := (by rw [← ee68]; exact b3.2.2.2.1 33 (by decide))
  obtain ⟨v70, ee71⟩ : ∃ z : Int32, f1 36 = z := ⟨_, rfl⟩
  have b72 : Bd v70 (0) (8) := (by rw [← ee71]; exact b3.2.2.2.2.1 36 (by decide))
  obtain ⟨v73, ee74⟩ : ∃ z : Int32, f1 38 = z := ⟨_, rfl⟩
  have b75 : Bd v73 (0) (3) := (by rw [← ee74]; exact b3.2.2.2.2.2.2.1 38 (by decide))
  obtain ⟨v76, ee77⟩ : ∃ z : Int32, f19 3 = z := ⟨_, rfl⟩
  have b78 : Bd v76 (0) (40000) := (by rw [← ee77]; exact b21 3)
  obtain ⟨v79, ee80⟩ : ∃ z : Int32, f1 9 = z := ⟨_, rfl⟩
  have b81 : Bd v79 (0) (40) := (by rw [← ee80]; exact b3.2.2.2.2.2.2.2 9 (by decide))
  obtain ⟨v82, ee83⟩ : ∃ z : Int32, f1 19 = z := ⟨_, rfl⟩
  have b84 : Bd v82 (0) (40) := (by rw [← ee83]; exact b3.2.2.2.2.2.2.2 19 (by decide))
  obtain ⟨v85, ee86⟩ : ∃ z : Int32, f1 29 = z := ⟨_, rfl⟩
  have b87 : Bd v85 (0) (40) := (by rw [← ee86]; exact b3.2.2.2.2.2.2.2 29 (by decide))
  obtain ⟨v88, ee89⟩ : ∃ z : Int32, f1 39 = z := ⟨_, rfl⟩
  have b90 : Bd v88 (0) (40) := (by rw [← ee89]; exact b3.2.2.2.2.2.2.2 39 (by decide))
  have q91 : elm (S 7) 1 = v4.toInt := (elm_of c2 1).trans (congrArg Int32.toInt (ee5))
  have q92 : elm (S 7) 0 = v7.toInt := (elm_of c2 0).trans (congrArg Int32.toInt (ee8))
  have q93 : elm (S 7) 3 = v10.toInt := (elm_of c2 3).trans (congrArg Int32.toInt (ee11))
  have q94 : elm (S 7) 6 = v13.toInt := (elm_of c2 6).trans (congrArg Int32.toInt (ee14))
  have q95 : elm (S 7) 8 = v16.toInt := (elm_of c2 8).trans (congrArg Int32.toInt (ee17))
  have q96 : elm (S 6) 0 = v22.toInt := (elm_of c20 0).trans (congrArg Int32.toInt (ee23))
  have q97 : elm (S 7) 11 = v25.toInt := (elm_of c2 11).trans (congrArg Int32.toInt (ee26))
  have q98 : elm (S 7) 10 = v28.toInt := (elm_of c2 10).trans (congrArg Int32.toInt (ee29))
  have q99 : elm (S 7) 13 = v31.toInt := (elm_of c2 13).trans (congrArg Int32.toInt (ee32))
  have q100 : elm (S 7) 16 = v34.toInt := (elm_of c2 16).trans (congrArg Int32.toInt (ee35))
  have q101 : elm (S 7) 18 = v37.toInt := (elm_of c2 18).trans (congrArg Int32.toInt (ee38))
  have q102 : elm (S 6) 1 = v40.toInt := (elm_of c20 1).trans (congrArg Int32.toInt (ee41))
  have q103 : elm (S 7) 21 = v43.toInt := (elm_of c2 21).trans (congrArg Int32.toInt (ee44))
  have q104 : elm (S 7) 20 = v46.toInt := (elm_of c2 20).trans (congrArg Int32.toInt (ee47))
  have q105 : elm (S 7) 23 = v49.toInt := (elm_of c2 23).trans (congrArg Int32.toInt (ee50))
  have q106 : elm (S 7) 26 = v52.toInt := (elm_of c2 26).trans (congrArg Int32.toInt (ee53))
  have q107 : elm (S 7) 28 = v55.toInt := (elm_of c2 28).trans (congrArg Int32.toInt (ee56))
  have q108 : elm (S 6) 2 = v58.toInt := (elm_of c20 2).trans (congrArg Int32.toInt (ee59))
  have q109 : elm (S 7) 31 = v61.toInt := (elm_of c2 31).trans (congrArg Int32.toInt (ee62))
  have q110 : elm (S 7) 30 = v64.toInt := (elm_of c2 30).trans (congrArg Int32.toInt (ee65))
  have q111 : elm (S 7) 33 = v67.toInt := (elm_of c2 33).trans (congrArg Int32.toInt (ee68))
  have q112 : elm (S 7) 36 = v70.toInt := (elm_of c2 36).trans (congrArg Int32.toInt (ee71))
  have q113 : elm (S 7) 38 = v73.toInt := (elm_of c2 38).trans (congrArg Int32.toInt (ee74))
  have q114 : elm (S 6) 3 = v76.toInt := (elm_of c20 3).trans (congrArg Int32.toInt (ee77))
  have q115 : elm (S 7) 9 = v79.toInt := (elm_of c2 9).trans (congrArg Int32.toInt (ee80))
  have q116 : elm (S 7) 19 = v82.toInt := (elm_of c2 19).trans (congrArg Int32.toInt (ee83))
  have q117 : elm (S 7) 29 = v85.toInt := (elm_of c2 29).trans (congrArg Int32.toInt (ee86))
  have q118 : elm (S 7) 39 = v88.toInt := (elm_of c2 39).trans (congrArg Int32.toInt (ee89))
  obtain ⟨f119, c120, b121⟩ := invM_12 hI
  refine lv_aload_n hx hb dX12_anew_0 rfl (lv_at hl 0 rfl) ?_
  refine lv_iconst (v := 0) hx hb dX12_anew_1 (by decide) ?_
  obtain ⟨v122, v123, v125, v127, v129, v130, w131, v132, v134, v135, v136, v137, v139, v141, v143, v145, v147, v148, v149, c150, b124, b126, b128, b133, b138, b140, b142, b144, b146⟩ := invM_0 hI
  have c150 : S 0 = .inr (12, [.int v122, .ref (ad 1), .ref (ad 2), .ref (ad 3), .ref (ad 4), .ref (ad 5), .int v123, .int v125, .int v127, .int v129, .int v130, .long w131, .int v132, .int v134, .int v135, .int v136, .ref (ad 6), .ref (ad 7), .ref (ad 8), .ref (ad 9), .ref (ad 10), .ref (ad 11), .ref (ad 12), .ref (ad 13), .ref (ad 14), .ref (ad 15), .int v137, .int v139, .ref (ad 16), .int v141, .int v143, .int v145, .int v147, .int v148, .ref (ad 17), .ref (ad 18), .int v149, .ref (ad 19)]) := c150
  refine xputi E hs hQ 0 (by decide) c150 rfl 0 (by decide) q1468 rfl rfl (Nat.le_of_ble_eq_true rfl) dX12_anew_2 (fun H locs S151 eS151 hQ => ?_)
  have hI := invM_up_0 hI eS151 ⟨0, v123, v125, v127, v129, v130, w131, v132, v134, v135, v136, v137, v139, v141, v143, v145, v147, v148, v149, rfl, b124, b126, b128, b133, b138, b140, b142, b144, b146⟩
  have c152 : S151 0 = .inr (12, [.int 0, .ref (ad 1), .ref (ad 2), .ref (ad 3), .ref (ad 4), .ref (ad 5), .int v123, .int v125, .int v127, .int v129, .int v130, .long w131, .int v132, .int v134, .int v135, .int v136, .ref (ad 6), .ref (ad 7), .ref (ad 8), .ref (ad 9), .ref (ad 10), .ref (ad 11), .ref (ad 12), .ref (ad 13), .ref (ad 14), .ref (ad 15), .int v137, .int v139, .ref (ad 16), .int v141, .int v143, .int v145, .int v147, .int v148, .ref (ad 17), .ref (ad 18), .int v149, .ref (ad 19)]) := up_at eS151 rfl
  refine lv_aload_n hx hb dX12_anew_5 rfl (lv_at hl 0 rfl) ?_
  have c153 : S151 6 = .inl (g.2 0, 5, .inl f19) := (up_ne eS151 (by decide) c20)
  refine xcVi E hs hQ hml hl.1 0 (gX12_isShore_0 l g ad hD S151 hI ) mX12_isShore q1782 (by decide) c152 rfl rfl ⟨(Nat.le_of_ble_eq_true rfl), (Nat.le_of_ble_eq_true rfl)⟩ ⟨(Nat.le_of_ble_eq_true rfl), (Nat.le_of_ble_eq_true rfl)⟩ (Nat.le_of_ble_eq_true rfl) rfl dX12_anew_6 (fun r154 S154 H locs hp154 hQ _ => ?_)
  obtain ⟨rfl, b154, g154_0⟩ := hp154
  have q155 : elm (S151 6) 0 = v22.toInt := (elm_of c153 0).trans (congrArg Int32.toInt (ee23))
  refine lv_if_ne (tgt := 15) hx hb dX12_anew_9 (by decide) (fun k156 => ?_) (fun k156 => ?_)
  · have h157 := ib_ne k156
    have b158 : Bd r154 (1) (1) := rf_nlo b154 (by decide : Bd 0 (0) (0)) h157
    have g159 := g154_0.resolve_left (by omega)
    clear g154_0
    have b160 : Bd v22 (1) (40000) := ⟨by omega, (b24).2⟩
    refine lv_aload_n hx hb dX12_anew_15 rfl (lv_at hl 0 rfl) ?_
    refine xget E hQ 0 (by decide) c152 rfl 17 (by decide) q1485 rfl dX12_anew_16 ?_
    refine lv_bipush (v := 9) hx hb dX12_anew_19 (by decide) ?_
    have c161 : S151 7 = .inl (g.2 0, 50, .inl f1) := (up_ne eS151 (by decide) c2)
    refine xiald E hQ 7 (by decide) c161 (vp_in_lit 9 50 (by decide)) dX12_anew_21 ?_
    refine sb_at (P := fun z => W _ _ _ _ _ _ _ _ _ _ _ _ _ _ _ (F0 _ _ _ (.int z :: _))) (show f1 (9 : Int32).toNatClampNeg = v79 from ee80) ?_
    refine lv_istore_n (lv' := [(1, .int v79), (0, .ref (ad 0))]) hx hb dX12_anew_22 rfl hl (by decide) rfl (fun ls hl => ?_)
    refine lv_aload_n hx hb dX12_anew_23 rfl (lv_at hl 1 rfl) ?_
    refine xget E hQ 0 (by decide) c152 rfl 17 (by decide) q1485 rfl dX12_anew_24 ?_
    refine lv_bipush (v := 9) hx hb dX12_anew_27 (by decide) ?_
    refine lv_iconst (v := 0) hx hb dX12_anew_29 (by decide) ?_
    refine xiast E hs hQ 7 (by decide) c161 (vp_in_lit 9 50 (by decide)) dX12_anew_30 (fun H locs S162 eS162 hQ => ?_)
    have hI := invM_up_7 hI eS162 ⟨_, rfl, ⟨upd_mn b3.1 (by decide), upd_mn b3.2.1 (by decide), upd_mn b3.2.2.1 (by decide), upd_mn b3.2.2.2.1 (by decide), upd_mn b3.2.2.2.2.1 (by decide), upd_mn b3.2.2.2.2.2.1 (by decide), upd_mn b3.2.2.2.2.2.2.1 (by decide), upd_m b3.2.2.2.2.2.2.2 (ib_wk (by decide : Bd 0 (0) (0)) (by decide) (by decide))⟩⟩
    have b164 : (∀ j, j % 10 = 0 → Bd ((upd f1 (9 : Int32).toNatClampNeg 0) j) (0) (12)) ∧ (∀ j, j % 10 = 1 → Bd ((upd f1 (9 : Int32).toNatClampNeg 0) j) (0) (12)) ∧ (∀ j, j % 10 = 2 → Bd ((upd f1 (9 : Int32).toNatClampNeg 0) j) (0) (6)) ∧ (∀ j, j % 10 = 3 → Bd ((upd f1 (9 : Int32).toNatClampNeg 0) j) (0) (12)) ∧ (∀ j, j % 10 = 6 → Bd ((upd f1 (9 : Int32).toNatClampNeg 0) j) (0) (8)) ∧ (∀ j, j % 10 = 7 → Bd ((upd f1 (9 : Int32).toNatClampNeg 0) j) (0) (6)) ∧ (∀ j, j % 10 = 8 → Bd ((upd f1 (9 : Int32).toNatClampNeg 0) j) (0) (3)) ∧ (∀ j, j % 10 = 9 → Bd ((upd f1 (9 : Int32).toNatClampNeg 0) j) (0) (40)) := ⟨upd_mn b3.1 (by decide), upd_mn b3.2.1 (by decide), upd_mn b3.2.2.1 (by decide), upd_mn b3.2.2.2.1 (by decide), upd_mn b3.2.2.2.2.1 (by decide), upd_mn b3.2.2.2.2.2.1 (by decide), upd_mn b3.2.2.2.2.2.2.1 (by decide), upd_m b3.2.2.2.2.2.2.2 (ib_wk (by decide : Bd 0 (0) (0)) (by decide) (by decide))⟩
    have c163 : S162 7 = .inl (g.2 0, 50, .inl (upd f1 (9 : Int32).toNatClampNeg 0)) := up_at eS162 rfl
    refine lv_iload_n hx hb dX12_anew_31 rfl (lv_at hl 0 rfl) ?_
    have q165 : elm (S162 7) 1 = v4.toInt := (elm_of c163 1).trans (congrArg Int32.toInt (((upd_o (by decide)).trans (ee5))))
    have q166 : elm (S162 7) 0 = v7.toInt := (elm_of c163 0).trans (congrArg Int32.toInt (((upd_o (by decide)).trans (ee8))))
    have q167 : elm (S162 7) 3 = v10.toInt := (elm_of c163 3).trans (congrArg Int32.toInt (((upd_o (by decide)).trans (ee11))))
    have q168 : elm (S162 7) 6 = v13.toInt := (elm_of c163 6).trans (congrArg Int32.toInt (((upd_o (by decide)).trans (ee14))))
    have q169 : elm (S162 7) 8 = v16.toInt := (elm_of c163 8).trans (congrArg Int32.toInt (((upd_o (by decide)).trans (ee17))))
    have c170 : S162 6 = .inl (g.2 0, 5, .inl f19) := (up_ne eS162 (by decide) c153)
    have q171 : elm (S162 6) 0 = v22.toInt := (elm_of c170 0).trans (congrArg Int32.toInt (ee23))
    have q172 : elm (S162 7) 11 = v25.toInt := (elm_of c163 11).trans (congrArg Int32.toInt (((upd_o (by decide)).trans (ee26))))
    have q173 : elm (S162 7) 10 = v28.toInt := (elm_of c163 10).trans (congrArg Int32.toInt (((upd_o (by decide)).trans (ee29))))
    have q174 : elm (S162 7) 13 = v31.toInt := (elm_of c163 13).trans (congrArg Int32.toInt (((upd_o (by decide)).trans (ee32))))
    have q175 : elm (S162 7) 16 = v34.toInt := (elm_of c163 16).trans (congrArg Int32.toInt (((upd_o (by decide)).trans (ee35))))
    have q176 : elm (S162 7) 18 = v37.toInt := (elm_of c163 18).trans (congrArg Int32.toInt (((upd_o (by decide)).trans (ee38))))
    have q177 : elm (S162 6) 1 = v40.toInt := (elm_of c170 1).trans (congrArg Int32.toInt (ee41))
    have q178 : elm (S162 7) 21 = v43.toInt := (elm_of c163 21).trans (congrArg Int32.toInt (((upd_o (by decide)).trans (ee44))))
    have q179 : elm (S162 7) 20 = v46.toInt := (elm_of c163 20).trans (congrArg Int32.toInt (((upd_o (by decide)).trans (ee47))))
    have q180 : elm (S162 7) 23 = v49.toInt := (elm_of c163 23).trans (congrArg Int32.toInt (((upd_o (by decide)).trans (ee50))))
    have q181 : elm (S162 7) 26 = v52.toInt := (elm_of c163 26).trans (congrArg Int32.toInt (((upd_o (by decide)).trans (ee53))))
    have q182 : elm (S162 7) 28 = v55.toInt := (elm_of c163 28).trans (congrArg Int32.toInt (((upd_o (by decide)).trans (ee56))))
    have q183 : elm (S162 6) 2 = v58.toInt := (elm_of c170 2).trans (congrArg Int32.toInt (ee59))
    have q184 : elm (S162 7) 31 = v61.toInt := (elm_of c163 31).trans (congrArg Int32.toInt (((upd_o (by decide)).trans (ee62))))
    have q185 : elm (S162 7) 30 = v64.toInt := (elm_of c163 30).trans (congrArg Int32.toInt (((upd_o (by decide)).trans (ee65))))
    have q186 : elm (S162 7) 33 = v67.toInt := (elm_of c163 33).trans (congrArg Int32.toInt (((upd_o (by decide)).trans (ee68))))
    have q187 : elm (S162 7) 36 = v70.toInt := (elm_of c163 36).trans (congrArg Int32.toInt (((upd_o (by decide)).trans (ee71))))
    have q188 : elm (S162 7) 38 = v73.toInt := (elm_of c163 38).trans (congrArg Int32.toInt (((upd_o (by decide)).trans (ee74))))
    have q189 : elm (S162 6) 3 = v76.toInt := (elm_of c170 3).trans (congrArg Int32.toInt (ee77))
    have q190 : elm (S162 7) 9 = 0 := (elm_of c163 9).trans ((congrArg Int32.toInt ((upd_s))).trans (by decide))
    have q191 : elm (S162 7) 19 = v82.toInt := (elm_of c163 19).trans (congrArg Int32.toInt (((upd_o (by decide)).trans (ee83))))
    have q192 : elm (S162 7) 29 = v85.toInt := (elm_of c163 29).trans (congrArg Int32.toInt (((upd_o (by decide)).trans (ee86))))
    have q193 : elm (S162 7) 39 = v88.toInt := (elm_of c163 39).trans (congrArg Int32.toInt (((upd_o (by decide)).trans (ee89))))
    exact xri E hr hlk hQ (⟨hI, (up_o (up_o o_refl eS151 (by decide)) eS162 (by decide)), (ib_wk b81 (by decide) (by decide)), (by omega), (by omega), (by omega), (by omega), (by omega), (by omega), (by omega), (by omega), (by omega), (by omega), (by omega), (by omega), (by omega), (by omega), (by omega), (by omega), (by omega), (by omega), (by omega), (by omega), (at_mono hAT0 (by show elm _ 9 ≤ elm _ 9; omega) ((up_eq (j := 12) eS162 (by decide)).trans (up_eq (j := 12) eS151 (by decide)))), (at_mono hAT1 (by show elm _ 19 ≤ elm _ 19; omega) ((up_eq (j := 12) eS162 (by decide)).trans (up_eq (j := 12) eS151 (by decide)))), (at_mono hAT2 (by show elm _ 29 ≤ elm _ 29; omega) ((up_eq (j := 12) eS162 (by decide)).trans (up_eq (j := 12) eS151 (by decide)))), (at_mono hAT3 (by show elm _ 39 ≤ elm _ 39; omega) ((up_eq (j := 12) eS162 (by decide)).trans (up_eq (j := 12) eS151 (by decide))))⟩) dX12_anew_32
  · have h194 := ib_eq k156
    have b195 : Bd r154 (0) (0) := ⟨(b154).1, ((rf_eq b154 (by decide : Bd 0 (0) (0)) h194).1).2⟩
    clear g154_0
    refine lv_bipush (v := (-2)) hx hb dX12_anew_12 (by decide) ?_
    have c196 : S151 7 = .inl (g.2 0, 50, .inl f1) := (up_ne eS151 (by decide) c2)
    have q197 : elm (S151 7) 1 = v4.toInt := (elm_of c196 1).trans (congrArg Int32.toInt (ee5))
    have q198 : elm (S151 7) 0 = v7.toInt := (elm_of c196 0).trans (congrArg Int32.toInt (ee8))
    have q199 : elm (S151 7) 3 = v10.toInt := (elm_of c196 3).trans (congrArg Int32.toInt (ee11))
    have q200 : elm (S151 7) 6 = v13.toInt := (elm_of c196 6).trans (congrArg Int32.toInt (ee14))
    have q201 : elm (S151 7) 8 = v16.toInt := (elm_of c196 8).trans (congrArg Int32.toInt (ee17))
    have q202 : elm (S151 7) 11 = v25.toInt := (elm_of c196 11).trans (congrArg Int32.toInt (ee26))
    have q203 : elm (S151 7) 10 = v28.toInt := (elm_of c196 10).trans (congrArg Int32.toInt (ee29))
    have q204 : elm (S151 7) 13 = v31.toInt := (elm_of c196 13).trans (congrArg Int32.toInt (ee32))
    have q205 : elm (S151 7) 16 = v34.toInt := (elm_of c196 16).trans (congrArg Int32.toInt (ee35))
    have q206 : elm (S151 7) 18 = v37.toInt := (elm_of c196 18).trans (congrArg Int32.toInt (ee38))
    have q207 : elm (S151 6) 1 = v40.toInt := (elm_of c153 1).trans (congrArg Int32.toInt (ee41))
    have q208 : elm (S151 7) 21 = v43.toInt := (elm_of c196 21).trans (congrArg Int32.toInt (ee44))
    have q209 : elm (S151 7) 20 = v46.toInt := (elm_of c196 20).trans (congrArg Int32.toInt (ee47))
    have q210 : elm (S151 7) 23 = v49.toInt := (elm_of c196 23).trans (congrArg Int32.toInt (ee50))
    have q211 : elm (S151 7) 26 = v52.toInt := (elm_of c196 26).trans (congrArg Int32.toInt (ee53))
    have q212 : elm (S151 7) 28 = v55.toInt := (elm_of c196 28).trans (congrArg Int32.toInt (ee56))
    have q213 : elm (S151 6) 2 = v58.toInt := (elm_of c153 2).trans (congrArg Int32.toInt (ee59))
    have q214 : elm (S151 7) 31 = v61.toInt := (elm_of c196 31).trans (congrArg Int32.toInt (ee62))
    have q215 : elm (S151 7) 30 = v64.toInt := (elm_of c196 30).trans (congrArg Int32.toInt (ee65))
    have q216 : elm (S151 7) 33 = v67.toInt := (elm_of c196 33).trans (congrArg Int32.toInt (ee68))
    have q217 : elm (S151 7) 36 = v70.toInt := (elm_of c196 36).trans (congrArg Int32.toInt (ee71))
    have q218 : elm (S151 7) 38 = v73.toInt := (elm_of c196 38).trans (congrArg Int32.toInt (ee74))
    have q219 : elm (S151 6) 3 = v76.toInt := (elm_of c153 3).trans (congrArg Int32.toInt (ee77))
    exact xri E hr hlk hQ (⟨hI, (up_o o_refl eS151 (by decide)), (ib_wk (by decide : Bd (-2) (-2) (-2)) (by decide) (by decide)), (by omega), (by omega), (by omega), (by omega), (by omega), (by omega), (by omega), (by omega), (by omega), (by omega), (by omega), (by omega), (by omega), (by omega), (by omega), (by omega), (by omega), (by omega), (by omega), (by omega), (at_tr hAT0 (up_eq (j := 7) eS151 (by decide)) (up_eq (j := 12) eS151 (by decide))), (at_tr hAT1 (up_eq (j := 7) eS151 (by decide)) (up_eq (j := 12) eS151 (by decide))), (at_tr hAT2 (up_eq (j := 7) eS151 (by decide)) (up_eq (j := 12) eS151 (by decide))), (at_tr hAT3 (up_eq (j := 7) eS151 (by decide)) (up_eq (j := 12) eS151 (by decide)))⟩) dX12_anew_14
set_option maxHeartbeats 4000000 in
set_option maxRecDepth 100000 in
theorem gX12_image_0 (l : Launch) (g : GG) (ad : Nat → Nat) (hD : Dj ad 20) (S : SS) (hI : InvM g ad S) (a1 : Int32) (hq1 : 0 ≤ 12 * elm (S 7) 1 + (-1) * elm (S 7) 0) (hq2 : 0 ≤ 12 * elm (S 7) 3 + (-1) * elm (S 7) 0) (hq3 : 0 ≤ 8 * elm (S 7) 0 + (-1) * elm (S 7) 6) (hq4 : 0 ≤ 3 * elm (S 7) 0 + (-1) * elm (S 7) 8) (hq5 : 0 ≤ 40000 * elm (S 7) 0 + (-1) * elm (S 6) 0) (hq6 : 0 ≤ 12 * elm (S 7) 11 + (-1) * elm (S 7) 10) (hq7 : 0 ≤ 12 * elm (S 7) 13 + (-1) * elm (S 7) 10) (hq8 : 0 ≤ 8 * elm (S 7) 10 + (-1) * elm (S 7) 16) (hq9 : 0 ≤ 3 * elm (S 7) 10 + (-1) * elm (S 7) 18) (hq10 : 0 ≤ 40000 * elm (S 7) 10 + (-1) * elm (S 6) 1) (hq11 : 0 ≤ 12 * elm (S 7) 21 + (-1) * elm (S 7) 20) (hq12 : 0 ≤ 12 * elm (S 7) 23 + (-1) * elm (S 7) 20) (hq13 : 0 ≤ 8 * elm (S 7) 20 + (-1) * elm (S 7) 26) (hq14 : 0 ≤ 3 * elm (S 7) 20 + (-1) * elm (S 7) 28) (hq15 : 0 ≤ 40000 * elm (S 7) 20 + (-1) * elm (S 6) 2) (hq16 : 0 ≤ 12 * elm (S 7) 31 + (-1) * elm (S 7) 30) (hq17 : 0 ≤ 12 * elm (S 7) 33 + (-1) * elm (S 7) 30) (hq18 : 0 ≤ 8 * elm (S 7) 30 + (-1) * elm (S 7) 36) (hq19 : 0 ≤ 3 * elm (S 7) 30 + (-1) * elm (S 7) 38) (hq20 : 0 ≤ 40000 * elm (S 7) 30 + (-1) * elm (S 6) 3) (hAT0 : ATp (S 7) (S 12) 0) (hAT1 : ATp (S 7) (S 12) 1) (hAT2 : ATp (S 7) (S 12) 2) (hAT3 : ATp (S 7) (S 12) 3) : Met l yX12_image (wG (.code yX12_image cX12_image 2 (some .int))) (Rm 2) (XPre g ad 20 S [.ref (ad 0), .int a1]) (va_Qi (fun r S' => InvM g ad S' ∧ (∀ j, j ∉ ([0, 6, 7, 8, 9, 10, 11, 12, 13] : List Nat) → S' j = S j) ∧ Bd r (-2) (0) ∧ (0 ≤ 12 * elm (S' 7) 1 + (-1) * elm (S' 7) 0) ∧ (0 ≤ 12 * elm (S' 7) 3 + (-1) * elm (S' 7) 0) ∧ (0 ≤ 8 * elm (S' 7) 0 + (-1) * elm (S' 7) 6) ∧ (0 ≤ 3 * elm (S' 7) 0 + (-1) * elm (S' 7) 8) ∧ (0 ≤ 40000 * elm (S' 7) 0 + (-1) * elm (S' 6) 0) ∧ (0 ≤ 12 * elm (S' 7) 11 + (-1) * elm (S' 7) 10) ∧ (0 ≤ 12 * elm (S' 7) 13 + (-1) * elm (S' 7) 10) ∧ (0 ≤ 8 * elm (S' 7) 10 + (-1) * elm (S' 7) 16) ∧ (0 ≤ 3 * elm (S' 7) 10 + (-1) * elm (S' 7) 18) ∧ (0 ≤ 40000 * elm (S' 7) 10 + (-1) * elm (S' 6) 1) ∧ (0 ≤ 12 * elm (S' 7) 21 + (-1) * elm (S' 7) 20) ∧ (0 ≤ 12 * elm (S' 7) 23 + (-1) * elm (S' 7) 20) ∧ (0 ≤ 8 * elm (S' 7) 20 + (-1) * elm (S' 7) 26) ∧ (0 ≤ 3 * elm (S' 7) 20 + (-1) * elm (S' 7) 28) ∧ (0 ≤ 40000 * elm (S' 7) 20 + (-1) * elm (S' 6) 2) ∧ (0 ≤ 12 * elm (S' 7) 31 + (-1) * elm (S' 7) 30) ∧ (0 ≤ 12 * elm (S' 7) 33 + (-1) * elm (S' 7) 30) ∧ (0 ≤ 8 * elm (S' 7) 30 + (-1) * elm (S' 7) 36) ∧ (0 ≤ 3 * elm (S' 7) 30 + (-1) * elm (S' 7) 38) ∧ (0 ≤ 40000 * elm (S' 7) 30 + (-1) * elm (S' 6) 3) ∧ (ATp (S' 7) (S' 12) 0) ∧ (ATp (S' 7) (S' 12) 1) ∧ (ATp (S' 7) (S' 12) 2) ∧ (ATp (S' 7) (S' 12) 3) ∧ (r = ansImage a1) ∧ (PUp (S' 13) (S 13) a1.toInt 1 3)) (QB g ad 20) (FA ad 20)) 0 0 (FA ad 20) := by
  refine xmet cX12_image "EbbWreckModel" (by decide) rfl (Nat.le_of_ble_eq_true rfl) (fun p e s m below meth c E hr hlk hml hQ ls hl => ?_)
  have hx := E.1
  have hb := E.2.1
  have hs : Sp ad 20 (FA ad 20) := Sp.fa hD
  have hl : lv_has ls 2 [(0, .ref (ad 0)), (1, .int a1)] := hl
  obtain ⟨f1, c2, b3⟩ := invM_7 hI
  obtain ⟨v4, ee5⟩ : ∃ z : Int32, f1 1 = z := ⟨_, rfl⟩
  have b6 : Bd v4 (0) (12) := (by rw [← ee5]; exact b3.2.1 1 (by decide))
  obtain ⟨v7, ee8⟩ : ∃ z : Int32, f1 0 = z := ⟨_, rfl⟩
  have b9 : Bd v7 (0) (12) := (by rw [← ee8]; exact b3.1 0 (by decide))
  obtain ⟨v10, ee11⟩ : ∃ z : Int32, f1 3 = z := ⟨_, rfl⟩
  have b12 : Bd v10 (0) (12) := (by rw [← ee11]; exact b3.2.2.2.1 3 (by decide))
  obtain ⟨v13, ee14⟩ : ∃ z : Int32, f1 6 = z := ⟨_, rfl⟩
  have b15 : Bd v13 (0) (8) := (by rw [← ee14]; exact b3.2.2.2.2.1 6 (by decide))
  obtain ⟨v16, ee17⟩ : ∃ z : Int32, f1 8 = z := ⟨_, rfl⟩
  have b18 : Bd v16 (0) (3) := (by rw [← ee17]; exact b3.2.2.2.2.2.2.1 8 (by decide))
  obtain ⟨f19, c20, b21⟩ := invM_6 hI
  obtain ⟨v22, ee23⟩ : ∃ z : Int32, f19 0 = z := ⟨_, rfl⟩
  have b24 : Bd v22 (0) (40000) := (by rw [← ee23]; exact b21 0)
  obtain ⟨v25, ee26⟩ : ∃ z : Int32, f1 11 = z := ⟨_, rfl⟩
  have b27 : Bd v25 (0) (12) := (by rw [← ee26]; exact b3.2.1 11 (by decide))
  obtain ⟨v28, ee29⟩ : ∃ z : Int32, f1 10 = z := ⟨_, rfl⟩
  have b30 : Bd v28 (0) (12) := (by rw [← ee29]; exact b3.1 10 (by decide))
  obtain ⟨v31, ee32⟩ : ∃ z : Int32, f1 13 = z := ⟨_, rfl⟩
  have b33 : Bd v31 (0) (12) := (by rw [← ee32]; exact b3.2.2.2.1 13 (by decide))
  obtain ⟨v34, ee35⟩ : ∃ z : Int32, f1 16 = z := ⟨_, rfl⟩
  have b36 : Bd v34 (0) (8) := (by rw [← ee35]; exact b3.2.2.2.2.1 16 (by decide))
  obtain ⟨v37, ee38⟩ : ∃ z : Int32, f1 18 = z := ⟨_, rfl⟩
  have b39 : Bd v37 (0) (3) := (by rw [← ee38]; exact b3.2.2.2.2.2.2.1 18 (by decide))
  obtain ⟨v40, ee41⟩ : ∃ z : Int32, f19 1 = z := ⟨_, rfl⟩
  have b42 : Bd v40 (0) (40000) := (by rw [← ee41]; exact b21 1)
  obtain ⟨v43, ee44⟩ : ∃ z : Int32, f1 21 = z := ⟨_, rfl⟩
  have b45 : Bd v43 (0) (12) := (by rw [← ee44]; exact b3.2.1 21 (by decide))
  obtain ⟨v46, ee47⟩ : ∃ z : Int32, f1 20 = z := ⟨_, rfl⟩
  have b48 : Bd v46 (0) (12) := (by rw [← ee47]; exact b3.1 20 (by decide))
  obtain ⟨v49, ee50⟩ : ∃ z : Int32, f1 23 = z := ⟨_, rfl⟩
  have b51 : Bd v49 (0) (12) := (by rw [← ee50]; exact b3.2.2.2.1 23 (by decide))
  obtain ⟨v52, ee53⟩ : ∃ z : Int32, f1 26 = z := ⟨_, rfl⟩
  have b54 : Bd v52 (0) (8) := (by rw [← ee53]; exact b3.2.2.2.2.1 26 (by decide))
  obtain ⟨v55, ee56⟩ : ∃ z : Int32, f1 28 = z := ⟨_, rfl⟩
  have b57 : Bd v55 (0) (3) := (by rw [← ee56]; exact b3.2.2.2.2.2.2.1 28 (by decide))
  obtain ⟨v58, ee59⟩ : ∃ z : Int32, f19 2 = z := ⟨_, rfl⟩
  have b60 : Bd v58 (0) (40000) := (by rw [← ee59]; exact b21 2)
  obtain ⟨v61, ee62⟩ : ∃ z : Int32, f1 31 = z := ⟨_, rfl⟩
  have b63 : Bd v61 (0) (12) := (by rw [← ee62]; exact b3.2.1 31 (by decide))
  obtain ⟨v64, ee65⟩ : ∃ z : Int32, f1 30 = z := ⟨_, rfl⟩
  have b66 : Bd v64 (0) (12) := (by rw [← ee65]; exact b3.1 30 (by decide))
  obtain ⟨v67, ee68⟩ : ∃ z : Int32, f1 33 = z := ⟨_, rfl⟩
  have b69 : Bd v67 (0) (12) := (by rw [← ee68]; exact b3.2.2.2.1 33 (by decide))
  obtain ⟨v70, ee71⟩ : ∃ z : Int32, f1 36 = z := ⟨_, rfl⟩
  have b72 : Bd v70 (0) (8) := (by rw [← ee71]; exact b3.2.2.2.2.1 36 (by decide))
  obtain ⟨v73, ee74⟩ : ∃ z : Int32, f1 38 = z := ⟨_, rfl⟩
  have b75 : Bd v73 (0) (3) := (by rw [← ee74]; exact b3.2.2.2.2.2.2.1 38 (by decide))
  obtain ⟨v76, ee77⟩ : ∃ z : Int32, f19 3 = z := ⟨_, rfl⟩
  have b78 : Bd v76 (0) (40000) := (by rw [← ee77]; exact b21 3)
  have q79 : elm (S 7) 1 = v4.toInt := (elm_of c2 1).trans (congrArg Int32.toInt (ee5))
  have q80 : elm (S 7) 0 = v7.toInt := (elm_of c2 0).trans (congrArg Int32.toInt (ee8))
  have q81 : elm (S 7) 3 = v10.toInt := (elm_of c2 3).trans (congrArg Int32.toInt (ee11))
  have q82 : elm (S 7) 6 = v13.toInt := (elm_of c2 6).trans (congrArg Int32.toInt (ee14))
  have q83 : elm (S 7) 8 = v16.toInt := (elm_of c2 8).trans (congrArg Int32.toInt (ee17))
  have q84 : elm (S 6) 0 = v22.toInt := (elm_of c20 0).trans (congrArg Int32.toInt (ee23))
  have q85 : elm (S 7) 11 = v25.toInt := (elm_of c2 11).trans (congrArg Int32.toInt (ee26))
  have q86 : elm (S 7) 10 = v28.toInt := (elm_of c2 10).trans (congrArg Int32.toInt (ee29))
  have q87 : elm (S 7) 13 = v31.toInt := (elm_of c2 13).trans (congrArg Int32.toInt (ee32))
  have q88 : elm (S 7) 16 = v34.toInt := (elm_of c2 16).trans (congrArg Int32.toInt (ee35))
  have q89 : elm (S 7) 18 = v37.toInt := (elm_of c2 18).trans (congrArg Int32.toInt (ee38))
  have q90 : elm (S 6) 1 = v40.toInt := (elm_of c20 1).trans (congrArg Int32.toInt (ee41))
  have q91 : elm (S 7) 21 = v43.toInt := (elm_of c2 21).trans (congrArg Int32.toInt (ee44))
  have q92 : elm (S 7) 20 = v46.toInt := (elm_of c2 20).trans (congrArg Int32.toInt (ee47))
  have q93 : elm (S 7) 23 = v49.toInt := (elm_of c2 23).trans (congrArg Int32.toInt (ee50))
  have q94 : elm (S 7) 26 = v52.toInt := (elm_of c2 26).trans (congrArg Int32.toInt (ee53))
  have q95 : elm (S 7) 28 = v55.toInt := (elm_of c2 28).trans (congrArg Int32.toInt (ee56))
  have q96 : elm (S 6) 2 = v58.toInt := (elm_of c20 2).trans (congrArg Int32.toInt (ee59))
  have q97 : elm (S 7) 31 = v61.toInt := (elm_of c2 31).trans (congrArg Int32.toInt (ee62))
  have q98 : elm (S 7) 30 = v64.toInt := (elm_of c2 30).trans (congrArg Int32.toInt (ee65))
  have q99 : elm (S 7) 33 = v67.toInt := (elm_of c2 33).trans (congrArg Int32.toInt (ee68))
  have q100 : elm (S 7) 36 = v70.toInt := (elm_of c2 36).trans (congrArg Int32.toInt (ee71))
  have q101 : elm (S 7) 38 = v73.toInt := (elm_of c2 38).trans (congrArg Int32.toInt (ee74))
  have q102 : elm (S 6) 3 = v76.toInt := (elm_of c20 3).trans (congrArg Int32.toInt (ee77))
  obtain ⟨f103, c104, b105⟩ := invM_12 hI
  obtain ⟨v106, ee107⟩ : ∃ z : Int32, f1 9 = z := ⟨_, rfl⟩
  have b108 : Bd v106 (0) (40) := (by rw [← ee107]; exact b3.2.2.2.2.2.2.2 9 (by decide))
  obtain ⟨v109, ee110⟩ : ∃ z : Int32, f1 19 = z := ⟨_, rfl⟩
  have b111 : Bd v109 (0) (40) := (by rw [← ee110]; exact b3.2.2.2.2.2.2.2 19 (by decide))
  obtain ⟨v112, ee113⟩ : ∃ z : Int32, f1 29 = z := ⟨_, rfl⟩
  have b114 : Bd v112 (0) (40) := (by rw [← ee113]; exact b3.2.2.2.2.2.2.2 29 (by decide))
  obtain ⟨v115, ee116⟩ : ∃ z : Int32, f1 39 = z := ⟨_, rfl⟩
  have b117 : Bd v115 (0) (40) := (by rw [← ee116]; exact b3.2.2.2.2.2.2.2 39 (by decide))
  obtain ⟨f118, c119, b120⟩ := invM_13 hI
  refine lv_aload_n hx hb dX12_image_0 rfl (lv_at hl 0 rfl) ?_
  refine lv_iconst (v := 0) hx hb dX12_image_1 (by decide) ?_
  obtain ⟨v121, v122, v124, v126, v128, v129, w130, v131, v133, v134, v135, v136, v138, v140, v142, v144, v146, v147, v148, c149, b123, b125, b127, b132, b137, b139, b141, b143, b145⟩ := invM_0 hI
  have c149 : S 0 = .inr (12, [.int v121, .ref (ad 1), .ref (ad 2), .ref (ad 3), .ref (ad 4), .ref (ad 5), .int v122, .int v124, .int v126, .int v128, .int v129, .long w130, .int v131, .int v133, .int v134, .int v135, .ref (ad 6), .ref (ad 7), .ref (ad 8), .ref (ad 9), .ref (ad 10), .ref (ad 11), .ref (ad 12), .ref (ad 13), .ref (ad 14), .ref (ad 15), .int v136, .int v138, .ref (ad 16), .int v140, .int v142, .int v144, .int v146, .int v147, .ref (ad 17), .ref (ad 18), .int v148, .ref (ad 19)]) := c149
  refine xputi E hs hQ 0 (by decide) c149 rfl 0 (by decide) q1468 rfl rfl (Nat.le_of_ble_eq_true rfl) dX12_image_2 (fun H locs S150 eS150 hQ => ?_)
  have hI := invM_up_0 hI eS150 ⟨0, v122, v124, v126, v128, v129, w130, v131, v133, v134, v135, v136, v138, v140, v142, v144, v146, v147, v148, rfl, b123, b125, b127, b132, b137, b139, b141, b143, b145⟩
  have c151 : S150 0 = .inr (12, [.int 0, .ref (ad 1), .ref (ad 2), .ref (ad 3), .ref (ad 4), .ref (ad 5), .int v122, .int v124, .int v126, .int v128, .int v129, .long w130, .int v131, .int v133, .int v134, .int v135, .ref (ad 6), .ref (ad 7), .ref (ad 8), .ref (ad 9), .ref (ad 10), .ref (ad 11), .ref (ad 12), .ref (ad 13), .ref (ad 14), .ref (ad 15), .int v136, .int v138, .ref (ad 16), .int v140, .int v142, .int v144, .int v146, .int v147, .ref (ad 17), .ref (ad 18), .int v148, .ref (ad 19)]) := up_at eS150 rfl
  refine lv_iload_n hx hb dX12_image_5 rfl (lv_at hl 1 rfl) ?_
  refine lv_i2l hx hb dX12_image_6 rfl ?_
  refine lv_topl (fun w152 e153 => ?_)
  have t154 : w152.toInt = a1.toInt := by rw [e153]; exact i2l_i _
  have b155 : BdL w152 (-2147483648) (2147483647) := (by have h1 := ((ib_full a1)).1; have h2 := ((ib_full a1)).2; exact ⟨by omega, by omega⟩)
  refine lv_lconst (v := 0) hx hb dX12_image_7 (by decide) ?_
  refine lv_ldc2 (v := 2) hx hb E.2.2.1 (E.2.2.2.1 _ q1754) dX12_image_8 ?_
  have q156 : (0 : Int64).toInt = 0 := by decide
  have q157 : (2 : Int64).toInt = 2 := by decide
  refine xcSi E hs hQ hml hl.1 (gX12_in l g ad hD S150 hI w152 0 2) mX12_in q1591 rfl ⟨(Nat.le_of_ble_eq_true rfl), (Nat.le_of_ble_eq_true rfl)⟩ ⟨(Nat.le_of_ble_eq_true rfl), (Nat.le_of_ble_eq_true rfl)⟩ (Nat.le_of_ble_eq_true rfl) rfl dX12_image_11 (fun r158 S158 H locs hp158 hQ => ?_)
  obtain ⟨rfl, b158, g158_0, u158_0⟩ := hp158
  refine lv_if_ne (tgt := 20) hx hb dX12_image_14 (by decide) (fun k159 => ?_) (fun k159 => ?_)
  · have h160 := ib_ne k159
    have b161 : Bd r158 (1) (1) := rf_nlo b158 (by decide : Bd 0 (0) (0)) h160
    have g162 := g158_0.resolve_left (by omega)
    clear g158_0
    have b163 : BdL w152 (0) (2) := ⟨by omega, by omega⟩
    have b164 : Bd a1 (0) (2) := ⟨by omega, by omega⟩
    refine lv_aload_n hx hb dX12_image_20 rfl (lv_at hl 0 rfl) ?_
    refine lv_iconst (v := 0) hx hb dX12_image_21 (by decide) ?_
    refine lv_iconst (v := 1) hx hb dX12_image_22 (by decide) ?_
    refine lv_iload_n hx hb dX12_image_23 rfl (lv_at hl 1 rfl) ?_
    refine lv_iadd hx hb dX12_image_24 ?_
    refine lv_topi (fun z165 e166 => ?_)
    have t167 := ib_add e166 (by decide : Bd 1 (1) (1)) b164 (by decide) (by decide)
    have b168 : Bd z165 (1) (3) := ib_addb t167 (by decide : Bd 1 (1) (1)) b164
    have t167 : z165.toInt = 1 + a1.toInt := fold_add t167 (by decide) rfl
    rcases bd_r13 b168 with h169 | h169 | h169
    · subst h169
      have q170 : (0 : Int32).toInt = 0 := by decide
      have q171 : (1 : Int32).toInt = 1 := by decide
      have c172 : S150 7 = .inl (g.2 0, 50, .inl f1) := (up_ne eS150 (by decide) c2)
      have c173 : S150 6 = .inl (g.2 0, 5, .inl f19) := (up_ne eS150 (by decide) c20)
      refine xcVv E hs hQ hml hl.1 0 (gX12_copyShore_0_1 l g ad hD S150 hI (at_tr hAT0 (up_eq (j := 7) eS150 (by decide)) (up_eq (j := 12) eS150 (by decide))) (at_tr hAT1 (up_eq (j := 7) eS150 (by decide)) (up_eq (j := 12) eS150 (by decide))) (at_tr hAT2 (up_eq (j := 7) eS150 (by decide)) (up_eq (j := 12) eS150 (by decide))) (at_tr hAT3 (up_eq (j := 7) eS150 (by decide)) (up_eq (j := 12) eS150 (by decide)))) mX12_copyShore q1739 (by decide) c151 rfl rfl ⟨(Nat.le_of_ble_eq_true rfl), (Nat.le_of_ble_eq_true rfl)⟩ ⟨(Nat.le_of_ble_eq_true rfl), (Nat.le_of_ble_eq_true rfl)⟩ (Nat.le_of_ble_eq_true rfl) rfl dX12_image_25 (fun S174 H locs hp174 hQ _ => ?_)
      obtain ⟨hI, o174, g174_0, g174_1, g174_2, g174_3, g174_4, g174_5, g174_6, g174_7, g174_8, g174_9, g174_10, g174_11, g174_12, g174_13, g174_14, g174_15, g174_16, g174_17, g174_18, g174_19, g174_20, g174_21, g174_22, g174_23, g174_24, g174_25, g174_26, g174_27, u174_0, u174_1, u174_2, u174_3⟩ := hp174
      have q175 : elm (S150 7) 0 = v7.toInt := (elm_of c172 0).trans (congrArg Int32.toInt (ee8))
      obtain ⟨f176, c177, b178⟩ := invM_7 hI
      obtain ⟨v179, ee180⟩ : ∃ z : Int32, f176 10 = z := ⟨_, rfl⟩
      have b181 : Bd v179 (0) (12) := (by rw [← ee180]; exact b178.1 10 (by decide))
      have q182 : elm (S174 7) 10 = v179.toInt := (elm_of c177 10).trans (congrArg Int32.toInt (ee180))
      have q183 : elm (S150 7) 1 = v4.toInt := (elm_of c172 1).trans (congrArg Int32.toInt (ee5))
      obtain ⟨v184, ee185⟩ : ∃ z : Int32, f176 11 = z := ⟨_, rfl⟩
      have b186 : Bd v184 (0) (12) := (by rw [← ee185]; exact b178.2.1 11 (by decide))
      have q187 : elm (S174 7) 11 = v184.toInt := (elm_of c177 11).trans (congrArg Int32.toInt (ee185))
      have q188 : elm (S150 7) 3 = v10.toInt := (elm_of c172 3).trans (congrArg Int32.toInt (ee11))
      obtain ⟨v189, ee190⟩ : ∃ z : Int32, f176 13 = z := ⟨_, rfl⟩
      have b191 : Bd v189 (0) (12) := (by rw [← ee190]; exact b178.2.2.2.1 13 (by decide))
      have q192 : elm (S174 7) 13 = v189.toInt := (elm_of c177 13).trans (congrArg Int32.toInt (ee190))
      have q193 : elm (S150 7) 6 = v13.toInt := (elm_of c172 6).trans (congrArg Int32.toInt (ee14))
      obtain ⟨v194, ee195⟩ : ∃ z : Int32, f176 16 = z := ⟨_, rfl⟩
      have b196 : Bd v194 (0) (8) := (by rw [← ee195]; exact b178.2.2.2.2.1 16 (by decide))
      have q197 : elm (S174 7) 16 = v194.toInt := (elm_of c177 16).trans (congrArg Int32.toInt (ee195))
      have q198 : elm (S150 7) 8 = v16.toInt := (elm_of c172 8).trans (congrArg Int32.toInt (ee17))
      obtain ⟨v199, ee200⟩ : ∃ z : Int32, f176 18 = z := ⟨_, rfl⟩
      have b201 : Bd v199 (0) (3) := (by rw [← ee200]; exact b178.2.2.2.2.2.2.1 18 (by decide))
      have q202 : elm (S174 7) 18 = v199.toInt := (elm_of c177 18).trans (congrArg Int32.toInt (ee200))
      have q203 : elm (S150 7) 9 = v106.toInt := (elm_of c172 9).trans (congrArg Int32.toInt (ee107))
      obtain ⟨v204, ee205⟩ : ∃ z : Int32, f176 19 = z := ⟨_, rfl⟩
      have b206 : Bd v204 (0) (40) := (by rw [← ee205]; exact b178.2.2.2.2.2.2.2 19 (by decide))
      have q207 : elm (S174 7) 19 = v204.toInt := (elm_of c177 19).trans (congrArg Int32.toInt (ee205))
      obtain ⟨v208, ee209⟩ : ∃ z : Int32, f176 0 = z := ⟨_, rfl⟩
      have b210 : Bd v208 (0) (12) := (by rw [← ee209]; exact b178.1 0 (by decide))
      have q211 : elm (S174 7) 0 = v208.toInt := (elm_of c177 0).trans (congrArg Int32.toInt (ee209))
      obtain ⟨v212, ee213⟩ : ∃ z : Int32, f176 1 = z := ⟨_, rfl⟩
      have b214 : Bd v212 (0) (12) := (by rw [← ee213]; exact b178.2.1 1 (by decide))
      have q215 : elm (S174 7) 1 = v212.toInt := (elm_of c177 1).trans (congrArg Int32.toInt (ee213))
      obtain ⟨v216, ee217⟩ : ∃ z : Int32, f176 3 = z := ⟨_, rfl⟩
      have b218 : Bd v216 (0) (12) := (by rw [← ee217]; exact b178.2.2.2.1 3 (by decide))
      have q219 : elm (S174 7) 3 = v216.toInt := (elm_of c177 3).trans (congrArg Int32.toInt (ee217))
      obtain ⟨v220, ee221⟩ : ∃ z : Int32, f176 6 = z := ⟨_, rfl⟩
      have b222 : Bd v220 (0) (8) := (by rw [← ee221]; exact b178.2.2.2.2.1 6 (by decide))
      have q223 : elm (S174 7) 6 = v220.toInt := (elm_of c177 6).trans (congrArg Int32.toInt (ee221))
      obtain ⟨v224, ee225⟩ : ∃ z : Int32, f176 8 = z := ⟨_, rfl⟩
      have b226 : Bd v224 (0) (3) := (by rw [← ee225]; exact b178.2.2.2.2.2.2.1 8 (by decide))
      have q227 : elm (S174 7) 8 = v224.toInt := (elm_of c177 8).trans (congrArg Int32.toInt (ee225))
      obtain ⟨v228, ee229⟩ : ∃ z : Int32, f176 9 = z := ⟨_, rfl⟩
      have b230 : Bd v228 (0) (40) := (by rw [← ee229]; exact b178.2.2.2.2.2.2.2 9 (by decide))
      have q231 : elm (S174 7) 9 = v228.toInt := (elm_of c177 9).trans (congrArg Int32.toInt (ee229))
      have q232 : elm (S150 7) 20 = v46.toInt := (elm_of c172 20).trans (congrArg Int32.toInt (ee47))
      obtain ⟨v233, ee234⟩ : ∃ z : Int32, f176 20 = z := ⟨_, rfl⟩
      have b235 : Bd v233 (0) (12) := (by rw [← ee234]; exact b178.1 20 (by decide))
      have q236 : elm (S174 7) 20 = v233.toInt := (elm_of c177 20).trans (congrArg Int32.toInt (ee234))
      have q237 : elm (S150 7) 21 = v43.toInt := (elm_of c172 21).trans (congrArg Int32.toInt (ee44))
      obtain ⟨v238, ee239⟩ : ∃ z : Int32, f176 21 = z := ⟨_, rfl⟩
      have b240 : Bd v238 (0) (12) := (by rw [← ee239]; exact b178.2.1 21 (by decide))
      have q241 : elm (S174 7) 21 = v238.toInt := (elm_of c177 21).trans (congrArg Int32.toInt (ee239))
      have q242 : elm (S150 7) 23 = v49.toInt := (elm_of c172 23).trans (congrArg Int32.toInt (ee50))
      obtain ⟨v243, ee244⟩ : ∃ z : Int32, f176 23 = z := ⟨_, rfl⟩
      have b245 : Bd v243 (0) (12) := (by rw [← ee244]; exact b178.2.2.2.1 23 (by decide))
      have q246 : elm (S174 7) 23 = v243.toInt := (elm_of c177 23).trans (congrArg Int32.toInt (ee244))
      have q247 : elm (S150 7) 26 = v52.toInt := (elm_of c172 26).trans (congrArg Int32.toInt (ee53))
      obtain ⟨v248, ee249⟩ : ∃ z : Int32, f176 26 = z := ⟨_, rfl⟩
      have b250 : Bd v248 (0) (8) := (by rw [← ee249]; exact b178.2.2.2.2.1 26 (by decide))
      have q251 : elm (S174 7) 26 = v248.toInt := (elm_of c177 26).trans (congrArg Int32.toInt (ee249))
      have q252 : elm (S150 7) 28 = v55.toInt := (elm_of c172 28).trans (congrArg Int32.toInt (ee56))
      obtain ⟨v253, ee254⟩ : ∃ z : Int32, f176 28 = z := ⟨_, rfl⟩
      have b255 : Bd v253 (0) (3) := (by rw [← ee254]; exact b178.2.2.2.2.2.2.1 28 (by decide))
      have q256 : elm (S174 7) 28 = v253.toInt := (elm_of c177 28).trans (congrArg Int32.toInt (ee254))
      have q257 : elm (S150 7) 29 = v112.toInt := (elm_of c172 29).trans (congrArg Int32.toInt (ee113))
      obtain ⟨v258, ee259⟩ : ∃ z : Int32, f176 29 = z := ⟨_, rfl⟩
      have b260 : Bd v258 (0) (40) := (by rw [← ee259]; exact b178.2.2.2.2.2.2.2 29 (by decide))
      have q261 : elm (S174 7) 29 = v258.toInt := (elm_of c177 29).trans (congrArg Int32.toInt (ee259))
      have q262 : elm (S150 7) 30 = v64.toInt := (elm_of c172 30).trans (congrArg Int32.toInt (ee65))
      obtain ⟨v263, ee264⟩ : ∃ z : Int32, f176 30 = z := ⟨_, rfl⟩
      have b265 : Bd v263 (0) (12) := (by rw [← ee264]; exact b178.1 30 (by decide))
      have q266 : elm (S174 7) 30 = v263.toInt := (elm_of c177 30).trans (congrArg Int32.toInt (ee264))
      have q267 : elm (S150 7) 31 = v61.toInt := (elm_of c172 31).trans (congrArg Int32.toInt (ee62))
      obtain ⟨v268, ee269⟩ : ∃ z : Int32, f176 31 = z := ⟨_, rfl⟩
      have b270 : Bd v268 (0) (12) := (by rw [← ee269]; exact b178.2.1 31 (by decide))
      have q271 : elm (S174 7) 31 = v268.toInt := (elm_of c177 31).trans (congrArg Int32.toInt (ee269))
      have q272 : elm (S150 7) 33 = v67.toInt := (elm_of c172 33).trans (congrArg Int32.toInt (ee68))
      obtain ⟨v273, ee274⟩ : ∃ z : Int32, f176 33 = z := ⟨_, rfl⟩
      have b275 : Bd v273 (0) (12) := (by rw [← ee274]; exact b178.2.2.2.1 33 (by decide))
      have q276 : elm (S174 7) 33 = v273.toInt := (elm_of c177 33).trans (congrArg Int32.toInt (ee274))
      have q277 : elm (S150 7) 36 = v70.toInt := (elm_of c172 36).trans (congrArg Int32.toInt (ee71))
      obtain ⟨v278, ee279⟩ : ∃ z : Int32, f176 36 = z := ⟨_, rfl⟩
      have b280 : Bd v278 (0) (8) := (by rw [← ee279]; exact b178.2.2.2.2.1 36 (by decide))
      have q281 : elm (S174 7) 36 = v278.toInt := (elm_of c177 36).trans (congrArg Int32.toInt (ee279))
      have q282 : elm (S150 7) 38 = v73.toInt := (elm_of c172 38).trans (congrArg Int32.toInt (ee74))
      obtain ⟨v283, ee284⟩ : ∃ z : Int32, f176 38 = z := ⟨_, rfl⟩
      have b285 : Bd v283 (0) (3) := (by rw [← ee284]; exact b178.2.2.2.2.2.2.1 38 (by decide))
      have q286 : elm (S174 7) 38 = v283.toInt := (elm_of c177 38).trans (congrArg Int32.toInt (ee284))
      have q287 : elm (S150 7) 39 = v115.toInt := (elm_of c172 39).trans (congrArg Int32.toInt (ee116))
      obtain ⟨v288, ee289⟩ : ∃ z : Int32, f176 39 = z := ⟨_, rfl⟩
      have b290 : Bd v288 (0) (40) := (by rw [← ee289]; exact b178.2.2.2.2.2.2.2 39 (by decide))
      have q291 : elm (S174 7) 39 = v288.toInt := (elm_of c177 39).trans (congrArg Int32.toInt (ee289))
      have q292 : elm (S150 6) 0 = v22.toInt := (elm_of c173 0).trans (congrArg Int32.toInt (ee23))
      obtain ⟨f293, c294, b295⟩ := invM_6 hI
      obtain ⟨v296, ee297⟩ : ∃ z : Int32, f293 1 = z := ⟨_, rfl⟩
      have b298 : Bd v296 (0) (40000) := (by rw [← ee297]; exact b295 1)
      have q299 : elm (S174 6) 1 = v296.toInt := (elm_of c294 1).trans (congrArg Int32.toInt (ee297))
      obtain ⟨v300, ee301⟩ : ∃ z : Int32, f293 0 = z := ⟨_, rfl⟩
      have b302 : Bd v300 (0) (40000) := (by rw [← ee301]; exact b295 0)
      have q303 : elm (S174 6) 0 = v300.toInt := (elm_of c294 0).trans (congrArg Int32.toInt (ee301))
      have q304 : elm (S150 6) 2 = v58.toInt := (elm_of c173 2).trans (congrArg Int32.toInt (ee59))
      obtain ⟨v305, ee306⟩ : ∃ z : Int32, f293 2 = z := ⟨_, rfl⟩
      have b307 : Bd v305 (0) (40000) := (by rw [← ee306]; exact b295 2)
      have q308 : elm (S174 6) 2 = v305.toInt := (elm_of c294 2).trans (congrArg Int32.toInt (ee306))
      have q309 : elm (S150 6) 3 = v76.toInt := (elm_of c173 3).trans (congrArg Int32.toInt (ee77))
      obtain ⟨v310, ee311⟩ : ∃ z : Int32, f293 3 = z := ⟨_, rfl⟩
      have b312 : Bd v310 (0) (40000) := (by rw [← ee311]; exact b295 3)
      have q313 : elm (S174 6) 3 = v310.toInt := (elm_of c294 3).trans (congrArg Int32.toInt (ee311))
      refine lv_aload_n hx hb dX12_image_28 rfl (lv_at hl 0 rfl) ?_
      have c314 : S174 0 = .inr (12, [.int 0, .ref (ad 1), .ref (ad 2), .ref (ad 3), .ref (ad 4), .ref (ad 5), .int v122, .int v124, .int v126, .int v128, .int v129, .long w130, .int v131, .int v133, .int v134, .int v135, .ref (ad 6), .ref (ad 7), .ref (ad 8), .ref (ad 9), .ref (ad 10), .ref (ad 11), .ref (ad 12), .ref (ad 13), .ref (ad 14), .ref (ad 15), .int v136, .int v138, .ref (ad 16), .int v140, .int v142, .int v144, .int v146, .int v147, .ref (ad 17), .ref (ad 18), .int v148, .ref (ad 19)]) := ((o174 0 (by decide)).trans c151)
      refine xget E hQ 0 (by decide) c314 rfl 23 (by decide) q1491 rfl dX12_image_29 ?_
      refine lv_iload_n hx hb dX12_image_32 rfl (lv_at hl 1 rfl) ?_
      refine lv_iconst (v := 1) hx hb dX12_image_33 (by decide) ?_
      have c315 : S174 13 = .inl (g.2 3, 3, .inl f118) := ((o174 13 (by decide)).trans (up_ne eS150 (by decide) c119))
      refine xzast E hs hQ 13 (by decide) c315 (ib_in b164 (by decide) (by decide)) dX12_image_34 (fun H locs S316 eS316 hQ => ?_)
      have hI := invM_up_13 hI eS316 ⟨_, rfl, upd_b b120 (nar_z _)⟩
      have b318 : ∀ j, Bd ((upd f118 (a1 : Int32).toNatClampNeg (vp_nar .boolean 1)) j) (0) (1) := upd_b b120 (nar_z _)
      have c317 : S316 13 = .inl (g.2 3, 3, .inl (upd f118 (a1 : Int32).toNatClampNeg (vp_nar .boolean 1))) := up_at eS316 rfl
      refine lv_iconst (v := 0) hx hb dX12_image_35 (by decide) ?_
      have c319 : S316 7 = .inl (g.2 0, 50, .inl f176) := (up_ne eS316 (by decide) c177)
      have q320 : elm (S316 7) 1 = v212.toInt := (elm_of c319 1).trans (congrArg Int32.toInt (ee213))
      have q321 : elm (S316 7) 0 = v208.toInt := (elm_of c319 0).trans (congrArg Int32.toInt (ee209))
      have q322 : elm (S316 7) 3 = v216.toInt := (elm_of c319 3).trans (congrArg Int32.toInt (ee217))
      have q323 : elm (S316 7) 6 = v220.toInt := (elm_of c319 6).trans (congrArg Int32.toInt (ee221))
      have q324 : elm (S316 7) 8 = v224.toInt := (elm_of c319 8).trans (congrArg Int32.toInt (ee225))
      have c325 : S316 6 = .inl (g.2 0, 5, .inl f293) := (up_ne eS316 (by decide) c294)
      have q326 : elm (S316 6) 0 = v300.toInt := (elm_of c325 0).trans (congrArg Int32.toInt (ee301))
      have q327 : elm (S316 7) 11 = v184.toInt := (elm_of c319 11).trans (congrArg Int32.toInt (ee185))
      have q328 : elm (S316 7) 10 = v179.toInt := (elm_of c319 10).trans (congrArg Int32.toInt (ee180))
      have q329 : elm (S316 7) 13 = v189.toInt := (elm_of c319 13).trans (congrArg Int32.toInt (ee190))
      have q330 : elm (S316 7) 16 = v194.toInt := (elm_of c319 16).trans (congrArg Int32.toInt (ee195))
      have q331 : elm (S316 7) 18 = v199.toInt := (elm_of c319 18).trans (congrArg Int32.toInt (ee200))
      have q332 : elm (S316 6) 1 = v296.toInt := (elm_of c325 1).trans (congrArg Int32.toInt (ee297))
      have q333 : elm (S316 7) 21 = v238.toInt := (elm_of c319 21).trans (congrArg Int32.toInt (ee239))
      have q334 : elm (S316 7) 20 = v233.toInt := (elm_of c319 20).trans (congrArg Int32.toInt (ee234))
      have q335 : elm (S316 7) 23 = v243.toInt := (elm_of c319 23).trans (congrArg Int32.toInt (ee244))
      have q336 : elm (S316 7) 26 = v248.toInt := (elm_of c319 26).trans (congrArg Int32.toInt (ee249))
      have q337 : elm (S316 7) 28 = v253.toInt := (elm_of c319 28).trans (congrArg Int32.toInt (ee254))
      have q338 : elm (S316 6) 2 = v305.toInt := (elm_of c325 2).trans (congrArg Int32.toInt (ee306))
      have q339 : elm (S316 7) 31 = v268.toInt := (elm_of c319 31).trans (congrArg Int32.toInt (ee269))
      have q340 : elm (S316 7) 30 = v263.toInt := (elm_of c319 30).trans (congrArg Int32.toInt (ee264))
      have q341 : elm (S316 7) 33 = v273.toInt := (elm_of c319 33).trans (congrArg Int32.toInt (ee274))
      have q342 : elm (S316 7) 36 = v278.toInt := (elm_of c319 36).trans (congrArg Int32.toInt (ee279))
      have q343 : elm (S316 7) 38 = v283.toInt := (elm_of c319 38).trans (congrArg Int32.toInt (ee284))
      have q344 : elm (S316 6) 3 = v310.toInt := (elm_of c325 3).trans (congrArg Int32.toInt (ee311))
      exact xri E hr hlk hQ (⟨hI, (up_o (o_trans (up_o o_refl eS150 (by decide)) o174 (by decide)) eS316 (by decide)), (ib_wk (by decide : Bd 0 (0) (0)) (by decide) (by decide)), (by omega), (by omega), (by omega), (by omega), (by omega), (by omega), (by omega), (by omega), (by omega), (by omega), (by omega), (by omega), (by omega), (by omega), (by omega), (by omega), (by omega), (by omega), (by omega), (by omega), (at_tr u174_0 (up_eq (j := 7) eS316 (by decide)) (up_eq (j := 12) eS316 (by decide))), (at_tr u174_1 (up_eq (j := 7) eS316 (by decide)) (up_eq (j := 12) eS316 (by decide))), (at_tr u174_2 (up_eq (j := 7) eS316 (by decide)) (up_eq (j := 12) eS316 (by decide))), (at_tr u174_3 (up_eq (j := 7) eS316 (by decide)) (up_eq (j := 12) eS316 (by decide))), (by have h1 := u158_0; unfold InP at h1; unfold ansImage; rw [if_neg (by omega)]), (pu_st c119 c317 (by omega) (by decide))⟩) dX12_image_36
    · subst h169
      have q345 : (0 : Int32).toInt = 0 := by decide
      have q346 : (2 : Int32).toInt = 2 := by decide
      have c347 : S150 7 = .inl (g.2 0, 50, .inl f1) := (up_ne eS150 (by decide) c2)
      have c348 : S150 6 = .inl (g.2 0, 5, .inl f19) := (up_ne eS150 (by decide) c20)
      refine xcVv E hs hQ hml hl.1 0 (gX12_copyShore_0_2 l g ad hD S150 hI (at_tr hAT0 (up_eq (j := 7) eS150 (by decide)) (up_eq (j := 12) eS150 (by decide))) (at_tr hAT1 (up_eq (j := 7) eS150 (by decide)) (up_eq (j := 12) eS150 (by decide))) (at_tr hAT2 (up_eq (j := 7) eS150 (by decide)) (up_eq (j := 12) eS150 (by decide))) (at_tr hAT3 (up_eq (j := 7) eS150 (by decide)) (up_eq (j := 12) eS150 (by decide)))) mX12_copyShore q1739 (by decide) c151 rfl rfl ⟨(Nat.le_of_ble_eq_true rfl), (Nat.le_of_ble_eq_true rfl)⟩ ⟨(Nat.le_of_ble_eq_true rfl), (Nat.le_of_ble_eq_true rfl)⟩ (Nat.le_of_ble_eq_true rfl) rfl dX12_image_25 (fun S349 H locs hp349 hQ _ => ?_)
      obtain ⟨hI, o349, g349_0, g349_1, g349_2, g349_3, g349_4, g349_5, g349_6, g349_7, g349_8, g349_9, g349_10, g349_11, g349_12, g349_13, g349_14, g349_15, g349_16, g349_17, g349_18, g349_19, g349_20, g349_21, g349_22, g349_23, g349_24, g349_25, g349_26, g349_27, u349_0, u349_1, u349_2, u349_3⟩ := hp349
      have q350 : elm (S150 7) 0 = v7.toInt := (elm_of c347 0).trans (congrArg Int32.toInt (ee8))
      obtain ⟨f351, c352, b353⟩ := invM_7 hI
      obtain ⟨v354, ee355⟩ : ∃ z : Int32, f351 20 = z := ⟨_, rfl⟩
      have b356 : Bd v354 (0) (12) := (by rw [← ee355]; exact b353.1 20 (by decide))
      have q357 : elm (S349 7) 20 = v354.toInt := (elm_of c352 20).trans (congrArg Int32.toInt (ee355))
      have q358 : elm (S150 7) 1 = v4.toInt := (elm_of c347 1).trans (congrArg Int32.toInt (ee5))
      obtain ⟨v359, ee360⟩ : ∃ z : Int32, f351 21 = z := ⟨_, rfl⟩
      have b361 : Bd v359 (0) (12) := (by rw [← ee360]; exact b353.2.1 21 (by decide))
      have q362 : elm (S349 7) 21 = v359.toInt := (elm_of c352 21).trans (congrArg Int32.toInt (ee360))
      have q363 : elm (S150 7) 3 = v10.toInt := (elm_of c347 3).trans (congrArg Int32.toInt (ee11))
      obtain ⟨v364, ee365⟩ : ∃ z : Int32, f351 23 = z := ⟨_, rfl⟩
      have b366 : Bd v364 (0) (12) := (by rw [← ee365]; exact b353.2.2.2.1 23 (by decide))
      have q367 : elm (S349 7) 23 = v364.toInt := (elm_of c352 23).trans (congrArg Int32.toInt (ee365))
      have q368 : elm (S150 7) 6 = v13.toInt := (elm_of c347 6).trans (congrArg Int32.toInt (ee14))
      obtain ⟨v369, ee370⟩ : ∃ z : Int32, f351 26 = z := ⟨_, rfl⟩
      have b371 : Bd v369 (0) (8) := (by rw [← ee370]; exact b353.2.2.2.2.1 26 (by decide))
      have q372 : elm (S349 7) 26 = v369.toInt := (elm_of c352 26).trans (congrArg Int32.toInt (ee370))
      have q373 : elm (S150 7) 8 = v16.toInt := (elm_of c347 8).trans (congrArg Int32.toInt (ee17))
      obtain ⟨v374, ee375⟩ : ∃ z : Int32, f351 28 = z := ⟨_, rfl⟩
      have b376 : Bd v374 (0) (3) := (by rw [← ee375]; exact b353.2.2.2.2.2.2.1 28 (by decide))
      have q377 : elm (S349 7) 28 = v374.toInt := (elm_of c352 28).trans (congrArg Int32.toInt (ee375))
      have q378 : elm (S150 7) 9 = v106.toInt := (elm_of c347 9).trans (congrArg Int32.toInt (ee107))
      obtain ⟨v379, ee380⟩ : ∃ z : Int32, f351 29 = z := ⟨_, rfl⟩
      have b381 : Bd v379 (0) (40) := (by rw [← ee380]; exact b353.2.2.2.2.2.2.2 29 (by decide))
      have q382 : elm (S349 7) 29 = v379.toInt := (elm_of c352 29).trans (congrArg Int32.toInt (ee380))
      obtain ⟨v383, ee384⟩ : ∃ z : Int32, f351 0 = z := ⟨_, rfl⟩
      have b385 : Bd v383 (0) (12) := (by rw [← ee384]; exact b353.1 0 (by decide))
      have q386 : elm (S349 7) 0 = v383.toInt := (elm_of c352 0).trans (congrArg Int32.toInt (ee384))
      obtain ⟨v387, ee388⟩ : ∃ z : Int32, f351 1 = z := ⟨_, rfl⟩
      have b389 : Bd v387 (0) (12) := (by rw [← ee388]; exact b353.2.1 1 (by decide))
      have q390 : elm (S349 7) 1 = v387.toInt := (elm_of c352 1).trans (congrArg Int32.toInt (ee388))
      obtain ⟨v391, ee392⟩ : ∃ z : Int32, f351 3 = z := ⟨_, rfl⟩
      have b393 : Bd v391 (0) (12) := (by rw [← ee392]; exact b353.2.2.2.1 3 (by decide))
      have q394 : elm (S349 7) 3 = v391.toInt := (elm_of c352 3).trans (congrArg Int32.toInt (ee392))
      obtain ⟨v395, ee396⟩ : ∃ z : Int32, f351 6 = z := ⟨_, rfl⟩
      have b397 : Bd v395 (0) (8) := (by rw [← ee396]; exact b353.2.2.2.2.1 6 (by decide))
      have q398 : elm (S349 7) 6 = v395.toInt := (elm_of c352 6).trans (congrArg Int32.toInt (ee396))
      obtain ⟨v399, ee400⟩ : ∃ z : Int32, f351 8 = z := ⟨_, rfl⟩
      have b401 : Bd v399 (0) (3) := (by rw [← ee400]; exact b353.2.2.2.2.2.2.1 8 (by decide))
      have q402 : elm (S349 7) 8 = v399.toInt := (elm_of c352 8).trans (congrArg Int32.toInt (ee400))
      obtain ⟨v403, ee404⟩ : ∃ z : Int32, f351 9 = z := ⟨_, rfl⟩
      have b405 : Bd v403 (0) (40) := (by rw [← ee404]; exact b353.2.2.2.2.2.2.2 9 (by decide))
      have q406 : elm (S349 7) 9 = v403.toInt := (elm_of c352 9).trans (congrArg Int32.toInt (ee404))
      have q407 : elm (S150 7) 10 = v28.toInt := (elm_of c347 10).trans (congrArg Int32.toInt (ee29))
      obtain ⟨v408, ee409⟩ : ∃ z : Int32, f351 10 = z := ⟨_, rfl⟩
      have b410 : Bd v408 (0) (12) := (by rw [← ee409]; exact b353.1 10 (by decide))
      have q411 : elm (S349 7) 10 = v408.toInt := (elm_of c352 10).trans (congrArg Int32.toInt (ee409))
      have q412 : elm (S150 7) 11 = v25.toInt := (elm_of c347 11).trans (congrArg Int32.toInt (ee26))
      obtain ⟨v413, ee414⟩ : ∃ z : Int32, f351 11 = z := ⟨_, rfl⟩
      have b415 : Bd v413 (0) (12) := (by rw [← ee414]; exact b353.2.1 11 (by decide))
      have q416 : elm (S349 7) 11 = v413.toInt := (elm_of c352 11).trans (congrArg Int32.toInt (ee414))
      have q417 : elm (S150 7) 13 = v31.toInt := (elm_of c347 13).trans (congrArg Int32.toInt (ee32))
      obtain ⟨v418, ee419⟩ : ∃ z : Int32, f351 13 = z := ⟨_, rfl⟩
      have b420 : Bd v418 (0) (12) := (by rw [← ee419]; exact b353.2.2.2.1 13 (by decide))
      have q421 : elm (S349 7) 13 = v418.toInt := (elm_of c352 13).trans (congrArg Int32.toInt (ee419))
      have q422 : elm (S150 7) 16 = v34.toInt := (elm_of c347 16).trans (congrArg Int32.toInt (ee35))
      obtain ⟨v423, ee424⟩ : ∃ z : Int32, f351 16 = z := ⟨_, rfl⟩
      have b425 : Bd v423 (0) (8) := (by rw [← ee424]; exact b353.2.2.2.2.1 16 (by decide))
      have q426 : elm (S349 7) 16 = v423.toInt := (elm_of c352 16).trans (congrArg Int32.toInt (ee424))
      have q427 : elm (S150 7) 18 = v37.toInt := (elm_of c347 18).trans (congrArg Int32.toInt (ee38))
      obtain ⟨v428, ee429⟩ : ∃ z : Int32, f351 18 = z := ⟨_, rfl⟩
      have b430 : Bd v428 (0) (3) := (by rw [← ee429]; exact b353.2.2.2.2.2.2.1 18 (by decide))
      have q431 : elm (S349 7) 18 = v428.toInt := (elm_of c352 18).trans (congrArg Int32.toInt (ee429))
      have q432 : elm (S150 7) 19 = v109.toInt := (elm_of c347 19).trans (congrArg Int32.toInt (ee110))
      obtain ⟨v433, ee434⟩ : ∃ z : Int32, f351 19 = z := ⟨_, rfl⟩
      have b435 : Bd v433 (0) (40) := (by rw [← ee434]; exact b353.2.2.2.2.2.2.2 19 (by decide))
      have q436 : elm (S349 7) 19 = v433.toInt := (elm_of c352 19).trans (congrArg Int32.toInt (ee434))
      have q437 : elm (S150 7) 30 = v64.toInt := (elm_of c347 30).trans (congrArg Int32.toInt (ee65))
      obtain ⟨v438, ee439⟩ : ∃ z : Int32, f351 30 = z := ⟨_, rfl⟩
      have b440 : Bd v438 (0) (12) := (by rw [← ee439]; exact b353.1 30 (by decide))
      have q441 : elm (S349 7) 30 = v438.toInt := (elm_of c352 30).trans (congrArg Int32.toInt (ee439))
      have q442 : elm (S150 7) 31 = v61.toInt := (elm_of c347 31).trans (congrArg Int32.toInt (ee62))
      obtain ⟨v443, ee444⟩ : ∃ z : Int32, f351 31 = z := ⟨_, rfl⟩
      have b445 : Bd v443 (0) (12) := (by rw [← ee444]; exact b353.2.1 31 (by decide))
      have q446 : elm (S349 7) 31 = v443.toInt := (elm_of c352 31).trans (congrArg Int32.toInt (ee444))
      have q447 : elm (S150 7) 33 = v67.toInt := (elm_of c347 33).trans (congrArg Int32.toInt (ee68))
      obtain ⟨v448, ee449⟩ : ∃ z : Int32, f351 33 = z := ⟨_, rfl⟩
      have b450 : Bd v448 (0) (12) := (by rw [← ee449]; exact b353.2.2.2.1 33 (by decide))
      have q451 : elm (S349 7) 33 = v448.toInt := (elm_of c352 33).trans (congrArg Int32.toInt (ee449))
      have q452 : elm (S150 7) 36 = v70.toInt := (elm_of c347 36).trans (congrArg Int32.toInt (ee71))
      obtain ⟨v453, ee454⟩ : ∃ z : Int32, f351 36 = z := ⟨_, rfl⟩
      have b455 : Bd v453 (0) (8) := (by rw [← ee454]; exact b353.2.2.2.2.1 36 (by decide))
      have q456 : elm (S349 7) 36 = v453.toInt := (elm_of c352 36).trans (congrArg Int32.toInt (ee454))
      have q457 : elm (S150 7) 38 = v73.toInt := (elm_of c347 38).trans (congrArg Int32.toInt (ee74))
      obtain ⟨v458, ee459⟩ : ∃ z : Int32, f351 38 = z := ⟨_, rfl⟩
      have b460 : Bd v458 (0) (3) := (by rw [← ee459]; exact b353.2.2.2.2.2.2.1 38 (by decide))
      have q461 : elm (S349 7) 38 = v458.toInt := (elm_of c352 38).trans (congrArg Int32.toInt (ee459))
      have q462 : elm (S150 7) 39 = v115.toInt := (elm_of c347 39).trans (congrArg Int32.toInt (ee116))
      obtain ⟨v463, ee464⟩ : ∃ z : Int32, f351 39 = z := ⟨_, rfl⟩
      have b465 : Bd v463 (0) (40) := (by rw [← ee464]; exact b353.2.2.2.2.2.2.2 39 (by decide))
      have q466 : elm (S349 7) 39 = v463.toInt := (elm_of c352 39).trans (congrArg Int32.toInt (ee464))
      have q467 : elm (S150 6) 0 = v22.toInt := (elm_of c348 0).trans (congrArg Int32.toInt (ee23))
      obtain ⟨f468, c469, b470⟩ := invM_6 hI
      obtain ⟨v471, ee472⟩ : ∃ z : Int32, f468 2 = z := ⟨_, rfl⟩
      have b473 : Bd v471 (0) (40000) := (by rw [← ee472]; exact b470 2)
      have q474 : elm (S349 6) 2 = v471.toInt := (elm_of c469 2).trans (congrArg Int32.toInt (ee472))
      obtain ⟨v475, ee476⟩ : ∃ z : Int32, f468 0 = z := ⟨_, rfl⟩
      have b477 : Bd v475 (0) (40000) := (by rw [← ee476]; exact b470 0)
      have q478 : elm (S349 6) 0 = v475.toInt := (elm_of c469 0).trans (congrArg Int32.toInt (ee476))
      have q479 : elm (S150 6) 1 = v40.toInt := (elm_of c348 1).trans (congrArg Int32.toInt (ee41))
      obtain ⟨v480, ee481⟩ : ∃ z : Int32, f468 1 = z := ⟨_, rfl⟩
      have b482 : Bd v480 (0) (40000) := (by rw [← ee481]; exact b470 1)
      have q483 : elm (S349 6) 1 = v480.toInt := (elm_of c469 1).trans (congrArg Int32.toInt (ee481))
      have q484 : elm (S150 6) 3 = v76.toInt := (elm_of c348 3).trans (congrArg Int32.toInt (ee77))
      obtain ⟨v485, ee486⟩ : ∃ z : Int32, f468 3 = z := ⟨_, rfl⟩
      have b487 : Bd v485 (0) (40000) := (by rw [← ee486]; exact b470 3)
      have q488 : elm (S349 6) 3 = v485.toInt := (elm_of c469 3).trans (congrArg Int32.toInt (ee486))
      refine lv_aload_n hx hb dX12_image_28 rfl (lv_at hl 0 rfl) ?_
      have c489 : S349 0 = .inr (12, [.int 0, .ref (ad 1), .ref (ad 2), .ref (ad 3), .ref (ad 4), .ref (ad 5), .int v122, .int v124, .int v126, .int v128, .int v129, .long w130, .int v131, .int v133, .int v134, .int v135, .ref (ad 6), .ref (ad 7), .ref (ad 8), .ref (ad 9), .ref (ad 10), .ref (ad 11), .ref (ad 12), .ref (ad 13), .ref (ad 14), .ref (ad 15), .int v136, .int v138, .ref (ad 16), .int v140, .int v142, .int v144, .int v146, .int v147, .ref (ad 17), .ref (ad 18), .int v148, .ref (ad 19)]) := ((o349 0 (by decide)).trans c151)
      refine xget E hQ 0 (by decide) c489 rfl 23 (by decide) q1491 rfl dX12_image_29 ?_
      refine lv_iload_n hx hb dX12_image_32 rfl (lv_at hl 1 rfl) ?_
      refine lv_iconst (v := 1) hx hb dX12_image_33 (by decide) ?_
      have c490 : S349 13 = .inl (g.2 3, 3, .inl f118) := ((o349 13 (by decide)).trans (up_ne eS150 (by decide) c119))
      refine xzast E hs hQ 13 (by decide) c490 (ib_in b164 (by decide) (by decide)) dX12_image_34 (fun H locs S491 eS491 hQ => ?_)
      have hI := invM_up_13 hI eS491 ⟨_, rfl, upd_b b120 (nar_z _)⟩
      have b493 : ∀ j, Bd ((upd f118 (a1 : Int32).toNatClampNeg (vp_nar .boolean 1)) j) (0) (1) := upd_b b120 (nar_z _)
      have c492 : S491 13 = .inl (g.2 3, 3, .inl (upd f118 (a1 : Int32).toNatClampNeg (vp_nar .boolean 1))) := up_at eS491 rfl
      refine lv_iconst (v := 0) hx hb dX12_image_35 (by decide) ?_
      have c494 : S491 7 = .inl (g.2 0, 50, .inl f351) := (up_ne eS491 (by decide) c352)
      have q495 : elm (S491 7) 1 = v387.toInt := (elm_of c494 1).trans (congrArg Int32.toInt (ee388))
      have q496 : elm (S491 7) 0 = v383.toInt := (elm_of c494 0).trans (congrArg Int32.toInt (ee384))
      have q497 : elm (S491 7) 3 = v391.toInt := (elm_of c494 3).trans (congrArg Int32.toInt (ee392))
      have q498 : elm (S491 7) 6 = v395.toInt := (elm_of c494 6).trans (congrArg Int32.toInt (ee396))
      have q499 : elm (S491 7) 8 = v399.toInt := (elm_of c494 8).trans (congrArg Int32.toInt (ee400))
      have c500 : S491 6 = .inl (g.2 0, 5, .inl f468) := (up_ne eS491 (by decide) c469)
      have q501 : elm (S491 6) 0 = v475.toInt := (elm_of c500 0).trans (congrArg Int32.toInt (ee476))
      have q502 : elm (S491 7) 11 = v413.toInt := (elm_of c494 11).trans (congrArg Int32.toInt (ee414))
      have q503 : elm (S491 7) 10 = v408.toInt := (elm_of c494 10).trans (congrArg Int32.toInt (ee409))
      have q504 : elm (S491 7) 13 = v418.toInt := (elm_of c494 13).trans (congrArg Int32.toInt (ee419))
      have q505 : elm (S491 7) 16 = v423.toInt := (elm_of c494 16).trans (congrArg Int32.toInt (ee424))
      have q506 : elm (S491 7) 18 = v428.toInt := (elm_of c494 18).trans (congrArg Int32.toInt (ee429))
      have q507 : elm (S491 6) 1 = v480.toInt := (elm_of c500 1).trans (congrArg Int32.toInt (ee481))
      have q508 : elm (S491 7) 21 = v359.toInt := (elm_of c494 21).trans (congrArg Int32.toInt (ee360))
      have q509 : elm (S491 7) 20 = v354.toInt := (elm_of c494 20).trans (congrArg Int32.toInt (ee355))
      have q510 : elm (S491 7) 23 = v364.toInt := (elm_of c494 23).trans (congrArg Int32.toInt (ee365))
      have q511 : elm (S491 7) 26 = v369.toInt := (elm_of c494 26).trans (congrArg Int32.toInt (ee370))
      have q512 : elm (S491 7) 28 = v374.toInt := (elm_of c494 28).trans (congrArg Int32.toInt (ee375))
      have q513 : elm (S491 6) 2 = v471.toInt := (elm_of c500 2).trans (congrArg Int32.toInt (ee472))
      have q514 : elm (S491 7) 31 = v443.toInt := (elm_of c494 31).trans (congrArg Int32.toInt (ee444))
      have q515 : elm (S491 7) 30 = v438.toInt := (elm_of c494 30).trans (congrArg Int32.toInt (ee439))
      have q516 : elm (S491 7) 33 = v448.toInt := (elm_of c494 33).trans (congrArg Int32.toInt (ee449))
      have q517 : elm (S491 7) 36 = v453.toInt := (elm_of c494 36).trans (congrArg Int32.toInt (ee454))
      have q518 : elm (S491 7) 38 = v458.toInt := (elm_of c494 38).trans (congrArg Int32.toInt (ee459))
      have q519 : elm (S491 6) 3 = v485.toInt := (elm_of c500 3).trans (congrArg Int32.toInt (ee486))
      exact xri E hr hlk hQ (⟨hI, (up_o (o_trans (up_o o_refl eS150 (by decide)) o349 (by decide)) eS491 (by decide)), (ib_wk (by decide : Bd 0 (0) (0)) (by decide) (by decide)), (by omega), (by omega), (by omega), (by omega), (by omega), (by omega), (by omega), (by omega), (by omega), (by omega), (by omega), (by omega), (by omega), (by omega), (by omega), (by omega), (by omega), (by omega), (by omega), (by omega), (at_tr u349_0 (up_eq (j := 7) eS491 (by decide)) (up_eq (j := 12) eS491 (by decide))), (at_tr u349_1 (up_eq (j := 7) eS491 (by decide)) (up_eq (j := 12) eS491 (by decide))), (at_tr u349_2 (up_eq (j := 7) eS491 (by decide)) (up_eq (j := 12) eS491 (by decide))), (at_tr u349_3 (up_eq (j := 7) eS491 (by decide)) (up_eq (j := 12) eS491 (by decide))), (by have h1 := u158_0; unfold InP at h1; unfold ansImage; rw [if_neg (by omega)]), (pu_st c119 c492 (by omega) (by decide))⟩) dX12_image_36
    · subst h169
      have q520 : (0 : Int32).toInt = 0 := by decide
      have q521 : (3 : Int32).toInt = 3 := by decide
      have c522 : S150 7 = .inl (g.2 0, 50, .inl f1) := (up_ne eS150 (by decide) c2)
      have c523 : S150 6 = .inl (g.2 0, 5, .inl f19) := (up_ne eS150 (by decide) c20)
      refine xcVv E hs hQ hml hl.1 0 (gX12_copyShore_0_3 l g ad hD S150 hI (at_tr hAT0 (up_eq (j := 7) eS150 (by decide)) (up_eq (j := 12) eS150 (by decide))) (at_tr hAT1 (up_eq (j := 7) eS150 (by decide)) (up_eq (j := 12) eS150 (by decide))) (at_tr hAT2 (up_eq (j := 7) eS150 (by decide)) (up_eq (j := 12) eS150 (by decide))) (at_tr hAT3 (up_eq (j := 7) eS150 (by decide)) (up_eq (j := 12) eS150 (by decide)))) mX12_copyShore q1739 (by decide) c151 rfl rfl ⟨(Nat.le_of_ble_eq_true rfl), (Nat.le_of_ble_eq_true rfl)⟩ ⟨(Nat.le_of_ble_eq_true rfl), (Nat.le_of_ble_eq_true rfl)⟩ (Nat.le_of_ble_eq_true rfl) rfl dX12_image_25 (fun S524 H locs hp524 hQ _ => ?_)
      obtain ⟨hI, o524, g524_0, g524_1, g524_2, g524_3, g524_4, g524_5, g524_6, g524_7, g524_8, g524_9, g524_10, g524_11, g524_12, g524_13, g524_14, g524_15, g524_16, g524_17, g524_18, g524_19, g524_20, g524_21, g524_22, g524_23, g524_24, g524_25, g524_26, g524_27, u524_0, u524_1, u524_2, u524_3⟩ := hp524
      have q525 : elm (S150 7) 0 = v7.toInt := (elm_of c522 0).trans (congrArg Int32.toInt (ee8))
      obtain ⟨f526, c527, b528⟩ := invM_7 hI
      obtain ⟨v529, ee530⟩ : ∃ z : Int32, f526 30 = z := ⟨_, rfl⟩
      have b531 : Bd v529 (0) (12) := (by rw [← ee530]; exact b528.1 30 (by decide))
      have q532 : elm (S524 7) 30 = v529.toInt := (elm_of c527 30).trans (congrArg Int32.toInt (ee530))
      have q533 : elm (S150 7) 1 = v4.toInt := (elm_of c522 1).trans (congrArg Int32.toInt (ee5))
      obtain ⟨v534, ee535⟩ : ∃ z : Int32, f526 31 = z := ⟨_, rfl⟩
      have b536 : Bd v534 (0) (12) := (by rw [← ee535]; exact b528.2.1 31 (by decide))
      have q537 : elm (S524 7) 31 = v534.toInt := (elm_of c527 31).trans (congrArg Int32.toInt (ee535))
      have q538 : elm (S150 7) 3 = v10.toInt := (elm_of c522 3).trans (congrArg Int32.toInt (ee11))
      obtain ⟨v539, ee540⟩ : ∃ z : Int32, f526 33 = z := ⟨_, rfl⟩
      have b541 : Bd v539 (0) (12) := (by rw [← ee540]; exact b528.2.2.2.1 33 (by decide))
      have q542 : elm (S524 7) 33 = v539.toInt := (elm_of c527 33).trans (congrArg Int32.toInt (ee540))
      have q543 : elm (S150 7) 6 = v13.toInt := (elm_of c522 6).trans (congrArg Int32.toInt (ee14))
      obtain ⟨v544, ee545⟩ : ∃ z : Int32, f526 36 = z := ⟨_, rfl⟩
      have b546 : Bd v544 (0) (8) := (by rw [← ee545]; exact b528.2.2.2.2.1 36 (by decide))
      have q547 : elm (S524 7) 36 = v544.toInt := (elm_of c527 36).trans (congrArg Int32.toInt (ee545))
      have q548 : elm (S150 7) 8 = v16.toInt := (elm_of c522 8).trans (congrArg Int32.toInt (ee17))
      obtain ⟨v549, ee550⟩ : ∃ z : Int32, f526 38 = z := ⟨_, rfl⟩
      have b551 : Bd v549 (0) (3) := (by rw [← ee550]; exact b528.2.2.2.2.2.2.1 38 (by decide))
      have q552 : elm (S524 7) 38 = v549.toInt := (elm_of c527 38).trans (congrArg Int32.toInt (ee550))
      have q553 : elm (S150 7) 9 = v106.toInt := (elm_of c522 9).trans (congrArg Int32.toInt (ee107))
      obtain ⟨v554, ee555⟩ : ∃ z : Int32, f526 39 = z := ⟨_, rfl⟩
      have b556 : Bd v554 (0) (40) := (by rw [← ee555]; exact b528.2.2.2.2.2.2.2 39 (by decide))
      have q557 : elm (S524 7) 39 = v554.toInt := (elm_of c527 39).trans (congrArg Int32.toInt (ee555))
      obtain ⟨v558, ee559⟩ : ∃ z : Int32, f526 0 = z := ⟨_, rfl⟩
      have b560 : Bd v558 (0) (12) := (by rw [← ee559]; exact b528.1 0 (by decide))
      have q561 : elm (S524 7) 0 = v558.toInt := (elm_of c527 0).trans (congrArg Int32.toInt (ee559))
      obtain ⟨v562, ee563⟩ : ∃ z : Int32, f526 1 = z := ⟨_, rfl⟩
      have b564 : Bd v562 (0) (12) := (by rw [← ee563]; exact b528.2.1 1 (by decide))
      have q565 : elm (S524 7) 1 = v562.toInt := (elm_of c527 1).trans (congrArg Int32.toInt (ee563))
      obtain ⟨v566, ee567⟩ : ∃ z : Int32, f526 3 = z := ⟨_, rfl⟩
      have b568 : Bd v566 (0) (12) := (by rw [← ee567]; exact b528.2.2.2.1 3 (by decide))
      have q569 : elm (S524 7) 3 = v566.toInt := (elm_of c527 3).trans (congrArg Int32.toInt (ee567))
      obtain ⟨v570, ee571⟩ : ∃ z : Int32, f526 6 = z := ⟨_, rfl⟩
      have b572 : Bd v570 (0) (8) := (by rw [← ee571]; exact b528.2.2.2.2.1 6 (by decide))
      have q573 : elm (S524 7) 6 = v570.toInt := (elm_of c527 6).trans (congrArg Int32.toInt (ee571))
      obtain ⟨v574, ee575⟩ : ∃ z : Int32, f526 8 = z := ⟨_, rfl⟩
      have b576 : Bd v574 (0) (3) := (by rw [← ee575]; exact b528.2.2.2.2.2.2.1 8 (by decide))
      have q577 : elm (S524 7) 8 = v574.toInt := (elm_of c527 8).trans (congrArg Int32.toInt (ee575))
      obtain ⟨v578, ee579⟩ : ∃ z : Int32, f526 9 = z := ⟨_, rfl⟩
      have b580 : Bd v578 (0) (40) := (by rw [← ee579]; exact b528.2.2.2.2.2.2.2 9 (by decide))
      have q581 : elm (S524 7) 9 = v578.toInt := (elm_of c527 9).trans (congrArg Int32.toInt (ee579))
      have q582 : elm (S150 7) 10 = v28.toInt := (elm_of c522 10).trans (congrArg Int32.toInt (ee29))
      obtain ⟨v583, ee584⟩ : ∃ z : Int32, f526 10 = z := ⟨_, rfl⟩
      have b585 : Bd v583 (0) (12) := (by rw [← ee584]; exact b528.1 10 (by decide))
      have q586 : elm (S524 7) 10 = v583.toInt := (elm_of c527 10).trans (congrArg Int32.toInt (ee584))
      have q587 : elm (S150 7) 11 = v25.toInt := (elm_of c522 11).trans (congrArg Int32.toInt (ee26))
      obtain ⟨v588, ee589⟩ : ∃ z : Int32, f526 11 = z := ⟨_, rfl⟩
      have b590 : Bd v588 (0) (12) := (by rw [← ee589]; exact b528.2.1 11 (by decide))
      have q591 : elm (S524 7) 11 = v588.toInt := (elm_of c527 11).trans (congrArg Int32.toInt (ee589))
      have q592 : elm (S150 7) 13 = v31.toInt := (elm_of c522 13).trans (congrArg Int32.toInt (ee32))
      obtain ⟨v593, ee594⟩ : ∃ z : Int32, f526 13 = z := ⟨_, rfl⟩
      have b595 : Bd v593 (0) (12) := (by rw [← ee594]; exact b528.2.2.2.1 13 (by decide))
      have q596 : elm (S524 7) 13 = v593.toInt := (elm_of c527 13).trans (congrArg Int32.toInt (ee594))
      have q597 : elm (S150 7) 16 = v34.toInt := (elm_of c522 16).trans (congrArg Int32.toInt (ee35))
      obtain ⟨v598, ee599⟩ : ∃ z : Int32, f526 16 = z := ⟨_, rfl⟩
      have b600 : Bd v598 (0) (8) := (by rw [← ee599]; exact b528.2.2.2.2.1 16 (by decide))
      have q601 : elm (S524 7) 16 = v598.toInt := (elm_of c527 16).trans (congrArg Int32.toInt (ee599))
      have q602 : elm (S150 7) 18 = v37.toInt := (elm_of c522 18).trans (congrArg Int32.toInt (ee38))
      obtain ⟨v603, ee604⟩ : ∃ z : Int32, f526 18 = z := ⟨_, rfl⟩
      have b605 : Bd v603 (0) (3) := (by rw [← ee604]; exact b528.2.2.2.2.2.2.1 18 (by decide))
      have q606 : elm (S524 7) 18 = v603.toInt := (elm_of c527 18).trans (congrArg Int32.toInt (ee604))
      have q607 : elm (S150 7) 19 = v109.toInt := (elm_of c522 19).trans (congrArg Int32.toInt (ee110))
      obtain ⟨v608, ee609⟩ : ∃ z : Int32, f526 19 = z := ⟨_, rfl⟩
      have b610 : Bd v608 (0) (40) := (by rw [← ee609]; exact b528.2.2.2.2.2.2.2 19 (by decide))
      have q611 : elm (S524 7) 19 = v608.toInt := (elm_of c527 19).trans (congrArg Int32.toInt (ee609))
      have q612 : elm (S150 7) 20 = v46.toInt := (elm_of c522 20).trans (congrArg Int32.toInt (ee47))
      obtain ⟨v613, ee614⟩ : ∃ z : Int32, f526 20 = z := ⟨_, rfl⟩
      have b615 : Bd v613 (0) (12) := (by rw [← ee614]; exact b528.1 20 (by decide))
      have q616 : elm (S524 7) 20 = v613.toInt := (elm_of c527 20).trans (congrArg Int32.toInt (ee614))
      have q617 : elm (S150 7) 21 = v43.toInt := (elm_of c522 21).trans (congrArg Int32.toInt (ee44))
      obtain ⟨v618, ee619⟩ : ∃ z : Int32, f526 21 = z := ⟨_, rfl⟩
      have b620 : Bd v618 (0) (12) := (by rw [← ee619]; exact b528.2.1 21 (by decide))
      have q621 : elm (S524 7) 21 = v618.toInt := (elm_of c527 21).trans (congrArg Int32.toInt (ee619))
      have q622 : elm (S150 7) 23 = v49.toInt := (elm_of c522 23).trans (congrArg Int32.toInt (ee50))
      obtain ⟨v623, ee624⟩ : ∃ z : Int32, f526 23 = z := ⟨_, rfl⟩
      have b625 : Bd v623 (0) (12) := (by rw [← ee624]; exact b528.2.2.2.1 23 (by decide))
      have q626 : elm (S524 7) 23 = v623.toInt := (elm_of c527 23).trans (congrArg Int32.toInt (ee624))
      have q627 : elm (S150 7) 26 = v52.toInt := (elm_of c522 26).trans (congrArg Int32.toInt (ee53))
      obtain ⟨v628, ee629⟩ : ∃ z : Int32, f526 26 = z := ⟨_, rfl⟩
      have b630 : Bd v628 (0) (8) := (by rw [← ee629]; exact b528.2.2.2.2.1 26 (by decide))
      have q631 : elm (S524 7) 26 = v628.toInt := (elm_of c527 26).trans (congrArg Int32.toInt (ee629))
      have q632 : elm (S150 7) 28 = v55.toInt := (elm_of c522 28).trans (congrArg Int32.toInt (ee56))
      obtain ⟨v633, ee634⟩ : ∃ z : Int32, f526 28 = z := ⟨_, rfl⟩
      have b635 : Bd v633 (0) (3) := (by rw [← ee634]; exact b528.2.2.2.2.2.2.1 28 (by decide))
      have q636 : elm (S524 7) 28 = v633.toInt := (elm_of c527 28).trans (congrArg Int32.toInt (ee634))
      have q637 : elm (S150 7) 29 = v112.toInt := (elm_of c522 29).trans (congrArg Int32.toInt (ee113))
      obtain ⟨v638, ee639⟩ : ∃ z : Int32, f526 29 = z := ⟨_, rfl⟩
      have b640 : Bd v638 (0) (40) := (by rw [← ee639]; exact b528.2.2.2.2.2.2.2 29 (by decide))
      have q641 : elm (S524 7) 29 = v638.toInt := (elm_of c527 29).trans (congrArg Int32.toInt (ee639))
      have q642 : elm (S150 6) 0 = v22.toInt := (elm_of c523 0).trans (congrArg Int32.toInt (ee23))
      obtain ⟨f643, c644, b645⟩ := invM_6 hI
      obtain ⟨v646, ee647⟩ : ∃ z : Int32, f643 3 = z := ⟨_, rfl⟩
      have b648 : Bd v646 (0) (40000) := (by rw [← ee647]; exact b645 3)
      have q649 : elm (S524 6) 3 = v646.toInt := (elm_of c644 3).trans (congrArg Int32.toInt (ee647))
      obtain ⟨v650, ee651⟩ : ∃ z : Int32, f643 0 = z := ⟨_, rfl⟩
      have b652 : Bd v650 (0) (40000) := (by rw [← ee651]; exact b645 0)
      have q653 : elm (S524 6) 0 = v650.toInt := (elm_of c644 0).trans (congrArg Int32.toInt (ee651))
      have q654 : elm (S150 6) 1 = v40.toInt := (elm_of c523 1).trans (congrArg Int32.toInt (ee41))
      obtain ⟨v655, ee656⟩ : ∃ z : Int32, f643 1 = z := ⟨_, rfl⟩
      have b657 : Bd v655 (0) (40000) := (by rw [← ee656]; exact b645 1)
      have q658 : elm (S524 6) 1 = v655.toInt := (elm_of c644 1).trans (congrArg Int32.toInt (ee656))
      have q659 : elm (S150 6) 2 = v58.toInt := (elm_of c523 2).trans (congrArg Int32.toInt (ee59))
      obtain ⟨v660, ee661⟩ : ∃ z : Int32, f643 2 = z := ⟨_, rfl⟩
      have b662 : Bd v660 (0) (40000) := (by rw [← ee661]; exact b645 2)
      have q663 : elm (S524 6) 2 = v660.toInt := (elm_of c644 2).trans (congrArg Int32.toInt (ee661))
      refine lv_aload_n hx hb dX12_image_28 rfl (lv_at hl 0 rfl) ?_
      have c664 : S524 0 = .inr (12, [.int 0, .ref (ad 1), .ref (ad 2), .ref (ad 3), .ref (ad 4), .ref (ad 5), .int v122, .int v124, .int v126, .int v128, .int v129, .long w130, .int v131, .int v133, .int v134, .int v135, .ref (ad 6), .ref (ad 7), .ref (ad 8), .ref (ad 9), .ref (ad 10), .ref (ad 11), .ref (ad 12), .ref (ad 13), .ref (ad 14), .ref (ad 15), .int v136, .int v138, .ref (ad 16), .int v140, .int v142, .int v144, .int v146, .int v147, .ref (ad 17), .ref (ad 18), .int v148, .ref (ad 19)]) := ((o524 0 (by decide)).trans c151)
      refine xget E hQ 0 (by decide) c664 rfl 23 (by decide) q1491 rfl dX12_image_29 ?_
      refine lv_iload_n hx hb dX12_image_32 rfl (lv_at hl 1 rfl) ?_
      refine lv_iconst (v := 1) hx hb dX12_image_33 (by decide) ?_
      have c665 : S524 13 = .inl (g.2 3, 3, .inl f118) := ((o524 13 (by decide)).trans (up_ne eS150 (by decide) c119))
      refine xzast E hs hQ 13 (by decide) c665 (ib_in b164 (by decide) (by decide)) dX12_image_34 (fun H locs S666 eS666 hQ => ?_)
      have hI := invM_up_13 hI eS666 ⟨_, rfl, upd_b b120 (nar_z _)⟩
      have b668 : ∀ j, Bd ((upd f118 (a1 : Int32).toNatClampNeg (vp_nar .boolean 1)) j) (0) (1) := upd_b b120 (nar_z _)
      have c667 : S666 13 = .inl (g.2 3, 3, .inl (upd f118 (a1 : Int32).toNatClampNeg (vp_nar .boolean 1))) := up_at eS666 rfl
      refine lv_iconst (v := 0) hx hb dX12_image_35 (by decide) ?_
      have c669 : S666 7 = .inl (g.2 0, 50, .inl f526) := (up_ne eS666 (by decide) c527)
      have q670 : elm (S666 7) 1 = v562.toInt := (elm_of c669 1).trans (congrArg Int32.toInt (ee563))
      have q671 : elm (S666 7) 0 = v558.toInt := (elm_of c669 0).trans (congrArg Int32.toInt (ee559))
      have q672 : elm (S666 7) 3 = v566.toInt := (elm_of c669 3).trans (congrArg Int32.toInt (ee567))
      have q673 : elm (S666 7) 6 = v570.toInt := (elm_of c669 6).trans (congrArg Int32.toInt (ee571))
      have q674 : elm (S666 7) 8 = v574.toInt := (elm_of c669 8).trans (congrArg Int32.toInt (ee575))
      have c675 : S666 6 = .inl (g.2 0, 5, .inl f643) := (up_ne eS666 (by decide) c644)
      have q676 : elm (S666 6) 0 = v650.toInt := (elm_of c675 0).trans (congrArg Int32.toInt (ee651))
      have q677 : elm (S666 7) 11 = v588.toInt := (elm_of c669 11).trans (congrArg Int32.toInt (ee589))
      have q678 : elm (S666 7) 10 = v583.toInt := (elm_of c669 10).trans (congrArg Int32.toInt (ee584))
      have q679 : elm (S666 7) 13 = v593.toInt := (elm_of c669 13).trans (congrArg Int32.toInt (ee594))
      have q680 : elm (S666 7) 16 = v598.toInt := (elm_of c669 16).trans (congrArg Int32.toInt (ee599))
      have q681 : elm (S666 7) 18 = v603.toInt := (elm_of c669 18).trans (congrArg Int32.toInt (ee604))
      have q682 : elm (S666 6) 1 = v655.toInt := (elm_of c675 1).trans (congrArg Int32.toInt (ee656))
      have q683 : elm (S666 7) 21 = v618.toInt := (elm_of c669 21).trans (congrArg Int32.toInt (ee619))
      have q684 : elm (S666 7) 20 = v613.toInt := (elm_of c669 20).trans (congrArg Int32.toInt (ee614))
      have q685 : elm (S666 7) 23 = v623.toInt := (elm_of c669 23).trans (congrArg Int32.toInt (ee624))
      have q686 : elm (S666 7) 26 = v628.toInt := (elm_of c669 26).trans (congrArg Int32.toInt (ee629))
      have q687 : elm (S666 7) 28 = v633.toInt := (elm_of c669 28).trans (congrArg Int32.toInt (ee634))
      have q688 : elm (S666 6) 2 = v660.toInt := (elm_of c675 2).trans (congrArg Int32.toInt (ee661))
      have q689 : elm (S666 7) 31 = v534.toInt := (elm_of c669 31).trans (congrArg Int32.toInt (ee535))
      have q690 : elm (S666 7) 30 = v529.toInt := (elm_of c669 30).trans (congrArg Int32.toInt (ee530))
      have q691 : elm (S666 7) 33 = v539.toInt := (elm_of c669 33).trans (congrArg Int32.toInt (ee540))
      have q692 : elm (S666 7) 36 = v544.toInt := (elm_of c669 36).trans (congrArg Int32.toInt (ee545))
      have q693 : elm (S666 7) 38 = v549.toInt := (elm_of c669 38).trans (congrArg Int32.toInt (ee550))
      have q694 : elm (S666 6) 3 = v646.toInt := (elm_of c675 3).trans (congrArg Int32.toInt (ee647))
      exact xri E hr hlk hQ (⟨hI, (up_o (o_trans (up_o o_refl eS150 (by decide)) o524 (by decide)) eS666 (by decide)), (ib_wk (by decide : Bd 0 (0) (0)) (by decide) (by decide)), (by omega), (by omega), (by omega), (by omega), (by omega), (by omega), (by omega), (by omega), (by omega), (by omega), (by omega), (by omega), (by omega), (by omega), (by omega), (by omega), (by omega), (by omega), (by omega), (by omega), (at_tr u524_0 (up_eq (j := 7) eS666 (by decide)) (up_eq (j := 12) eS666 (by decide))), (at_tr u524_1 (up_eq (j := 7) eS666 (by decide)) (up_eq (j := 12) eS666 (by decide))), (at_tr u524_2 (up_eq (j := 7) eS666 (by decide)) (up_eq (j := 12) eS666 (by decide))), (at_tr u524_3 (up_eq (j := 7) eS666 (by decide)) (up_eq (j := 12) eS666 (by decide))), (by have h1 := u158_0; unfold InP at h1; unfold ansImage; rw [if_neg (by omega)]), (pu_st c119 c667 (by omega) (by decide))⟩) dX12_image_36
  · have h695 := ib_eq k159
    have b696 : Bd r158 (0) (0) := ⟨(b158).1, ((rf_eq b158 (by decide : Bd 0 (0) (0)) h695).1).2⟩
    clear g158_0
    refine lv_bipush (v := (-2)) hx hb dX12_image_17 (by decide) ?_
    have c697 : S150 7 = .inl (g.2 0, 50, .inl f1) := (up_ne eS150 (by decide) c2)
    have q698 : elm (S150 7) 1 = v4.toInt := (elm_of c697 1).trans (congrArg Int32.toInt (ee5))
    have q699 : elm (S150 7) 0 = v7.toInt := (elm_of c697 0).trans (congrArg Int32.toInt (ee8))
    have q700 : elm (S150 7) 3 = v10.toInt := (elm_of c697 3).trans (congrArg Int32.toInt (ee11))
    have q701 : elm (S150 7) 6 = v13.toInt := (elm_of c697 6).trans (congrArg Int32.toInt (ee14))
    have q702 : elm (S150 7) 8 = v16.toInt := (elm_of c697 8).trans (congrArg Int32.toInt (ee17))
    have c703 : S150 6 = .inl (g.2 0, 5, .inl f19) := (up_ne eS150 (by decide) c20)
    have q704 : elm (S150 6) 0 = v22.toInt := (elm_of c703 0).trans (congrArg Int32.toInt (ee23))
    have q705 : elm (S150 7) 11 = v25.toInt := (elm_of c697 11).trans (congrArg Int32.toInt (ee26))
    have q706 : elm (S150 7) 10 = v28.toInt := (elm_of c697 10).trans (congrArg Int32.toInt (ee29))
    have q707 : elm (S150 7) 13 = v31.toInt := (elm_of c697 13).trans (congrArg Int32.toInt (ee32))
    have q708 : elm (S150 7) 16 = v34.toInt := (elm_of c697 16).trans (congrArg Int32.toInt (ee35))
    have q709 : elm (S150 7) 18 = v37.toInt := (elm_of c697 18).trans (congrArg Int32.toInt (ee38))
    have q710 : elm (S150 6) 1 = v40.toInt := (elm_of c703 1).trans (congrArg Int32.toInt (ee41))
    have q711 : elm (S150 7) 21 = v43.toInt := (elm_of c697 21).trans (congrArg Int32.toInt (ee44))
    have q712 : elm (S150 7) 20 = v46.toInt := (elm_of c697 20).trans (congrArg Int32.toInt (ee47))
    have q713 : elm (S150 7) 23 = v49.toInt := (elm_of c697 23).trans (congrArg Int32.toInt (ee50))
    have q714 : elm (S150 7) 26 = v52.toInt := (elm_of c697 26).trans (congrArg Int32.toInt (ee53))
    have q715 : elm (S150 7) 28 = v55.toInt := (elm_of c697 28).trans (congrArg Int32.toInt (ee56))
    have q716 : elm (S150 6) 2 = v58.toInt := (elm_of c703 2).trans (congrArg Int32.toInt (ee59))
    have q717 : elm (S150 7) 31 = v61.toInt := (elm_of c697 31).trans (congrArg Int32.toInt (ee62))
    have q718 : elm (S150 7) 30 = v64.toInt := (elm_of c697 30).trans (congrArg Int32.toInt (ee65))
    have q719 : elm (S150 7) 33 = v67.toInt := (elm_of c697 33).trans (congrArg Int32.toInt (ee68))
    have q720 : elm (S150 7) 36 = v70.toInt := (elm_of c697 36).trans (congrArg Int32.toInt (ee71))
    have q721 : elm (S150 7) 38 = v73.toInt := (elm_of c697 38).trans (congrArg Int32.toInt (ee74))
    have q722 : elm (S150 6) 3 = v76.toInt := (elm_of c703 3).trans (congrArg Int32.toInt (ee77))
    exact xri E hr hlk hQ (⟨hI, (up_o o_refl eS150 (by decide)), (ib_wk (by decide : Bd (-2) (-2) (-2)) (by decide) (by decide)), (by omega), (by omega), (by omega), (by omega), (by omega), (by omega), (by omega), (by omega), (by omega), (by omega), (by omega), (by omega), (by omega), (by omega), (by omega), (by omega), (by omega), (by omega), (by omega), (by omega), (at_tr hAT0 (up_eq (j := 7) eS150 (by decide)) (up_eq (j := 12) eS150 (by decide))), (at_tr hAT1 (up_eq (j := 7) eS150 (by decide)) (up_eq (j := 12) eS150 (by decide))), (at_tr hAT2 (up_eq (j := 7) eS150 (by decide)) (up_eq (j := 12) eS150 (by decide))), (at_tr hAT3 (up_eq (j := 7) eS150 (by decide)) (up_eq (j := 12) eS150 (by decide))), (by have h1 := u158_0; unfold InP at h1; unfold ansImage; rw [if_pos (by omega)]), (pu_no (up_eq (j := 13) eS150 (by decide)) (by have h1 := u158_0; unfold InP at h1; omega))⟩) dX12_image_19
set_option maxHeartbeats 4000000 in
set_option maxRecDepth 100000 in
theorem gX12_back_0 (l : Launch) (g : GG) (ad : Nat → Nat) (hD : Dj ad 20) (S : SS) (hI : InvM g ad S) (a1 : Int32) (hq1 : 0 ≤ 12 * elm (S 7) 1 + (-1) * elm (S 7) 0) (hq2 : 0 ≤ 12 * elm (S 7) 3 + (-1) * elm (S 7) 0) (hq3 : 0 ≤ 8 * elm (S 7) 0 + (-1) * elm (S 7) 6) (hq4 : 0 ≤ 3 * elm (S 7) 0 + (-1) * elm (S 7) 8) (hq5 : 0 ≤ 40000 * elm (S 7) 0 + (-1) * elm (S 6) 0) (hq6 : 0 ≤ 12 * elm (S 7) 11 + (-1) * elm (S 7) 10) (hq7 : 0 ≤ 12 * elm (S 7) 13 + (-1) * elm (S 7) 10) (hq8 : 0 ≤ 8 * elm (S 7) 10 + (-1) * elm (S 7) 16) (hq9 : 0 ≤ 3 * elm (S 7) 10 + (-1) * elm (S 7) 18) (hq10 : 0 ≤ 40000 * elm (S 7) 10 + (-1) * elm (S 6) 1) (hq11 : 0 ≤ 12 * elm (S 7) 21 + (-1) * elm (S 7) 20) (hq12 : 0 ≤ 12 * elm (S 7) 23 + (-1) * elm (S 7) 20) (hq13 : 0 ≤ 8 * elm (S 7) 20 + (-1) * elm (S 7) 26) (hq14 : 0 ≤ 3 * elm (S 7) 20 + (-1) * elm (S 7) 28) (hq15 : 0 ≤ 40000 * elm (S 7) 20 + (-1) * elm (S 6) 2) (hq16 : 0 ≤ 12 * elm (S 7) 31 + (-1) * elm (S 7) 30) (hq17 : 0 ≤ 12 * elm (S 7) 33 + (-1) * elm (S 7) 30) (hq18 : 0 ≤ 8 * elm (S 7) 30 + (-1) * elm (S 7) 36) (hq19 : 0 ≤ 3 * elm (S 7) 30 + (-1) * elm (S 7) 38) (hq20 : 0 ≤ 40000 * elm (S 7) 30 + (-1) * elm (S 6) 3) (hAT0 : ATp (S 7) (S 12) 0) (hAT1 : ATp (S 7) (S 12) 1) (hAT2 : ATp (S 7) (S 12) 2) (hAT3 : ATp (S 7) (S 12) 3) : Met l yX12_back (wG (.code yX12_back cX12_back 2 (some .int))) (Rm 2) (XPre g ad 20 S [.ref (ad 0), .int a1]) (va_Qi (fun r S' => InvM g ad S' ∧ (∀ j, j ∉ ([0, 6, 7, 8, 9, 10, 11, 12] : List Nat) → S' j = S j) ∧ Bd r (-6) (0) ∧ (0 ≤ 12 * elm (S' 7) 1 + (-1) * elm (S' 7) 0) ∧ (0 ≤ 12 * elm (S' 7) 3 + (-1) * elm (S' 7) 0) ∧ (0 ≤ 8 * elm (S' 7) 0 + (-1) * elm (S' 7) 6) ∧ (0 ≤ 3 * elm (S' 7) 0 + (-1) * elm (S' 7) 8) ∧ (0 ≤ 40000 * elm (S' 7) 0 + (-1) * elm (S' 6) 0) ∧ (0 ≤ 12 * elm (S' 7) 11 + (-1) * elm (S' 7) 10) ∧ (0 ≤ 12 * elm (S' 7) 13 + (-1) * elm (S' 7) 10) ∧ (0 ≤ 8 * elm (S' 7) 10 + (-1) * elm (S' 7) 16) ∧ (0 ≤ 3 * elm (S' 7) 10 + (-1) * elm (S' 7) 18) ∧ (0 ≤ 40000 * elm (S' 7) 10 + (-1) * elm (S' 6) 1) ∧ (0 ≤ 12 * elm (S' 7) 21 + (-1) * elm (S' 7) 20) ∧ (0 ≤ 12 * elm (S' 7) 23 + (-1) * elm (S' 7) 20) ∧ (0 ≤ 8 * elm (S' 7) 20 + (-1) * elm (S' 7) 26) ∧ (0 ≤ 3 * elm (S' 7) 20 + (-1) * elm (S' 7) 28) ∧ (0 ≤ 40000 * elm (S' 7) 20 + (-1) * elm (S' 6) 2) ∧ (0 ≤ 12 * elm (S' 7) 31 + (-1) * elm (S' 7) 30) ∧ (0 ≤ 12 * elm (S' 7) 33 + (-1) * elm (S' 7) 30) ∧ (0 ≤ 8 * elm (S' 7) 30 + (-1) * elm (S' 7) 36) ∧ (0 ≤ 3 * elm (S' 7) 30 + (-1) * elm (S' 7) 38) ∧ (0 ≤ 40000 * elm (S' 7) 30 + (-1) * elm (S' 6) 3) ∧ (ATp (S' 7) (S' 12) 0) ∧ (ATp (S' 7) (S' 12) 1) ∧ (ATp (S' 7) (S' 12) 2) ∧ (ATp (S' 7) (S' 12) 3) ∧ (r = ansBk a1 (elm (S 13) a1.toInt.toNat))) (QB g ad 20) (FA ad 20)) 0 0 (FA ad 20) := by
  refine xmet cX12_back "EbbWreckModel" (by decide) rfl (Nat.le_of_ble_eq_true rfl) (fun p e s m below meth c E hr hlk hml hQ ls hl => ?_)
  have hx := E.1
  have hb := E.2.1
  have hs : Sp ad 20 (FA ad 20) := Sp.fa hD
  have hl : lv_has ls 2 [(0, .ref (ad 0)), (1, .int a1)] := hl
  obtain ⟨f1, c2, b3⟩ := invM_7 hI
  obtain ⟨v4, ee5⟩ : ∃ z : Int32, f1 1 = z := ⟨_, rfl⟩
  have b6 : Bd v4 (0) (12) := (by rw [← ee5]; exact b3.2.1 1 (by decide))
  obtain ⟨v7, ee8⟩ : ∃ z : Int32, f1 0 = z := ⟨_, rfl⟩
  have b9 : Bd v7 (0) (12) := (by rw [← ee8]; exact b3.1 0 (by decide))
  obtain ⟨v10, ee11⟩ : ∃ z : Int32, f1 3 = z := ⟨_, rfl⟩
  have b12 : Bd v10 (0) (12) := (by rw [← ee11]; exact b3.2.2.2.1 3 (by decide))
  obtain ⟨v13, ee14⟩ : ∃ z : Int32, f1 6 = z := ⟨_, rfl⟩
  have b15 : Bd v13 (0) (8) := (by rw [← ee14]; exact b3.2.2.2.2.1 6 (by decide))
  obtain ⟨v16, ee17⟩ : ∃ z : Int32, f1 8 = z := ⟨_, rfl⟩
  have b18 : Bd v16 (0) (3) := (by rw [← ee17]; exact b3.2.2.2.2.2.2.1 8 (by decide))
  obtain ⟨f19, c20, b21⟩ := invM_6 hI
  obtain ⟨v22, ee23⟩ : ∃ z : Int32, f19 0 = z := ⟨_, rfl⟩
  have b24 : Bd v22 (0) (40000) := (by rw [← ee23]; exact b21 0)
  obtain ⟨v25, ee26⟩ : ∃ z : Int32, f1 11 = z := ⟨_, rfl⟩
  have b27 : Bd v25 (0) (12) := (by rw [← ee26]; exact b3.2.1 11 (by decide))
  obtain ⟨v28, ee29⟩ : ∃ z : Int32, f1 10 = z := ⟨_, rfl⟩
  have b30 : Bd v28 (0) (12) := (by rw [← ee29]; exact b3.1 10 (by decide))
  obtain ⟨v31, ee32⟩ : ∃ z : Int32, f1 13 = z := ⟨_, rfl⟩
  have b33 : Bd v31 (0) (12) := (by rw [← ee32]; exact b3.2.2.2.1 13 (by decide))
  obtain ⟨v34, ee35⟩ : ∃ z : Int32, f1 16 = z := ⟨_, rfl⟩
  have b36 : Bd v34 (0) (8) := (by rw [← ee35]; exact b3.2.2.2.2.1 16 (by decide))
  obtain ⟨v37, ee38⟩ : ∃ z : Int32, f1 18 = z := ⟨_, rfl⟩
  have b39 : Bd v37 (0) (3) := (by rw [← ee38]; exact b3.2.2.2.2.2.2.1 18 (by decide))
  obtain ⟨v40, ee41⟩ : ∃ z : Int32, f19 1 = z := ⟨_, rfl⟩
  have b42 : Bd v40 (0) (40000) := (by rw [← ee41]; exact b21 1)
  obtain ⟨v43, ee44⟩ : ∃ z : Int32, f1 21 = z := ⟨_, rfl⟩
  have b45 : Bd v43 (0) (12) := (by rw [← ee44]; exact b3.2.1 21 (by decide))
  obtain ⟨v46, ee47⟩ : ∃ z : Int32, f1 20 = z := ⟨_, rfl⟩
  have b48 : Bd v46 (0) (12) := (by rw [← ee47]; exact b3.1 20 (by decide))
  obtain ⟨v49, ee50⟩ : ∃ z : Int32, f1 23 = z := ⟨_, rfl⟩
  have b51 : Bd v49 (0) (12) := (by rw [← ee50]; exact b3.2.2.2.1 23 (by decide))
  obtain ⟨v52, ee53⟩ : ∃ z : Int32, f1 26 = z := ⟨_, rfl⟩
  have b54 : Bd v52 (0) (8) := (by rw [← ee53]; exact b3.2.2.2.2.1 26 (by decide))
  obtain ⟨v55, ee56⟩ : ∃ z : Int32, f1 28 = z := ⟨_, rfl⟩
  have b57 : Bd v55 (0) (3) := (by rw [← ee56]; exact b3.2.2.2.2.2.2.1 28 (by decide))
  obtain ⟨v58, ee59⟩ : ∃ z : Int32, f19 2 = z := ⟨_, rfl⟩
  have b60 : Bd v58 (0) (40000) := (by rw [← ee59]; exact b21 2)
  obtain ⟨v61, ee62⟩ : ∃ z : Int32, f1 31 = z := ⟨_, rfl⟩
  have b63 : Bd v61 (0) (12) := (by rw [← ee62]; exact b3.2.1 31 (by decide))
  obtain ⟨v64, ee65⟩ : ∃ z : Int32, f1 30 = z := ⟨_, rfl⟩
  have b66 : Bd v64 (0) (12) := (by rw [← ee65]; exact b3.1 30 (by decide))
  obtain ⟨v67, ee68⟩ : ∃ z : Int32, f1 33 = z := ⟨_, rfl⟩
  have b69 : Bd v67 (0) (12) := (by rw [← ee68]; exact b3.2.2.2.1 33 (by decide))
  obtain ⟨v70, ee71⟩ : ∃ z : Int32, f1 36 = z := ⟨_, rfl⟩
  have b72 : Bd v70 (0) (8) := (by rw [← ee71]; exact b3.2.2.2.2.1 36 (by decide))
  obtain ⟨v73, ee74⟩ : ∃ z : Int32, f1 38 = z := ⟨_, rfl⟩
  have b75 : Bd v73 (0) (3) := (by rw [← ee74]; exact b3.2.2.2.2.2.2.1 38 (by decide))
  obtain ⟨v76, ee77⟩ : ∃ z : Int32, f19 3 = z := ⟨_, rfl⟩
  have b78 : Bd v76 (0) (40000) := (by rw [← ee77]; exact b21 3)
  have q79 : elm (S 7) 1 = v4.toInt := (elm_of c2 1).trans (congrArg Int32.toInt (ee5))
  have q80 : elm (S 7) 0 = v7.toInt := (elm_of c2 0).trans (congrArg Int32.toInt (ee8))
  have q81 : elm (S 7) 3 = v10.toInt := (elm_of c2 3).trans (congrArg Int32.toInt (ee11))
  have q82 : elm (S 7) 6 = v13.toInt := (elm_of c2 6).trans (congrArg Int32.toInt (ee14))
  have q83 : elm (S 7) 8 = v16.toInt := (elm_of c2 8).trans (congrArg Int32.toInt (ee17))
  have q84 : elm (S 6) 0 = v22.toInt := (elm_of c20 0).trans (congrArg Int32.toInt (ee23))
  have q85 : elm (S 7) 11 = v25.toInt := (elm_of c2 11).trans (congrArg Int32.toInt (ee26))
  have q86 : elm (S 7) 10 = v28.toInt := (elm_of c2 10).trans (congrArg Int32.toInt (ee29))
  have q87 : elm (S 7) 13 = v31.toInt := (elm_of c2 13).trans (congrArg Int32.toInt (ee32))
  have q88 : elm (S 7) 16 = v34.toInt := (elm_of c2 16).trans (congrArg Int32.toInt (ee35))
  have q89 : elm (S 7) 18 = v37.toInt := (elm_of c2 18).trans (congrArg Int32.toInt (ee38))
  have q90 : elm (S 6) 1 = v40.toInt := (elm_of c20 1).trans (congrArg Int32.toInt (ee41))
  have q91 : elm (S 7) 21 = v43.toInt := (elm_of c2 21).trans (congrArg Int32.toInt (ee44))
  have q92 : elm (S 7) 20 = v46.toInt := (elm_of c2 20).trans (congrArg Int32.toInt (ee47))
  have q93 : elm (S 7) 23 = v49.toInt := (elm_of c2 23).trans (congrArg Int32.toInt (ee50))
  have q94 : elm (S 7) 26 = v52.toInt := (elm_of c2 26).trans (congrArg Int32.toInt (ee53))
  have q95 : elm (S 7) 28 = v55.toInt := (elm_of c2 28).trans (congrArg Int32.toInt (ee56))
  have q96 : elm (S 6) 2 = v58.toInt := (elm_of c20 2).trans (congrArg Int32.toInt (ee59))
  have q97 : elm (S 7) 31 = v61.toInt := (elm_of c2 31).trans (congrArg Int32.toInt (ee62))
  have q98 : elm (S 7) 30 = v64.toInt := (elm_of c2 30).trans (congrArg Int32.toInt (ee65))
  have q99 : elm (S 7) 33 = v67.toInt := (elm_of c2 33).trans (congrArg Int32.toInt (ee68))
  have q100 : elm (S 7) 36 = v70.toInt := (elm_of c2 36).trans (congrArg Int32.toInt (ee71))
  have q101 : elm (S 7) 38 = v73.toInt := (elm_of c2 38).trans (congrArg Int32.toInt (ee74))
  have q102 : elm (S 6) 3 = v76.toInt := (elm_of c20 3).trans (congrArg Int32.toInt (ee77))
  obtain ⟨f103, c104, b105⟩ := invM_12 hI
  obtain ⟨v106, ee107⟩ : ∃ z : Int32, f1 9 = z := ⟨_, rfl⟩
  have b108 : Bd v106 (0) (40) := (by rw [← ee107]; exact b3.2.2.2.2.2.2.2 9 (by decide))
  obtain ⟨v109, ee110⟩ : ∃ z : Int32, f1 19 = z := ⟨_, rfl⟩
  have b111 : Bd v109 (0) (40) := (by rw [← ee110]; exact b3.2.2.2.2.2.2.2 19 (by decide))
  obtain ⟨v112, ee113⟩ : ∃ z : Int32, f1 29 = z := ⟨_, rfl⟩
  have b114 : Bd v112 (0) (40) := (by rw [← ee113]; exact b3.2.2.2.2.2.2.2 29 (by decide))
  obtain ⟨v115, ee116⟩ : ∃ z : Int32, f1 39 = z := ⟨_, rfl⟩
  have b117 : Bd v115 (0) (40) := (by rw [← ee116]; exact b3.2.2.2.2.2.2.2 39 (by decide))
  refine lv_aload_n hx hb dX12_back_0 rfl (lv_at hl 0 rfl) ?_
  refine lv_iconst (v := 0) hx hb dX12_back_1 (by decide) ?_
  obtain ⟨v118, v119, v121, v123, v125, v126, w127, v128, v130, v131, v132, v133, v135, v137, v139, v141, v143, v144, v145, c146, b120, b122, b124, b129, b134, b136, b138, b140, b142⟩ := invM_0 hI
  have c146 : S 0 = .inr (12, [.int v118, .ref (ad 1), .ref (ad 2), .ref (ad 3), .ref (ad 4), .ref (ad 5), .int v119, .int v121, .int v123, .int v125, .int v126, .long w127, .int v128, .int v130, .int v131, .int v132, .ref (ad 6), .ref (ad 7), .ref (ad 8), .ref (ad 9), .ref (ad 10), .ref (ad 11), .ref (ad 12), .ref (ad 13), .ref (ad 14), .ref (ad 15), .int v133, .int v135, .ref (ad 16), .int v137, .int v139, .int v141, .int v143, .int v144, .ref (ad 17), .ref (ad 18), .int v145, .ref (ad 19)]) := c146
  refine xputi E hs hQ 0 (by decide) c146 rfl 0 (by decide) q1468 rfl rfl (Nat.le_of_ble_eq_true rfl) dX12_back_2 (fun H locs S147 eS147 hQ => ?_)
  have hI := invM_up_0 hI eS147 ⟨0, v119, v121, v123, v125, v126, w127, v128, v130, v131, v132, v133, v135, v137, v139, v141, v143, v144, v145, rfl, b120, b122, b124, b129, b134, b136, b138, b140, b142⟩
  have c148 : S147 0 = .inr (12, [.int 0, .ref (ad 1), .ref (ad 2), .ref (ad 3), .ref (ad 4), .ref (ad 5), .int v119, .int v121, .int v123, .int v125, .int v126, .long w127, .int v128, .int v130, .int v131, .int v132, .ref (ad 6), .ref (ad 7), .ref (ad 8), .ref (ad 9), .ref (ad 10), .ref (ad 11), .ref (ad 12), .ref (ad 13), .ref (ad 14), .ref (ad 15), .int v133, .int v135, .ref (ad 16), .int v137, .int v139, .int v141, .int v143, .int v144, .ref (ad 17), .ref (ad 18), .int v145, .ref (ad 19)]) := up_at eS147 rfl
  refine lv_iload_n hx hb dX12_back_5 rfl (lv_at hl 1 rfl) ?_
  refine lv_i2l hx hb dX12_back_6 rfl ?_
  refine lv_topl (fun w149 e150 => ?_)
  have t151 : w149.toInt = a1.toInt := by rw [e150]; exact i2l_i _
  have b152 : BdL w149 (-2147483648) (2147483647) := (by have h1 := ((ib_full a1)).1; have h2 := ((ib_full a1)).2; exact ⟨by omega, by omega⟩)
  refine lv_lconst (v := 0) hx hb dX12_back_7 (by decide) ?_
  refine lv_ldc2 (v := 2) hx hb E.2.2.1 (E.2.2.2.1 _ q1754) dX12_back_8 ?_
  have q153 : (0 : Int64).toInt = 0 := by decide
  have q154 : (2 : Int64).toInt = 2 := by decide
  refine xcSi E hs hQ hml hl.1 (gX12_in l g ad hD S147 hI w149 0 2) mX12_in q1591 rfl ⟨(Nat.le_of_ble_eq_true rfl), (Nat.le_of_ble_eq_true rfl)⟩ ⟨(Nat.le_of_ble_eq_true rfl), (Nat.le_of_ble_eq_true rfl)⟩ (Nat.le_of_ble_eq_true rfl) rfl dX12_back_11 (fun r155 S155 H locs hp155 hQ => ?_)
  obtain ⟨rfl, b155, g155_0, u155_0⟩ := hp155
  refine lv_if_ne (tgt := 20) hx hb dX12_back_14 (by decide) (fun k156 => ?_) (fun k156 => ?_)
  · have h157 := ib_ne k156
    have b158 : Bd r155 (1) (1) := rf_nlo b155 (by decide : Bd 0 (0) (0)) h157
    have g159 := g155_0.resolve_left (by omega)
    clear g155_0
    have b160 : BdL w149 (0) (2) := ⟨by omega, by omega⟩
    have b161 : Bd a1 (0) (2) := ⟨by omega, by omega⟩
    refine lv_aload_n hx hb dX12_back_20 rfl (lv_at hl 0 rfl) ?_
    refine xget E hQ 0 (by decide) c148 rfl 23 (by decide) q1491 rfl dX12_back_21 ?_
    refine lv_iload_n hx hb dX12_back_24 rfl (lv_at hl 1 rfl) ?_
    obtain ⟨f162, c163, b164⟩ := invM_13 hI
    refine xzald E hQ 13 (by decide) c163 (ib_in b161 (by decide) (by decide)) dX12_back_25 ?_
    refine lv_topi (fun z165 e166 => ?_)
    have b167 : Bd z165 (0) (1) := (by rw [e166]; exact b164 _)
    have el168 : elm (S147 13) a1.toInt.toNat = z165.toInt := elm_ld c163 e166
    refine lv_if_ne (tgt := 32) hx hb dX12_back_26 (by decide) (fun k169 => ?_) (fun k169 => ?_)
    · have h170 := ib_ne k169
      have b171 : Bd z165 (1) (1) := rf_nlo b167 (by decide : Bd 0 (0) (0)) h170
      refine lv_aload_n hx hb dX12_back_32 rfl (lv_at hl 0 rfl) ?_
      refine lv_iconst (v := 1) hx hb dX12_back_33 (by decide) ?_
      refine lv_iload_n hx hb dX12_back_34 rfl (lv_at hl 1 rfl) ?_
      refine lv_iadd hx hb dX12_back_35 ?_
      refine lv_topi (fun z172 e173 => ?_)
      have t174 := ib_add e173 (by decide : Bd 1 (1) (1)) b161 (by decide) (by decide)
      have b175 : Bd z172 (1) (3) := ib_addb t174 (by decide : Bd 1 (1) (1)) b161
      have t174 : z172.toInt = 1 + a1.toInt := fold_add t174 (by decide) rfl
      refine lv_iconst (v := 0) hx hb dX12_back_36 (by decide) ?_
      rcases bd_r13 b175 with h176 | h176 | h176
      · subst h176
        have q177 : (1 : Int32).toInt = 1 := by decide
        have q178 : (0 : Int32).toInt = 0 := by decide
        have c179 : S147 7 = .inl (g.2 0, 50, .inl f1) := (up_ne eS147 (by decide) c2)
        have c180 : S147 6 = .inl (g.2 0, 5, .inl f19) := (up_ne eS147 (by decide) c20)
        refine xcVv E hs hQ hml hl.1 0 (gX12_copyShore_1_0 l g ad hD S147 hI (at_tr hAT0 (up_eq (j := 7) eS147 (by decide)) (up_eq (j := 12) eS147 (by decide))) (at_tr hAT1 (up_eq (j := 7) eS147 (by decide)) (up_eq (j := 12) eS147 (by decide))) (at_tr hAT2 (up_eq (j := 7) eS147 (by decide)) (up_eq (j := 12) eS147 (by decide))) (at_tr hAT3 (up_eq (j := 7) eS147 (by decide)) (up_eq (j := 12) eS147 (by decide)))) mX12_copyShore q1739 (by decide) c148 rfl rfl ⟨(Nat.le_of_ble_eq_true rfl), (Nat.le_of_ble_eq_true rfl)⟩ ⟨(Nat.le_of_ble_eq_true rfl), (Nat.le_of_ble_eq_true rfl)⟩ (Nat.le_of_ble_eq_true rfl) rfl dX12_back_37 (fun S181 H locs hp181 hQ _ => ?_)
        obtain ⟨hI, o181, g181_0, g181_1, g181_2, g181_3, g181_4, g181_5, g181_6, g181_7, g181_8, g181_9, g181_10, g181_11, g181_12, g181_13, g181_14, g181_15, g181_16, g181_17, g181_18, g181_19, g181_20, g181_21, g181_22, g181_23, g181_24, g181_25, g181_26, g181_27, u181_0, u181_1, u181_2, u181_3⟩ := hp181
        have q182 : elm (S147 7) 10 = v28.toInt := (elm_of c179 10).trans (congrArg Int32.toInt (ee29))
        obtain ⟨f183, c184, b185⟩ := invM_7 hI
        obtain ⟨v186, ee187⟩ : ∃ z : Int32, f183 0 = z := ⟨_, rfl⟩
        have b188 : Bd v186 (0) (12) := (by rw [← ee187]; exact b185.1 0 (by decide))
        have q189 : elm (S181 7) 0 = v186.toInt := (elm_of c184 0).trans (congrArg Int32.toInt (ee187))
        have q190 : elm (S147 7) 11 = v25.toInt := (elm_of c179 11).trans (congrArg Int32.toInt (ee26))
        obtain ⟨v191, ee192⟩ : ∃ z : Int32, f183 1 = z := ⟨_, rfl⟩
        have b193 : Bd v191 (0) (12) := (by rw [← ee192]; exact b185.2.1 1 (by decide))
        have q194 : elm (S181 7) 1 = v191.toInt := (elm_of c184 1).trans (congrArg Int32.toInt (ee192))
        have q195 : elm (S147 7) 13 = v31.toInt := (elm_of c179 13).trans (congrArg Int32.toInt (ee32))
        obtain ⟨v196, ee197⟩ : ∃ z : Int32, f183 3 = z := ⟨_, rfl⟩
        have b198 : Bd v196 (0) (12) := (by rw [← ee197]; exact b185.2.2.2.1 3 (by decide))
        have q199 : elm (S181 7) 3 = v196.toInt := (elm_of c184 3).trans (congrArg Int32.toInt (ee197))
        have q200 : elm (S147 7) 16 = v34.toInt := (elm_of c179 16).trans (congrArg Int32.toInt (ee35))
        obtain ⟨v201, ee202⟩ : ∃ z : Int32, f183 6 = z := ⟨_, rfl⟩
        have b203 : Bd v201 (0) (8) := (by rw [← ee202]; exact b185.2.2.2.2.1 6 (by decide))
        have q204 : elm (S181 7) 6 = v201.toInt := (elm_of c184 6).trans (congrArg Int32.toInt (ee202))
        have q205 : elm (S147 7) 18 = v37.toInt := (elm_of c179 18).trans (congrArg Int32.toInt (ee38))
        obtain ⟨v206, ee207⟩ : ∃ z : Int32, f183 8 = z := ⟨_, rfl⟩
        have b208 : Bd v206 (0) (3) := (by rw [← ee207]; exact b185.2.2.2.2.2.2.1 8 (by decide))
        have q209 : elm (S181 7) 8 = v206.toInt := (elm_of c184 8).trans (congrArg Int32.toInt (ee207))
        have q210 : elm (S147 7) 19 = v109.toInt := (elm_of c179 19).trans (congrArg Int32.toInt (ee110))
        obtain ⟨v211, ee212⟩ : ∃ z : Int32, f183 9 = z := ⟨_, rfl⟩
        have b213 : Bd v211 (0) (40) := (by rw [← ee212]; exact b185.2.2.2.2.2.2.2 9 (by decide))
        have q214 : elm (S181 7) 9 = v211.toInt := (elm_of c184 9).trans (congrArg Int32.toInt (ee212))
        obtain ⟨v215, ee216⟩ : ∃ z : Int32, f183 10 = z := ⟨_, rfl⟩
        have b217 : Bd v215 (0) (12) := (by rw [← ee216]; exact b185.1 10 (by decide))
        have q218 : elm (S181 7) 10 = v215.toInt := (elm_of c184 10).trans (congrArg Int32.toInt (ee216))
        obtain ⟨v219, ee220⟩ : ∃ z : Int32, f183 11 = z := ⟨_, rfl⟩
        have b221 : Bd v219 (0) (12) := (by rw [← ee220]; exact b185.2.1 11 (by decide))
        have q222 : elm (S181 7) 11 = v219.toInt := (elm_of c184 11).trans (congrArg Int32.toInt (ee220))
        obtain ⟨v223, ee224⟩ : ∃ z : Int32, f183 13 = z := ⟨_, rfl⟩
        have b225 : Bd v223 (0) (12) := (by rw [← ee224]; exact b185.2.2.2.1 13 (by decide))
        have q226 : elm (S181 7) 13 = v223.toInt := (elm_of c184 13).trans (congrArg Int32.toInt (ee224))
        obtain ⟨v227, ee228⟩ : ∃ z : Int32, f183 16 = z := ⟨_, rfl⟩
        have b229 : Bd v227 (0) (8) := (by rw [← ee228]; exact b185.2.2.2.2.1 16 (by decide))
        have q230 : elm (S181 7) 16 = v227.toInt := (elm_of c184 16).trans (congrArg Int32.toInt (ee228))
        obtain ⟨v231, ee232⟩ : ∃ z : Int32, f183 18 = z := ⟨_, rfl⟩
        have b233 : Bd v231 (0) (3) := (by rw [← ee232]; exact b185.2.2.2.2.2.2.1 18 (by decide))
        have q234 : elm (S181 7) 18 = v231.toInt := (elm_of c184 18).trans (congrArg Int32.toInt (ee232))
        obtain ⟨v235, ee236⟩ : ∃ z : Int32, f183 19 = z := ⟨_, rfl⟩
        have b237 : Bd v235 (0) (40) := (by rw [← ee236]; exact b185.2.2.2.2.2.2.2 19 (by decide))
        have q238 : elm (S181 7) 19 = v235.toInt := (elm_of c184 19).trans (congrArg Int32.toInt (ee236))
        have q239 : elm (S147 7) 20 = v46.toInt := (elm_of c179 20).trans (congrArg Int32.toInt (ee47))
        obtain ⟨v240, ee241⟩ : ∃ z : Int32, f183 20 = z := ⟨_, rfl⟩
        have b242 : Bd v240 (0) (12) := (by rw [← ee241]; exact b185.1 20 (by decide))
        have q243 : elm (S181 7) 20 = v240.toInt := (elm_of c184 20).trans (congrArg Int32.toInt (ee241))
        have q244 : elm (S147 7) 21 = v43.toInt := (elm_of c179 21).trans (congrArg Int32.toInt (ee44))
        obtain ⟨v245, ee246⟩ : ∃ z : Int32, f183 21 = z := ⟨_, rfl⟩
        have b247 : Bd v245 (0) (12) := (by rw [← ee246]; exact b185.2.1 21 (by decide))
        have q248 : elm (S181 7) 21 = v245.toInt := (elm_of c184 21).trans (congrArg Int32.toInt (ee246))
        have q249 : elm (S147 7) 23 = v49.toInt := (elm_of c179 23).trans (congrArg Int32.toInt (ee50))
        obtain ⟨v250, ee251⟩ : ∃ z : Int32, f183 23 = z := ⟨_, rfl⟩
        have b252 : Bd v250 (0) (12) := (by rw [← ee251]; exact b185.2.2.2.1 23 (by decide))
        have q253 : elm (S181 7) 23 = v250.toInt := (elm_of c184 23).trans (congrArg Int32.toInt (ee251))
        have q254 : elm (S147 7) 26 = v52.toInt := (elm_of c179 26).trans (congrArg Int32.toInt (ee53))
        obtain ⟨v255, ee256⟩ : ∃ z : Int32, f183 26 = z := ⟨_, rfl⟩
        have b257 : Bd v255 (0) (8) := (by rw [← ee256]; exact b185.2.2.2.2.1 26 (by decide))
        have q258 : elm (S181 7) 26 = v255.toInt := (elm_of c184 26).trans (congrArg Int32.toInt (ee256))
        have q259 : elm (S147 7) 28 = v55.toInt := (elm_of c179 28).trans (congrArg Int32.toInt (ee56))
        obtain ⟨v260, ee261⟩ : ∃ z : Int32, f183 28 = z := ⟨_, rfl⟩
        have b262 : Bd v260 (0) (3) := (by rw [← ee261]; exact b185.2.2.2.2.2.2.1 28 (by decide))
        have q263 : elm (S181 7) 28 = v260.toInt := (elm_of c184 28).trans (congrArg Int32.toInt (ee261))
        have q264 : elm (S147 7) 29 = v112.toInt := (elm_of c179 29).trans (congrArg Int32.toInt (ee113))
        obtain ⟨v265, ee266⟩ : ∃ z : Int32, f183 29 = z := ⟨_, rfl⟩
        have b267 : Bd v265 (0) (40) := (by rw [← ee266]; exact b185.2.2.2.2.2.2.2 29 (by decide))
        have q268 : elm (S181 7) 29 = v265.toInt := (elm_of c184 29).trans (congrArg Int32.toInt (ee266))
        have q269 : elm (S147 7) 30 = v64.toInt := (elm_of c179 30).trans (congrArg Int32.toInt (ee65))
        obtain ⟨v270, ee271⟩ : ∃ z : Int32, f183 30 = z := ⟨_, rfl⟩
        have b272 : Bd v270 (0) (12) := (by rw [← ee271]; exact b185.1 30 (by decide))
        have q273 : elm (S181 7) 30 = v270.toInt := (elm_of c184 30).trans (congrArg Int32.toInt (ee271))
        have q274 : elm (S147 7) 31 = v61.toInt := (elm_of c179 31).trans (congrArg Int32.toInt (ee62))
        obtain ⟨v275, ee276⟩ : ∃ z : Int32, f183 31 = z := ⟨_, rfl⟩
        have b277 : Bd v275 (0) (12) := (by rw [← ee276]; exact b185.2.1 31 (by decide))
        have q278 : elm (S181 7) 31 = v275.toInt := (elm_of c184 31).trans (congrArg Int32.toInt (ee276))
        have q279 : elm (S147 7) 33 = v67.toInt := (elm_of c179 33).trans (congrArg Int32.toInt (ee68))
        obtain ⟨v280, ee281⟩ : ∃ z : Int32, f183 33 = z := ⟨_, rfl⟩
        have b282 : Bd v280 (0) (12) := (by rw [← ee281]; exact b185.2.2.2.1 33 (by decide))
        have q283 : elm (S181 7) 33 = v280.toInt := (elm_of c184 33).trans (congrArg Int32.toInt (ee281))
        have q284 : elm (S147 7) 36 = v70.toInt := (elm_of c179 36).trans (congrArg Int32.toInt (ee71))
        obtain ⟨v285, ee286⟩ : ∃ z : Int32, f183 36 = z := ⟨_, rfl⟩
        have b287 : Bd v285 (0) (8) := (by rw [← ee286]; exact b185.2.2.2.2.1 36 (by decide))
        have q288 : elm (S181 7) 36 = v285.toInt := (elm_of c184 36).trans (congrArg Int32.toInt (ee286))
        have q289 : elm (S147 7) 38 = v73.toInt := (elm_of c179 38).trans (congrArg Int32.toInt (ee74))
        obtain ⟨v290, ee291⟩ : ∃ z : Int32, f183 38 = z := ⟨_, rfl⟩
        have b292 : Bd v290 (0) (3) := (by rw [← ee291]; exact b185.2.2.2.2.2.2.1 38 (by decide))
        have q293 : elm (S181 7) 38 = v290.toInt := (elm_of c184 38).trans (congrArg Int32.toInt (ee291))
        have q294 : elm (S147 7) 39 = v115.toInt := (elm_of c179 39).trans (congrArg Int32.toInt (ee116))
        obtain ⟨v295, ee296⟩ : ∃ z : Int32, f183 39 = z := ⟨_, rfl⟩
        have b297 : Bd v295 (0) (40) := (by rw [← ee296]; exact b185.2.2.2.2.2.2.2 39 (by decide))
        have q298 : elm (S181 7) 39 = v295.toInt := (elm_of c184 39).trans (congrArg Int32.toInt (ee296))
        have q299 : elm (S147 6) 1 = v40.toInt := (elm_of c180 1).trans (congrArg Int32.toInt (ee41))
        obtain ⟨f300, c301, b302⟩ := invM_6 hI
        obtain ⟨v303, ee304⟩ : ∃ z : Int32, f300 0 = z := ⟨_, rfl⟩
        have b305 : Bd v303 (0) (40000) := (by rw [← ee304]; exact b302 0)
        have q306 : elm (S181 6) 0 = v303.toInt := (elm_of c301 0).trans (congrArg Int32.toInt (ee304))
        obtain ⟨v307, ee308⟩ : ∃ z : Int32, f300 1 = z := ⟨_, rfl⟩
        have b309 : Bd v307 (0) (40000) := (by rw [← ee308]; exact b302 1)
        have q310 : elm (S181 6) 1 = v307.toInt := (elm_of c301 1).trans (congrArg Int32.toInt (ee308))
        have q311 : elm (S147 6) 2 = v58.toInt := (elm_of c180 2).trans (congrArg Int32.toInt (ee59))
        obtain ⟨v312, ee313⟩ : ∃ z : Int32, f300 2 = z := ⟨_, rfl⟩
        have b314 : Bd v312 (0) (40000) := (by rw [← ee313]; exact b302 2)
        have q315 : elm (S181 6) 2 = v312.toInt := (elm_of c301 2).trans (congrArg Int32.toInt (ee313))
        have q316 : elm (S147 6) 3 = v76.toInt := (elm_of c180 3).trans (congrArg Int32.toInt (ee77))
        obtain ⟨v317, ee318⟩ : ∃ z : Int32, f300 3 = z := ⟨_, rfl⟩
        have b319 : Bd v317 (0) (40000) := (by rw [← ee318]; exact b302 3)
        have q320 : elm (S181 6) 3 = v317.toInt := (elm_of c301 3).trans (congrArg Int32.toInt (ee318))
        refine lv_iconst (v := 0) hx hb dX12_back_40 (by decide) ?_
        exact xri E hr hlk hQ (⟨hI, (o_trans (up_o o_refl eS147 (by decide)) o181 (by decide)), (ib_wk (by decide : Bd 0 (0) (0)) (by decide) (by decide)), (by omega), (by omega), (by omega), (by omega), (by omega), (by omega), (by omega), (by omega), (by omega), (by omega), (by omega), (by omega), (by omega), (by omega), (by omega), (by omega), (by omega), (by omega), (by omega), (by omega), u181_0, u181_1, u181_2, u181_3, (by have h1 := u155_0; unfold InP at h1; have e1 := ((congrArg (fun e => elm e a1.toInt.toNat) (up_eq (j := 13) eS147 (by decide))).symm.trans el168); unfold ansBk; rw [if_neg (by omega), if_neg (by omega)])⟩) dX12_back_41
      · subst h176
        have q321 : (2 : Int32).toInt = 2 := by decide
        have q322 : (0 : Int32).toInt = 0 := by decide
        have c323 : S147 7 = .inl (g.2 0, 50, .inl f1) := (up_ne eS147 (by decide) c2)
        have c324 : S147 6 = .inl (g.2 0, 5, .inl f19) := (up_ne eS147 (by decide) c20)
        refine xcVv E hs hQ hml hl.1 0 (gX12_copyShore_2_0 l g ad hD S147 hI (at_tr hAT0 (up_eq (j := 7) eS147 (by decide)) (up_eq (j := 12) eS147 (by decide))) (at_tr hAT1 (up_eq (j := 7) eS147 (by decide)) (up_eq (j := 12) eS147 (by decide))) (at_tr hAT2 (up_eq (j := 7) eS147 (by decide)) (up_eq (j := 12) eS147 (by decide))) (at_tr hAT3 (up_eq (j := 7) eS147 (by decide)) (up_eq (j := 12) eS147 (by decide)))) mX12_copyShore q1739 (by decide) c148 rfl rfl ⟨(Nat.le_of_ble_eq_true rfl), (Nat.le_of_ble_eq_true rfl)⟩ ⟨(Nat.le_of_ble_eq_true rfl), (Nat.le_of_ble_eq_true rfl)⟩ (Nat.le_of_ble_eq_true rfl) rfl dX12_back_37 (fun S325 H locs hp325 hQ _ => ?_)
        obtain ⟨hI, o325, g325_0, g325_1, g325_2, g325_3, g325_4, g325_5, g325_6, g325_7, g325_8, g325_9, g325_10, g325_11, g325_12, g325_13, g325_14, g325_15, g325_16, g325_17, g325_18, g325_19, g325_20, g325_21, g325_22, g325_23, g325_24, g325_25, g325_26, g325_27, u325_0, u325_1, u325_2, u325_3⟩ := hp325
        have q326 : elm (S147 7) 20 = v46.toInt := (elm_of c323 20).trans (congrArg Int32.toInt (ee47))
        obtain ⟨f327, c328, b329⟩ := invM_7 hI
        obtain ⟨v330, ee331⟩ : ∃ z : Int32, f327 0 = z := ⟨_, rfl⟩
        have b332 : Bd v330 (0) (12) := (by rw [← ee331]; exact b329.1 0 (by decide))
        have q333 : elm (S325 7) 0 = v330.toInt := (elm_of c328 0).trans (congrArg Int32.toInt (ee331))
        have q334 : elm (S147 7) 21 = v43.toInt := (elm_of c323 21).trans (congrArg Int32.toInt (ee44))
        obtain ⟨v335, ee336⟩ : ∃ z : Int32, f327 1 = z := ⟨_, rfl⟩
        have b337 : Bd v335 (0) (12) := (by rw [← ee336]; exact b329.2.1 1 (by decide))
        have q338 : elm (S325 7) 1 = v335.toInt := (elm_of c328 1).trans (congrArg Int32.toInt (ee336))
        have q339 : elm (S147 7) 23 = v49.toInt := (elm_of c323 23).trans (congrArg Int32.toInt (ee50))
        obtain ⟨v340, ee341⟩ : ∃ z : Int32, f327 3 = z := ⟨_, rfl⟩
        have b342 : Bd v340 (0) (12) := (by rw [← ee341]; exact b329.2.2.2.1 3 (by decide))
        have q343 : elm (S325 7) 3 = v340.toInt := (elm_of c328 3).trans (congrArg Int32.toInt (ee341))
        have q344 : elm (S147 7) 26 = v52.toInt := (elm_of c323 26).trans (congrArg Int32.toInt (ee53))
        obtain ⟨v345, ee346⟩ : ∃ z : Int32, f327 6 = z := ⟨_, rfl⟩
        have b347 : Bd v345 (0) (8) := (by rw [← ee346]; exact b329.2.2.2.2.1 6 (by decide))
        have q348 : elm (S325 7) 6 = v345.toInt := (elm_of c328 6).trans (congrArg Int32.toInt (ee346))
        have q349 : elm (S147 7) 28 = v55.toInt := (elm_of c323 28).trans (congrArg Int32.toInt (ee56))
        obtain ⟨v350, ee351⟩ : ∃ z : Int32, f327 8 = z := ⟨_, rfl⟩
        have b352 : Bd v350 (0) (3) := (by rw [← ee351]; exact b329.2.2.2.2.2.2.1 8 (by decide))
        have q353 : elm (S325 7) 8 = v350.toInt := (elm_of c328 8).trans (congrArg Int32.toInt (ee351))
        have q354 : elm (S147 7) 29 = v112.toInt := (elm_of c323 29).trans (congrArg Int32.toInt (ee113))
        obtain ⟨v355, ee356⟩ : ∃ z : Int32, f327 9 = z := ⟨_, rfl⟩
        have b357 : Bd v355 (0) (40) := (by rw [← ee356]; exact b329.2.2.2.2.2.2.2 9 (by decide))
        have q358 : elm (S325 7) 9 = v355.toInt := (elm_of c328 9).trans (congrArg Int32.toInt (ee356))
        have q359 : elm (S147 7) 10 = v28.toInt := (elm_of c323 10).trans (congrArg Int32.toInt (ee29))
        obtain ⟨v360, ee361⟩ : ∃ z : Int32, f327 10 = z := ⟨_, rfl⟩
        have b362 : Bd v360 (0) (12) := (by rw [← ee361]; exact b329.1 10 (by decide))
        have q363 : elm (S325 7) 10 = v360.toInt := (elm_of c328 10).trans (congrArg Int32.toInt (ee361))
        have q364 : elm (S147 7) 11 = v25.toInt := (elm_of c323 11).trans (congrArg Int32.toInt (ee26))
        obtain ⟨v365, ee366⟩ : ∃ z : Int32, f327 11 = z := ⟨_, rfl⟩
        have b367 : Bd v365 (0) (12) := (by rw [← ee366]; exact b329.2.1 11 (by decide))
        have q368 : elm (S325 7) 11 = v365.toInt := (elm_of c328 11).trans (congrArg Int32.toInt (ee366))
        have q369 : elm (S147 7) 13 = v31.toInt := (elm_of c323 13).trans (congrArg Int32.toInt (ee32))
        obtain ⟨v370, ee371⟩ : ∃ z : Int32, f327 13 = z := ⟨_, rfl⟩
        have b372 : Bd v370 (0) (12) := (by rw [← ee371]; exact b329.2.2.2.1 13 (by decide))
        have q373 : elm (S325 7) 13 = v370.toInt := (elm_of c328 13).trans (congrArg Int32.toInt (ee371))
        have q374 : elm (S147 7) 16 = v34.toInt := (elm_of c323 16).trans (congrArg Int32.toInt (ee35))
        obtain ⟨v375, ee376⟩ : ∃ z : Int32, f327 16 = z := ⟨_, rfl⟩
        have b377 : Bd v375 (0) (8) := (by rw [← ee376]; exact b329.2.2.2.2.1 16 (by decide))
        have q378 : elm (S325 7) 16 = v375.toInt := (elm_of c328 16).trans (congrArg Int32.toInt (ee376))
        have q379 : elm (S147 7) 18 = v37.toInt := (elm_of c323 18).trans (congrArg Int32.toInt (ee38))
        obtain ⟨v380, ee381⟩ : ∃ z : Int32, f327 18 = z := ⟨_, rfl⟩
        have b382 : Bd v380 (0) (3) := (by rw [← ee381]; exact b329.2.2.2.2.2.2.1 18 (by decide))
        have q383 : elm (S325 7) 18 = v380.toInt := (elm_of c328 18).trans (congrArg Int32.toInt (ee381))
        have q384 : elm (S147 7) 19 = v109.toInt := (elm_of c323 19).trans (congrArg Int32.toInt (ee110))
        obtain ⟨v385, ee386⟩ : ∃ z : Int32, f327 19 = z := ⟨_, rfl⟩
        have b387 : Bd v385 (0) (40) := (by rw [← ee386]; exact b329.2.2.2.2.2.2.2 19 (by decide))
        have q388 : elm (S325 7) 19 = v385.toInt := (elm_of c328 19).trans (congrArg Int32.toInt (ee386))
        obtain ⟨v389, ee390⟩ : ∃ z : Int32, f327 20 = z := ⟨_, rfl⟩
        have b391 : Bd v389 (0) (12) := (by rw [← ee390]; exact b329.1 20 (by decide))
        have q392 : elm (S325 7) 20 = v389.toInt := (elm_of c328 20).trans (congrArg Int32.toInt (ee390))
        obtain ⟨v393, ee394⟩ : ∃ z : Int32, f327 21 = z := ⟨_, rfl⟩
        have b395 : Bd v393 (0) (12) := (by rw [← ee394]; exact b329.2.1 21 (by decide))
        have q396 : elm (S325 7) 21 = v393.toInt := (elm_of c328 21).trans (congrArg Int32.toInt (ee394))
        obtain ⟨v397, ee398⟩ : ∃ z : Int32, f327 23 = z := ⟨_, rfl⟩
        have b399 : Bd v397 (0) (12) := (by rw [← ee398]; exact b329.2.2.2.1 23 (by decide))
        have q400 : elm (S325 7) 23 = v397.toInt := (elm_of c328 23).trans (congrArg Int32.toInt (ee398))
        obtain ⟨v401, ee402⟩ : ∃ z : Int32, f327 26 = z := ⟨_, rfl⟩
        have b403 : Bd v401 (0) (8) := (by rw [← ee402]; exact b329.2.2.2.2.1 26 (by decide))
        have q404 : elm (S325 7) 26 = v401.toInt := (elm_of c328 26).trans (congrArg Int32.toInt (ee402))
        obtain ⟨v405, ee406⟩ : ∃ z : Int32, f327 28 = z := ⟨_, rfl⟩
        have b407 : Bd v405 (0) (3) := (by rw [← ee406]; exact b329.2.2.2.2.2.2.1 28 (by decide))
        have q408 : elm (S325 7) 28 = v405.toInt := (elm_of c328 28).trans (congrArg Int32.toInt (ee406))
        obtain ⟨v409, ee410⟩ : ∃ z : Int32, f327 29 = z := ⟨_, rfl⟩
        have b411 : Bd v409 (0) (40) := (by rw [← ee410]; exact b329.2.2.2.2.2.2.2 29 (by decide))
        have q412 : elm (S325 7) 29 = v409.toInt := (elm_of c328 29).trans (congrArg Int32.toInt (ee410))
        have q413 : elm (S147 7) 30 = v64.toInt := (elm_of c323 30).trans (congrArg Int32.toInt (ee65))
        obtain ⟨v414, ee415⟩ : ∃ z : Int32, f327 30 = z := ⟨_, rfl⟩
        have b416 : Bd v414 (0) (12) := (by rw [← ee415]; exact b329.1 30 (by decide))
        have q417 : elm (S325 7) 30 = v414.toInt := (elm_of c328 30).trans (congrArg Int32.toInt (ee415))
        have q418 : elm (S147 7) 31 = v61.toInt := (elm_of c323 31).trans (congrArg Int32.toInt (ee62))
        obtain ⟨v419, ee420⟩ : ∃ z : Int32, f327 31 = z := ⟨_, rfl⟩
        have b421 : Bd v419 (0) (12) := (by rw [← ee420]; exact b329.2.1 31 (by decide))
        have q422 : elm (S325 7) 31 = v419.toInt := (elm_of c328 31).trans (congrArg Int32.toInt (ee420))
        have q423 : elm (S147 7) 33 = v67.toInt := (elm_of c323 33).trans (congrArg Int32.toInt (ee68))
        obtain ⟨v424, ee425⟩ : ∃ z : Int32, f327 33 = z := ⟨_, rfl⟩
        have b426 : Bd v424 (0) (12) := (by rw [← ee425]; exact b329.2.2.2.1 33 (by decide))
        have q427 : elm (S325 7) 33 = v424.toInt := (elm_of c328 33).trans (congrArg Int32.toInt (ee425))
        have q428 : elm (S147 7) 36 = v70.toInt := (elm_of c323 36).trans (congrArg Int32.toInt (ee71))
        obtain ⟨v429, ee430⟩ : ∃ z : Int32, f327 36 = z := ⟨_, rfl⟩
        have b431 : Bd v429 (0) (8) := (by rw [← ee430]; exact b329.2.2.2.2.1 36 (by decide))
        have q432 : elm (S325 7) 36 = v429.toInt := (elm_of c328 36).trans (congrArg Int32.toInt (ee430))
        have q433 : elm (S147 7) 38 = v73.toInt := (elm_of c323 38).trans (congrArg Int32.toInt (ee74))
        obtain ⟨v434, ee435⟩ : ∃ z : Int32, f327 38 = z := ⟨_, rfl⟩
        have b436 : Bd v434 (0) (3) := (by rw [← ee435]; exact b329.2.2.2.2.2.2.1 38 (by decide))
        have q437 : elm (S325 7) 38 = v434.toInt := (elm_of c328 38).trans (congrArg Int32.toInt (ee435))
        have q438 : elm (S147 7) 39 = v115.toInt := (elm_of c323 39).trans (congrArg Int32.toInt (ee116))
        obtain ⟨v439, ee440⟩ : ∃ z : Int32, f327 39 = z := ⟨_, rfl⟩
        have b441 : Bd v439 (0) (40) := (by rw [← ee440]; exact b329.2.2.2.2.2.2.2 39 (by decide))
        have q442 : elm (S325 7) 39 = v439.toInt := (elm_of c328 39).trans (congrArg Int32.toInt (ee440))
        have q443 : elm (S147 6) 2 = v58.toInt := (elm_of c324 2).trans (congrArg Int32.toInt (ee59))
        obtain ⟨f444, c445, b446⟩ := invM_6 hI
        obtain ⟨v447, ee448⟩ : ∃ z : Int32, f444 0 = z := ⟨_, rfl⟩
        have b449 : Bd v447 (0) (40000) := (by rw [← ee448]; exact b446 0)
        have q450 : elm (S325 6) 0 = v447.toInt := (elm_of c445 0).trans (congrArg Int32.toInt (ee448))
        have q451 : elm (S147 6) 1 = v40.toInt := (elm_of c324 1).trans (congrArg Int32.toInt (ee41))
        obtain ⟨v452, ee453⟩ : ∃ z : Int32, f444 1 = z := ⟨_, rfl⟩
        have b454 : Bd v452 (0) (40000) := (by rw [← ee453]; exact b446 1)
        have q455 : elm (S325 6) 1 = v452.toInt := (elm_of c445 1).trans (congrArg Int32.toInt (ee453))
        obtain ⟨v456, ee457⟩ : ∃ z : Int32, f444 2 = z := ⟨_, rfl⟩
        have b458 : Bd v456 (0) (40000) := (by rw [← ee457]; exact b446 2)
        have q459 : elm (S325 6) 2 = v456.toInt := (elm_of c445 2).trans (congrArg Int32.toInt (ee457))
        have q460 : elm (S147 6) 3 = v76.toInt := (elm_of c324 3).trans (congrArg Int32.toInt (ee77))
        obtain ⟨v461, ee462⟩ : ∃ z : Int32, f444 3 = z := ⟨_, rfl⟩
        have b463 : Bd v461 (0) (40000) := (by rw [← ee462]; exact b446 3)
        have q464 : elm (S325 6) 3 = v461.toInt := (elm_of c445 3).trans (congrArg Int32.toInt (ee462))
        refine lv_iconst (v := 0) hx hb dX12_back_40 (by decide) ?_
        exact xri E hr hlk hQ (⟨hI, (o_trans (up_o o_refl eS147 (by decide)) o325 (by decide)), (ib_wk (by decide : Bd 0 (0) (0)) (by decide) (by decide)), (by omega), (by omega), (by omega), (by omega), (by omega), (by omega), (by omega), (by omega), (by omega), (by omega), (by omega), (by omega), (by omega), (by omega), (by omega), (by omega), (by omega), (by omega), (by omega), (by omega), u325_0, u325_1, u325_2, u325_3, (by have h1 := u155_0; unfold InP at h1; have e1 := ((congrArg (fun e => elm e a1.toInt.toNat) (up_eq (j := 13) eS147 (by decide))).symm.trans el168); unfold ansBk; rw [if_neg (by omega), if_neg (by omega)])⟩) dX12_back_41
      · subst h176
        have q465 : (3 : Int32).toInt = 3 := by decide
        have q466 : (0 : Int32).toInt = 0 := by decide
        have c467 : S147 7 = .inl (g.2 0, 50, .inl f1) := (up_ne eS147 (by decide) c2)
        have c468 : S147 6 = .inl (g.2 0, 5, .inl f19) := (up_ne eS147 (by decide) c20)
        refine xcVv E hs hQ hml hl.1 0 (gX12_copyShore_3_0 l g ad hD S147 hI (at_tr hAT0 (up_eq (j := 7) eS147 (by decide)) (up_eq (j := 12) eS147 (by decide))) (at_tr hAT1 (up_eq (j := 7) eS147 (by decide)) (up_eq (j := 12) eS147 (by decide))) (at_tr hAT2 (up_eq (j := 7) eS147 (by decide)) (up_eq (j := 12) eS147 (by decide))) (at_tr hAT3 (up_eq (j := 7) eS147 (by decide)) (up_eq (j := 12) eS147 (by decide)))) mX12_copyShore q1739 (by decide) c148 rfl rfl ⟨(Nat.le_of_ble_eq_true rfl), (Nat.le_of_ble_eq_true rfl)⟩ ⟨(Nat.le_of_ble_eq_true rfl), (Nat.le_of_ble_eq_true rfl)⟩ (Nat.le_of_ble_eq_true rfl) rfl dX12_back_37 (fun S469 H locs hp469 hQ _ => ?_)
        obtain ⟨hI, o469, g469_0, g469_1, g469_2, g469_3, g469_4, g469_5, g469_6, g469_7, g469_8, g469_9, g469_10, g469_11, g469_12, g469_13, g469_14, g469_15, g469_16, g469_17, g469_18, g469_19, g469_20, g469_21, g469_22, g469_23, g469_24, g469_25, g469_26, g469_27, u469_0, u469_1, u469_2, u469_3⟩ := hp469
        have q470 : elm (S147 7) 30 = v64.toInt := (elm_of c467 30).trans (congrArg Int32.toInt (ee65))
        obtain ⟨f471, c472, b473⟩ := invM_7 hI
        obtain ⟨v474, ee475⟩ : ∃ z : Int32, f471 0 = z := ⟨_, rfl⟩
        have b476 : Bd v474 (0) (12) := (by rw [← ee475]; exact b473.1 0 (by decide))
        have q477 : elm (S469 7) 0 = v474.toInt := (elm_of c472 0).trans (congrArg Int32.toInt (ee475))
        have q478 : elm (S147 7) 31 = v61.toInt := (elm_of c467 31).trans (congrArg Int32.toInt (ee62))
        obtain ⟨v479, ee480⟩ : ∃ z : Int32, f471 1 = z := ⟨_, rfl⟩
        have b481 : Bd v479 (0) (12) := (by rw [← ee480]; exact b473.2.1 1 (by decide))
        have q482 : elm (S469 7) 1 = v479.toInt := (elm_of c472 1).trans (congrArg Int32.toInt (ee480))
        have q483 : elm (S147 7) 33 = v67.toInt := (elm_of c467 33).trans (congrArg Int32.toInt (ee68))
        obtain ⟨v484, ee485⟩ : ∃ z : Int32, f471 3 = z := ⟨_, rfl⟩
        have b486 : Bd v484 (0) (12) := (by rw [← ee485]; exact b473.2.2.2.1 3 (by decide))
        have q487 : elm (S469 7) 3 = v484.toInt := (elm_of c472 3).trans (congrArg Int32.toInt (ee485))
        have q488 : elm (S147 7) 36 = v70.toInt := (elm_of c467 36).trans (congrArg Int32.toInt (ee71))
        obtain ⟨v489, ee490⟩ : ∃ z : Int32, f471 6 = z := ⟨_, rfl⟩
        have b491 : Bd v489 (0) (8) := (by rw [← ee490]; exact b473.2.2.2.2.1 6 (by decide))
        have q492 : elm (S469 7) 6 = v489.toInt := (elm_of c472 6).trans (congrArg Int32.toInt (ee490))
        have q493 : elm (S147 7) 38 = v73.toInt := (elm_of c467 38).trans (congrArg Int32.toInt (ee74))
        obtain ⟨v494, ee495⟩ : ∃ z : Int32, f471 8 = z := ⟨_, rfl⟩
        have b496 : Bd v494 (0) (3) := (by rw [← ee495]; exact b473.2.2.2.2.2.2.1 8 (by decide))
        have q497 : elm (S469 7) 8 = v494.toInt := (elm_of c472 8).trans (congrArg Int32.toInt (ee495))
        have q498 : elm (S147 7) 39 = v115.toInt := (elm_of c467 39).trans (congrArg Int32.toInt (ee116))
        obtain ⟨v499, ee500⟩ : ∃ z : Int32, f471 9 = z := ⟨_, rfl⟩
        have b501 : Bd v499 (0) (40) := (by rw [← ee500]; exact b473.2.2.2.2.2.2.2 9 (by decide))
        have q502 : elm (S469 7) 9 = v499.toInt := (elm_of c472 9).trans (congrArg Int32.toInt (ee500))
        have q503 : elm (S147 7) 10 = v28.toInt := (elm_of c467 10).trans (congrArg Int32.toInt (ee29))
        obtain ⟨v504, ee505⟩ : ∃ z : Int32, f471 10 = z := ⟨_, rfl⟩
        have b506 : Bd v504 (0) (12) := (by rw [← ee505]; exact b473.1 10 (by decide))
        have q507 : elm (S469 7) 10 = v504.toInt := (elm_of c472 10).trans (congrArg Int32.toInt (ee505))
        have q508 : elm (S147 7) 11 = v25.toInt := (elm_of c467 11).trans (congrArg Int32.toInt (ee26))
        obtain ⟨v509, ee510⟩ : ∃ z : Int32, f471 11 = z := ⟨_, rfl⟩
        have b511 : Bd v509 (0) (12) := (by rw [← ee510]; exact b473.2.1 11 (by decide))
        have q512 : elm (S469 7) 11 = v509.toInt := (elm_of c472 11).trans (congrArg Int32.toInt (ee510))
        have q513 : elm (S147 7) 13 = v31.toInt := (elm_of c467 13).trans (congrArg Int32.toInt (ee32))
        obtain ⟨v514, ee515⟩ : ∃ z : Int32, f471 13 = z := ⟨_, rfl⟩
        have b516 : Bd v514 (0) (12) := (by rw [← ee515]; exact b473.2.2.2.1 13 (by decide))
        have q517 : elm (S469 7) 13 = v514.toInt := (elm_of c472 13).trans (congrArg Int32.toInt (ee515))
        have q518 : elm (S147 7) 16 = v34.toInt := (elm_of c467 16).trans (congrArg Int32.toInt (ee35))
        obtain ⟨v519, ee520⟩ : ∃ z : Int32, f471 16 = z := ⟨_, rfl⟩
        have b521 : Bd v519 (0) (8) := (by rw [← ee520]; exact b473.2.2.2.2.1 16 (by decide))
        have q522 : elm (S469 7) 16 = v519.toInt := (elm_of c472 16).trans (congrArg Int32.toInt (ee520))
        have q523 : elm (S147 7) 18 = v37.toInt := (elm_of c467 18).trans (congrArg Int32.toInt (ee38))
        obtain ⟨v524, ee525⟩ : ∃ z : Int32, f471 18 = z := ⟨_, rfl⟩
        have b526 : Bd v524 (0) (3) := (by rw [← ee525]; exact b473.2.2.2.2.2.2.1 18 (by decide))
        have q527 : elm (S469 7) 18 = v524.toInt := (elm_of c472 18).trans (congrArg Int32.toInt (ee525))
        have q528 : elm (S147 7) 19 = v109.toInt := (elm_of c467 19).trans (congrArg Int32.toInt (ee110))
        obtain ⟨v529, ee530⟩ : ∃ z : Int32, f471 19 = z := ⟨_, rfl⟩
        have b531 : Bd v529 (0) (40) := (by rw [← ee530]; exact b473.2.2.2.2.2.2.2 19 (by decide))
        have q532 : elm (S469 7) 19 = v529.toInt := (elm_of c472 19).trans (congrArg Int32.toInt (ee530))
        have q533 : elm (S147 7) 20 = v46.toInt := (elm_of c467 20).trans (congrArg Int32.toInt (ee47))
        obtain ⟨v534, ee535⟩ : ∃ z : Int32, f471 20 = z := ⟨_, rfl⟩
        have b536 : Bd v534 (0) (12) := (by rw [← ee535]; exact b473.1 20 (by decide))
        have q537 : elm (S469 7) 20 = v534.toInt := (elm_of c472 20).trans (congrArg Int32.toInt (ee535))
        have q538 : elm (S147 7) 21 = v43.toInt := (elm_of c467 21).trans (congrArg Int32.toInt (ee44))
        obtain ⟨v539, ee540⟩ : ∃ z : Int32, f471 21 = z := ⟨_, rfl⟩
        have b541 : Bd v539 (0) (12) := (by rw [← ee540]; exact b473.2.1 21 (by decide))
        have q542 : elm (S469 7) 21 = v539.toInt := (elm_of c472 21).trans (congrArg Int32.toInt (ee540))
        have q543 : elm (S147 7) 23 = v49.toInt := (elm_of c467 23).trans (congrArg Int32.toInt (ee50))
        obtain ⟨v544, ee545⟩ : ∃ z : Int32, f471 23 = z := ⟨_, rfl⟩
        have b546 : Bd v544 (0) (12) := (by rw [← ee545]; exact b473.2.2.2.1 23 (by decide))
        have q547 : elm (S469 7) 23 = v544.toInt := (elm_of c472 23).trans (congrArg Int32.toInt (ee545))
        have q548 : elm (S147 7) 26 = v52.toInt := (elm_of c467 26).trans (congrArg Int32.toInt (ee53))
        obtain ⟨v549, ee550⟩ : ∃ z : Int32, f471 26 = z := ⟨_, rfl⟩
        have b551 : Bd v549 (0) (8) := (by rw [← ee550]; exact b473.2.2.2.2.1 26 (by decide))
        have q552 : elm (S469 7) 26 = v549.toInt := (elm_of c472 26).trans (congrArg Int32.toInt (ee550))
        have q553 : elm (S147 7) 28 = v55.toInt := (elm_of c467 28).trans (congrArg Int32.toInt (ee56))
        obtain ⟨v554, ee555⟩ : ∃ z : Int32, f471 28 = z := ⟨_, rfl⟩
        have b556 : Bd v554 (0) (3) := (by rw [← ee555]; exact b473.2.2.2.2.2.2.1 28 (by decide))
        have q557 : elm (S469 7) 28 = v554.toInt := (elm_of c472 28).trans (congrArg Int32.toInt (ee555))
        have q558 : elm (S147 7) 29 = v112.toInt := (elm_of c467 29).trans (congrArg Int32.toInt (ee113))
        obtain ⟨v559, ee560⟩ : ∃ z : Int32, f471 29 = z := ⟨_, rfl⟩
        have b561 : Bd v559 (0) (40) := (by rw [← ee560]; exact b473.2.2.2.2.2.2.2 29 (by decide))
        have q562 : elm (S469 7) 29 = v559.toInt := (elm_of c472 29).trans (congrArg Int32.toInt (ee560))
        obtain ⟨v563, ee564⟩ : ∃ z : Int32, f471 30 = z := ⟨_, rfl⟩
        have b565 : Bd v563 (0) (12) := (by rw [← ee564]; exact b473.1 30 (by decide))
        have q566 : elm (S469 7) 30 = v563.toInt := (elm_of c472 30).trans (congrArg Int32.toInt (ee564))
        obtain ⟨v567, ee568⟩ : ∃ z : Int32, f471 31 = z := ⟨_, rfl⟩
        have b569 : Bd v567 (0) (12) := (by rw [← ee568]; exact b473.2.1 31 (by decide))
        have q570 : elm (S469 7) 31 = v567.toInt := (elm_of c472 31).trans (congrArg Int32.toInt (ee568))
        obtain ⟨v571, ee572⟩ : ∃ z : Int32, f471 33 = z := ⟨_, rfl⟩
        have b573 : Bd v571 (0) (12) := (by rw [← ee572]; exact b473.2.2.2.1 33 (by decide))
        have q574 : elm (S469 7) 33 = v571.toInt := (elm_of c472 33).trans (congrArg Int32.toInt (ee572))
        obtain ⟨v575, ee576⟩ : ∃ z : Int32, f471 36 = z := ⟨_, rfl⟩
        have b577 : Bd v575 (0) (8) := (by rw [← ee576]; exact b473.2.2.2.2.1 36 (by decide))
        have q578 : elm (S469 7) 36 = v575.toInt := (elm_of c472 36).trans (congrArg Int32.toInt (ee576))
        obtain ⟨v579, ee580⟩ : ∃ z : Int32, f471 38 = z := ⟨_, rfl⟩
        have b581 : Bd v579 (0) (3) := (by rw [← ee580]; exact b473.2.2.2.2.2.2.1 38 (by decide))
        have q582 : elm (S469 7) 38 = v579.toInt := (elm_of c472 38).trans (congrArg Int32.toInt (ee580))
        obtain ⟨v583, ee584⟩ : ∃ z : Int32, f471 39 = z := ⟨_, rfl⟩
        have b585 : Bd v583 (0) (40) := (by rw [← ee584]; exact b473.2.2.2.2.2.2.2 39 (by decide))
        have q586 : elm (S469 7) 39 = v583.toInt := (elm_of c472 39).trans (congrArg Int32.toInt (ee584))
        have q587 : elm (S147 6) 3 = v76.toInt := (elm_of c468 3).trans (congrArg Int32.toInt (ee77))
        obtain ⟨f588, c589, b590⟩ := invM_6 hI
        obtain ⟨v591, ee592⟩ : ∃ z : Int32, f588 0 = z := ⟨_, rfl⟩
        have b593 : Bd v591 (0) (40000) := (by rw [← ee592]; exact b590 0)
        have q594 : elm (S469 6) 0 = v591.toInt := (elm_of c589 0).trans (congrArg Int32.toInt (ee592))
        have q595 : elm (S147 6) 1 = v40.toInt := (elm_of c468 1).trans (congrArg Int32.toInt (ee41))
        obtain ⟨v596, ee597⟩ : ∃ z : Int32, f588 1 = z := ⟨_, rfl⟩
        have b598 : Bd v596 (0) (40000) := (by rw [← ee597]; exact b590 1)
        have q599 : elm (S469 6) 1 = v596.toInt := (elm_of c589 1).trans (congrArg Int32.toInt (ee597))
        have q600 : elm (S147 6) 2 = v58.toInt := (elm_of c468 2).trans (congrArg Int32.toInt (ee59))
        obtain ⟨v601, ee602⟩ : ∃ z : Int32, f588 2 = z := ⟨_, rfl⟩
        have b603 : Bd v601 (0) (40000) := (by rw [← ee602]; exact b590 2)
        have q604 : elm (S469 6) 2 = v601.toInt := (elm_of c589 2).trans (congrArg Int32.toInt (ee602))
        obtain ⟨v605, ee606⟩ : ∃ z : Int32, f588 3 = z := ⟨_, rfl⟩
        have b607 : Bd v605 (0) (40000) := (by rw [← ee606]; exact b590 3)
        have q608 : elm (S469 6) 3 = v605.toInt := (elm_of c589 3).trans (congrArg Int32.toInt (ee606))
        refine lv_iconst (v := 0) hx hb dX12_back_40 (by decide) ?_
        exact xri E hr hlk hQ (⟨hI, (o_trans (up_o o_refl eS147 (by decide)) o469 (by decide)), (ib_wk (by decide : Bd 0 (0) (0)) (by decide) (by decide)), (by omega), (by omega), (by omega), (by omega), (by omega), (by omega), (by omega), (by omega), (by omega), (by omega), (by omega), (by omega), (by omega), (by omega), (by omega), (by omega), (by omega), (by omega), (by omega), (by omega), u469_0, u469_1, u469_2, u469_3, (by have h1 := u155_0; unfold InP at h1; have e1 := ((congrArg (fun e => elm e a1.toInt.toNat) (up_eq (j := 13) eS147 (by decide))).symm.trans el168); unfold ansBk; rw [if_neg (by omega), if_neg (by omega)])⟩) dX12_back_41
    · have h609 := ib_eq k169
      have b610 : Bd z165 (0) (0) := ⟨(b167).1, ((rf_eq b167 (by decide : Bd 0 (0) (0)) h609).1).2⟩
      refine lv_bipush (v := (-6)) hx hb dX12_back_29 (by decide) ?_
      have c611 : S147 7 = .inl (g.2 0, 50, .inl f1) := (up_ne eS147 (by decide) c2)
      have q612 : elm (S147 7) 1 = v4.toInt := (elm_of c611 1).trans (congrArg Int32.toInt (ee5))
      have q613 : elm (S147 7) 0 = v7.toInt := (elm_of c611 0).trans (congrArg Int32.toInt (ee8))
      have q614 : elm (S147 7) 3 = v10.toInt := (elm_of c611 3).trans (congrArg Int32.toInt (ee11))
      have q615 : elm (S147 7) 6 = v13.toInt := (elm_of c611 6).trans (congrArg Int32.toInt (ee14))
      have q616 : elm (S147 7) 8 = v16.toInt := (elm_of c611 8).trans (congrArg Int32.toInt (ee17))
      have c617 : S147 6 = .inl (g.2 0, 5, .inl f19) := (up_ne eS147 (by decide) c20)
      have q618 : elm (S147 6) 0 = v22.toInt := (elm_of c617 0).trans (congrArg Int32.toInt (ee23))
      have q619 : elm (S147 7) 11 = v25.toInt := (elm_of c611 11).trans (congrArg Int32.toInt (ee26))
      have q620 : elm (S147 7) 10 = v28.toInt := (elm_of c611 10).trans (congrArg Int32.toInt (ee29))
      have q621 : elm (S147 7) 13 = v31.toInt := (elm_of c611 13).trans (congrArg Int32.toInt (ee32))
      have q622 : elm (S147 7) 16 = v34.toInt := (elm_of c611 16).trans (congrArg Int32.toInt (ee35))
      have q623 : elm (S147 7) 18 = v37.toInt := (elm_of c611 18).trans (congrArg Int32.toInt (ee38))
      have q624 : elm (S147 6) 1 = v40.toInt := (elm_of c617 1).trans (congrArg Int32.toInt (ee41))
      have q625 : elm (S147 7) 21 = v43.toInt := (elm_of c611 21).trans (congrArg Int32.toInt (ee44))
      have q626 : elm (S147 7) 20 = v46.toInt := (elm_of c611 20).trans (congrArg Int32.toInt (ee47))
      have q627 : elm (S147 7) 23 = v49.toInt := (elm_of c611 23).trans (congrArg Int32.toInt (ee50))
      have q628 : elm (S147 7) 26 = v52.toInt := (elm_of c611 26).trans (congrArg Int32.toInt (ee53))
      have q629 : elm (S147 7) 28 = v55.toInt := (elm_of c611 28).trans (congrArg Int32.toInt (ee56))
      have q630 : elm (S147 6) 2 = v58.toInt := (elm_of c617 2).trans (congrArg Int32.toInt (ee59))
      have q631 : elm (S147 7) 31 = v61.toInt := (elm_of c611 31).trans (congrArg Int32.toInt (ee62))
      have q632 : elm (S147 7) 30 = v64.toInt := (elm_of c611 30).trans (congrArg Int32.toInt (ee65))
      have q633 : elm (S147 7) 33 = v67.toInt := (elm_of c611 33).trans (congrArg Int32.toInt (ee68))
      have q634 : elm (S147 7) 36 = v70.toInt := (elm_of c611 36).trans (congrArg Int32.toInt (ee71))
      have q635 : elm (S147 7) 38 = v73.toInt := (elm_of c611 38).trans (congrArg Int32.toInt (ee74))
      have q636 : elm (S147 6) 3 = v76.toInt := (elm_of c617 3).trans (congrArg Int32.toInt (ee77))
      exact xri E hr hlk hQ (⟨hI, (up_o o_refl eS147 (by decide)), (ib_wk (by decide : Bd (-6) (-6) (-6)) (by decide) (by decide)), (by omega), (by omega), (by omega), (by omega), (by omega), (by omega), (by omega), (by omega), (by omega), (by omega), (by omega), (by omega), (by omega), (by omega), (by omega), (by omega), (by omega), (by omega), (by omega), (by omega), (at_tr hAT0 (up_eq (j := 7) eS147 (by decide)) (up_eq (j := 12) eS147 (by decide))), (at_tr hAT1 (up_eq (j := 7) eS147 (by decide)) (up_eq (j := 12) eS147 (by decide))), (at_tr hAT2 (up_eq (j := 7) eS147 (by decide)) (up_eq (j := 12) eS147 (by decide))), (at_tr hAT3 (up_eq (j := 7) eS147 (by decide)) (up_eq (j := 12) eS147 (by decide))), (by have h1 := u155_0; unfold InP at h1; have e1 := ((congrArg (fun e => elm e a1.toInt.toNat) (up_eq (j := 13) eS147 (by decide))).symm.trans el168); unfold ansBk; rw [if_neg (by omega), if_pos (by omega)])⟩) dX12_back_31
  · have h637 := ib_eq k156
    have b638 : Bd r155 (0) (0) := ⟨(b155).1, ((rf_eq b155 (by decide : Bd 0 (0) (0)) h637).1).2⟩
    clear g155_0
    refine lv_bipush (v := (-2)) hx hb dX12_back_17 (by decide) ?_
    have c639 : S147 7 = .inl (g.2 0, 50, .inl f1) := (up_ne eS147 (by decide) c2)
    have q640 : elm (S147 7) 1 = v4.toInt := (elm_of c639 1).trans (congrArg Int32.toInt (ee5))
    have q641 : elm (S147 7) 0 = v7.toInt := (elm_of c639 0).trans (congrArg Int32.toInt (ee8))
    have q642 : elm (S147 7) 3 = v10.toInt := (elm_of c639 3).trans (congrArg Int32.toInt (ee11))
    have q643 : elm (S147 7) 6 = v13.toInt := (elm_of c639 6).trans (congrArg Int32.toInt (ee14))
    have q644 : elm (S147 7) 8 = v16.toInt := (elm_of c639 8).trans (congrArg Int32.toInt (ee17))
    have c645 : S147 6 = .inl (g.2 0, 5, .inl f19) := (up_ne eS147 (by decide) c20)
    have q646 : elm (S147 6) 0 = v22.toInt := (elm_of c645 0).trans (congrArg Int32.toInt (ee23))
    have q647 : elm (S147 7) 11 = v25.toInt := (elm_of c639 11).trans (congrArg Int32.toInt (ee26))
    have q648 : elm (S147 7) 10 = v28.toInt := (elm_of c639 10).trans (congrArg Int32.toInt (ee29))
    have q649 : elm (S147 7) 13 = v31.toInt := (elm_of c639 13).trans (congrArg Int32.toInt (ee32))
    have q650 : elm (S147 7) 16 = v34.toInt := (elm_of c639 16).trans (congrArg Int32.toInt (ee35))
    have q651 : elm (S147 7) 18 = v37.toInt := (elm_of c639 18).trans (congrArg Int32.toInt (ee38))
    have q652 : elm (S147 6) 1 = v40.toInt := (elm_of c645 1).trans (congrArg Int32.toInt (ee41))
    have q653 : elm (S147 7) 21 = v43.toInt := (elm_of c639 21).trans (congrArg Int32.toInt (ee44))
    have q654 : elm (S147 7) 20 = v46.toInt := (elm_of c639 20).trans (congrArg Int32.toInt (ee47))
    have q655 : elm (S147 7) 23 = v49.toInt := (elm_of c639 23).trans (congrArg Int32.toInt (ee50))
    have q656 : elm (S147 7) 26 = v52.toInt := (elm_of c639 26).trans (congrArg Int32.toInt (ee53))
    have q657 : elm (S147 7) 28 = v55.toInt := (elm_of c639 28).trans (congrArg Int32.toInt (ee56))
    have q658 : elm (S147 6) 2 = v58.toInt := (elm_of c645 2).trans (congrArg Int32.toInt (ee59))
    have q659 : elm (S147 7) 31 = v61.toInt := (elm_of c639 31).trans (congrArg Int32.toInt (ee62))
    have q660 : elm (S147 7) 30 = v64.toInt := (elm_of c639 30).trans (congrArg Int32.toInt (ee65))
    have q661 : elm (S147 7) 33 = v67.toInt := (elm_of c639 33).trans (congrArg Int32.toInt (ee68))
    have q662 : elm (S147 7) 36 = v70.toInt := (elm_of c639 36).trans (congrArg Int32.toInt (ee71))
    have q663 : elm (S147 7) 38 = v73.toInt := (elm_of c639 38).trans (congrArg Int32.toInt (ee74))
    have q664 : elm (S147 6) 3 = v76.toInt := (elm_of c645 3).trans (congrArg Int32.toInt (ee77))
    exact xri E hr hlk hQ (⟨hI, (up_o o_refl eS147 (by decide)), (ib_wk (by decide : Bd (-2) (-2) (-2)) (by decide) (by decide)), (by omega), (by omega), (by omega), (by omega), (by omega), (by omega), (by omega), (by omega), (by omega), (by omega), (by omega), (by omega), (by omega), (by omega), (by omega), (by omega), (by omega), (by omega), (by omega), (by omega), (at_tr hAT0 (up_eq (j := 7) eS147 (by decide)) (up_eq (j := 12) eS147 (by decide))), (at_tr hAT1 (up_eq (j := 7) eS147 (by decide)) (up_eq (j := 12) eS147 (by decide))), (at_tr hAT2 (up_eq (j := 7) eS147 (by decide)) (up_eq (j := 12) eS147 (by decide))), (at_tr hAT3 (up_eq (j := 7) eS147 (by decide)) (up_eq (j := 12) eS147 (by decide))), (by have h1 := u155_0; unfold InP at h1; unfold ansBk; rw [if_pos (by omega)])⟩) dX12_back_19
set_option maxHeartbeats 4000000 in
set_option maxRecDepth 100000 in
theorem gX12_shore_0 (l : Launch) (g : GG) (ad : Nat → Nat) (hD : Dj ad 20) (S : SS) (hI : InvM g ad S) (hq1 : 0 ≤ 12 * elm (S 7) 1 + (-1) * elm (S 7) 0) (hq2 : 0 ≤ 12 * elm (S 7) 3 + (-1) * elm (S 7) 0) (hq3 : 0 ≤ 8 * elm (S 7) 0 + (-1) * elm (S 7) 6) (hq4 : 0 ≤ 3 * elm (S 7) 0 + (-1) * elm (S 7) 8) (hq5 : 0 ≤ 40000 * elm (S 7) 0 + (-1) * elm (S 6) 0) (hq6 : 0 ≤ 12 * elm (S 7) 11 + (-1) * elm (S 7) 10) (hq7 : 0 ≤ 12 * elm (S 7) 13 + (-1) * elm (S 7) 10) (hq8 : 0 ≤ 8 * elm (S 7) 10 + (-1) * elm (S 7) 16) (hq9 : 0 ≤ 3 * elm (S 7) 10 + (-1) * elm (S 7) 18) (hq10 : 0 ≤ 40000 * elm (S 7) 10 + (-1) * elm (S 6) 1) (hq11 : 0 ≤ 12 * elm (S 7) 21 + (-1) * elm (S 7) 20) (hq12 : 0 ≤ 12 * elm (S 7) 23 + (-1) * elm (S 7) 20) (hq13 : 0 ≤ 8 * elm (S 7) 20 + (-1) * elm (S 7) 26) (hq14 : 0 ≤ 3 * elm (S 7) 20 + (-1) * elm (S 7) 28) (hq15 : 0 ≤ 40000 * elm (S 7) 20 + (-1) * elm (S 6) 2) (hq16 : 0 ≤ 12 * elm (S 7) 31 + (-1) * elm (S 7) 30) (hq17 : 0 ≤ 12 * elm (S 7) 33 + (-1) * elm (S 7) 30) (hq18 : 0 ≤ 8 * elm (S 7) 30 + (-1) * elm (S 7) 36) (hq19 : 0 ≤ 3 * elm (S 7) 30 + (-1) * elm (S 7) 38) (hq20 : 0 ≤ 40000 * elm (S 7) 30 + (-1) * elm (S 6) 3) (hq21 : 0 ≤ (-1) * elm (S 7) 9 + 40) (hq22 : 0 ≤ (-1) * elm (S 7) 19 + 40) (hq23 : 0 ≤ (-1) * elm (S 7) 29 + 40) (hq24 : 0 ≤ (-1) * elm (S 7) 39 + 40) (hAT0 : ATp (S 7) (S 12) 0) (hAT1 : ATp (S 7) (S 12) 1) (hAT2 : ATp (S 7) (S 12) 2) (hAT3 : ATp (S 7) (S 12) 3) : Met l yX12_shore (wG (.code yX12_shore cX12_shore 1 (some .int))) (Rm 7) (XPre g ad 20 S [.ref (ad 0)]) (va_Qi (fun r S' => InvM g ad S' ∧ (∀ j, j ∉ ([0, 6, 7, 8, 9, 10, 11, 12] : List Nat) → S' j = S j) ∧ Bd r (-4) (4804) ∧ (0 ≤ 12 * elm (S' 7) 1 + (-1) * elm (S' 7) 0) ∧ (0 ≤ 12 * elm (S' 7) 3 + (-1) * elm (S' 7) 0) ∧ (0 ≤ 8 * elm (S' 7) 0 + (-1) * elm (S' 7) 6) ∧ (0 ≤ 3 * elm (S' 7) 0 + (-1) * elm (S' 7) 8) ∧ (0 ≤ 40000 * elm (S' 7) 0 + (-1) * elm (S' 6) 0) ∧ (0 ≤ 12 * elm (S' 7) 11 + (-1) * elm (S' 7) 10) ∧ (0 ≤ 12 * elm (S' 7) 13 + (-1) * elm (S' 7) 10) ∧ (0 ≤ 8 * elm (S' 7) 10 + (-1) * elm (S' 7) 16) ∧ (0 ≤ 3 * elm (S' 7) 10 + (-1) * elm (S' 7) 18) ∧ (0 ≤ 40000 * elm (S' 7) 10 + (-1) * elm (S' 6) 1) ∧ (0 ≤ 12 * elm (S' 7) 21 + (-1) * elm (S' 7) 20) ∧ (0 ≤ 12 * elm (S' 7) 23 + (-1) * elm (S' 7) 20) ∧ (0 ≤ 8 * elm (S' 7) 20 + (-1) * elm (S' 7) 26) ∧ (0 ≤ 3 * elm (S' 7) 20 + (-1) * elm (S' 7) 28) ∧ (0 ≤ 40000 * elm (S' 7) 20 + (-1) * elm (S' 6) 2) ∧ (0 ≤ 12 * elm (S' 7) 31 + (-1) * elm (S' 7) 30) ∧ (0 ≤ 12 * elm (S' 7) 33 + (-1) * elm (S' 7) 30) ∧ (0 ≤ 8 * elm (S' 7) 30 + (-1) * elm (S' 7) 36) ∧ (0 ≤ 3 * elm (S' 7) 30 + (-1) * elm (S' 7) 38) ∧ (0 ≤ 40000 * elm (S' 7) 30 + (-1) * elm (S' 6) 3) ∧ (ATp (S' 7) (S' 12) 0) ∧ (ATp (S' 7) (S' 12) 1) ∧ (ATp (S' 7) (S' 12) 2) ∧ (ATp (S' 7) (S' 12) 3)) (QB g ad 20) (FA ad 20)) 0 0 (FA ad 20) := by
  refine xmet cX12_shore "EbbWreckModel" (by decide) rfl (Nat.le_of_ble_eq_true rfl) (fun p e s m below meth c E hr hlk hml hQ ls hl => ?_)
  have hx := E.1
  have hb := E.2.1
  have hs : Sp ad 20 (FA ad 20) := Sp.fa hD
  have hl : lv_has ls 1 [(0, .ref (ad 0))] := hl
  obtain ⟨f1, c2, b3⟩ := invM_7 hI
  obtain ⟨v4, ee5⟩ : ∃ z : Int32, f1 1 = z := ⟨_, rfl⟩
  have b6 : Bd v4 (0) (12) := (by rw [← ee5]; exact b3.2.1 1 (by decide))
  obtain ⟨v7, ee8⟩ : ∃ z : Int32, f1 0 = z := ⟨_, rfl⟩
  have b9 : Bd v7 (0) (12) := (by rw [← ee8]; exact b3.1 0 (by decide))
  obtain ⟨v10, ee11⟩ : ∃ z : Int32, f1 3 = z := ⟨_, rfl⟩
  have b12 : Bd v10 (0) (12) := (by rw [← ee11]; exact b3.2.2.2.1 3 (by decide))
  obtain ⟨v13, ee14⟩ : ∃ z : Int32, f1 6 = z := ⟨_, rfl⟩
  have b15 : Bd v13 (0) (8) := (by rw [← ee14]; exact b3.2.2.2.2.1 6 (by decide))
  obtain ⟨v16, ee17⟩ : ∃ z : Int32, f1 8 = z := ⟨_, rfl⟩
  have b18 : Bd v16 (0) (3) := (by rw [← ee17]; exact b3.2.2.2.2.2.2.1 8 (by decide))
  obtain ⟨f19, c20, b21⟩ := invM_6 hI
  obtain ⟨v22, ee23⟩ : ∃ z : Int32, f19 0 = z := ⟨_, rfl⟩
  have b24 : Bd v22 (0) (40000) := (by rw [← ee23]; exact b21 0)
  obtain ⟨v25, ee26⟩ : ∃ z : Int32, f1 11 = z := ⟨_, rfl⟩
  have b27 : Bd v25 (0) (12) := (by rw [← ee26]; exact b3.2.1 11 (by decide))
  obtain ⟨v28, ee29⟩ : ∃ z : Int32, f1 10 = z := ⟨_, rfl⟩
  have b30 : Bd v28 (0) (12) := (by rw [← ee29]; exact b3.1 10 (by decide))
  obtain ⟨v31, ee32⟩ : ∃ z : Int32, f1 13 = z := ⟨_, rfl⟩
  have b33 : Bd v31 (0) (12) := (by rw [← ee32]; exact b3.2.2.2.1 13 (by decide))
  obtain ⟨v34, ee35⟩ : ∃ z : Int32, f1 16 = z := ⟨_, rfl⟩
  have b36 : Bd v34 (0) (8) := (by rw [← ee35]; exact b3.2.2.2.2.1 16 (by decide))
  obtain ⟨v37, ee38⟩ : ∃ z : Int32, f1 18 = z := ⟨_, rfl⟩
  have b39 : Bd v37 (0) (3) := (by rw [← ee38]; exact b3.2.2.2.2.2.2.1 18 (by decide))
  obtain ⟨v40, ee41⟩ : ∃ z : Int32, f19 1 = z := ⟨_, rfl⟩
  have b42 : Bd v40 (0) (40000) := (by rw [← ee41]; exact b21 1)
  obtain ⟨v43, ee44⟩ : ∃ z : Int32, f1 21 = z := ⟨_, rfl⟩
  have b45 : Bd v43 (0) (12) := (by rw [← ee44]; exact b3.2.1 21 (by decide))
  obtain ⟨v46, ee47⟩ : ∃ z : Int32, f1 20 = z := ⟨_, rfl⟩
  have b48 : Bd v46 (0) (12) := (by rw [← ee47]; exact b3.1 20 (by decide))
  obtain ⟨v49, ee50⟩ : ∃ z : Int32, f1 23 = z := ⟨_, rfl⟩
  have b51 : Bd v49 (0) (12) := (by rw [← ee50]; exact b3.2.2.2.1 23 (by decide))
  obtain ⟨v52, ee53⟩ : ∃ z : Int32, f1 26 = z := ⟨_, rfl⟩
  have b54 : Bd v52 (0) (8) := (by rw [← ee53]; exact b3.2.2.2.2.1 26 (by decide))
  obtain ⟨v55, ee56⟩ : ∃ z : Int32, f1 28 = z := ⟨_, rfl⟩
  have b57 : Bd v55 (0) (3) := (by rw [← ee56]; exact b3.2.2.2.2.2.2.1 28 (by decide))
  obtain ⟨v58, ee59⟩ : ∃ z : Int32, f19 2 = z := ⟨_, rfl⟩
  have b60 : Bd v58 (0) (40000) := (by rw [← ee59]; exact b21 2)
  obtain ⟨v61, ee62⟩ : ∃ z : Int32, f1 31 = z := ⟨_, rfl⟩
  have b63 : Bd v61 (0) (12) := (by rw [← ee62]; exact b3.2.1 31 (by decide))
  obtain ⟨v64, ee65⟩ : ∃ z : Int32, f1 30 = z := ⟨_, rfl⟩
  have b66 : Bd v64 (0) (12) := (by rw [← ee65]; exact b3.1 30 (by decide))
  obtain ⟨v67, ee68⟩ : ∃ z : Int32, f1 33 = z := ⟨_, rfl⟩
  have b69 : Bd v67 (0) (12) := (by rw [← ee68]; exact b3.2.2.2.1 33 (by decide))
  obtain ⟨v70, ee71⟩ : ∃ z : Int32, f1 36 = z := ⟨_, rfl⟩
  have b72 : Bd v70 (0) (8) := (by rw [← ee71]; exact b3.2.2.2.2.1 36 (by decide))
  obtain ⟨v73, ee74⟩ : ∃ z : Int32, f1 38 = z := ⟨_, rfl⟩
  have b75 : Bd v73 (0) (3) := (by rw [← ee74]; exact b3.2.2.2.2.2.2.1 38 (by decide))
  obtain ⟨v76, ee77⟩ : ∃ z : Int32, f19 3 = z := ⟨_, rfl⟩
  have b78 : Bd v76 (0) (40000) := (by rw [← ee77]; exact b21 3)
  obtain ⟨v79, ee80⟩ : ∃ z : Int32, f1 9 = z := ⟨_, rfl⟩
  have b81 : Bd v79 (0) (40) := (by rw [← ee80]; exact b3.2.2.2.2.2.2.2 9 (by decide))
  obtain ⟨v82, ee83⟩ : ∃ z : Int32, f1 19 = z := ⟨_, rfl⟩
  have b84 : Bd v82 (0) (40) := (by rw [← ee83]; exact b3.2.2.2.2.2.2.2 19 (by decide))
  obtain ⟨v85, ee86⟩ : ∃ z : Int32, f1 29 = z := ⟨_, rfl⟩
  have b87 : Bd v85 (0) (40) := (by rw [← ee86]; exact b3.2.2.2.2.2.2.2 29 (by decide))
  obtain ⟨v88, ee89⟩ : ∃ z : Int32, f1 39 = z := ⟨_, rfl⟩
  have b90 : Bd v88 (0) (40) := (by rw [← ee89]; exact b3.2.2.2.2.2.2.2 39 (by decide))
  have q91 : elm (S 7) 1 = v4.toInt := (elm_of c2 1).trans (congrArg Int32.toInt (ee5))
  have q92 : elm (S 7) 0 = v7.toInt := (elm_of c2 0).trans (congrArg Int32.toInt (ee8))
  have q93 : elm (S 7) 3 = v10.toInt := (elm_of c2 3).trans (congrArg Int32.toInt (ee11))
  have q94 : elm (S 7) 6 = v13.toInt := (elm_of c2 6).trans (congrArg Int32.toInt (ee14))
  have q95 : elm (S 7) 8 = v16.toInt := (elm_of c2 8).trans (congrArg Int32.toInt (ee17))
  have q96 : elm (S 6) 0 = v22.toInt := (elm_of c20 0).trans (congrArg Int32.toInt (ee23))
  have q97 : elm (S 7) 11 = v25.toInt := (elm_of c2 11).trans (congrArg Int32.toInt (ee26))
  have q98 : elm (S 7) 10 = v28.toInt := (elm_of c2 10).trans (congrArg Int32.toInt (ee29))
  have q99 : elm (S 7) 13 = v31.toInt := (elm_of c2 13).trans (congrArg Int32.toInt (ee32))
  have q100 : elm (S 7) 16 = v34.toInt := (elm_of c2 16).trans (congrArg Int32.toInt (ee35))
  have q101 : elm (S 7) 18 = v37.toInt := (elm_of c2 18).trans (congrArg Int32.toInt (ee38))
  have q102 : elm (S 6) 1 = v40.toInt := (elm_of c20 1).trans (congrArg Int32.toInt (ee41))
  have q103 : elm (S 7) 21 = v43.toInt := (elm_of c2 21).trans (congrArg Int32.toInt (ee44))
  have q104 : elm (S 7) 20 = v46.toInt := (elm_of c2 20).trans (congrArg Int32.toInt (ee47))
  have q105 : elm (S 7) 23 = v49.toInt := (elm_of c2 23).trans (congrArg Int32.toInt (ee50))
  have q106 : elm (S 7) 26 = v52.toInt := (elm_of c2 26).trans (congrArg Int32.toInt (ee53))
  have q107 : elm (S 7) 28 = v55.toInt := (elm_of c2 28).trans (congrArg Int32.toInt (ee56))
  have q108 : elm (S 6) 2 = v58.toInt := (elm_of c20 2).trans (congrArg Int32.toInt (ee59))
  have q109 : elm (S 7) 31 = v61.toInt := (elm_of c2 31).trans (congrArg Int32.toInt (ee62))
  have q110 : elm (S 7) 30 = v64.toInt := (elm_of c2 30).trans (congrArg Int32.toInt (ee65))
  have q111 : elm (S 7) 33 = v67.toInt := (elm_of c2 33).trans (congrArg Int32.toInt (ee68))
  have q112 : elm (S 7) 36 = v70.toInt := (elm_of c2 36).trans (congrArg Int32.toInt (ee71))
  have q113 : elm (S 7) 38 = v73.toInt := (elm_of c2 38).trans (congrArg Int32.toInt (ee74))
  have q114 : elm (S 6) 3 = v76.toInt := (elm_of c20 3).trans (congrArg Int32.toInt (ee77))
  have q115 : elm (S 7) 9 = v79.toInt := (elm_of c2 9).trans (congrArg Int32.toInt (ee80))
  have q116 : elm (S 7) 19 = v82.toInt := (elm_of c2 19).trans (congrArg Int32.toInt (ee83))
  have q117 : elm (S 7) 29 = v85.toInt := (elm_of c2 29).trans (congrArg Int32.toInt (ee86))
  have q118 : elm (S 7) 39 = v88.toInt := (elm_of c2 39).trans (congrArg Int32.toInt (ee89))
  have ef7_0 : EFp (S 7) (S 7) 0 40 := fun _ _ _ => rfl
  have ef6_0 : EFp (S 6) (S 6) 0 4 := fun _ _ _ => rfl
  obtain ⟨f119, c120, b121⟩ := invM_12 hI
  refine lv_aload_n hx hb dX12_shore_0 rfl (lv_at hl 0 rfl) ?_
  refine lv_iconst (v := 0) hx hb dX12_shore_1 (by decide) ?_
  obtain ⟨v122, v123, v125, v127, v129, v130, w131, v132, v134, v135, v136, v137, v139, v141, v143, v145, v147, v148, v149, c150, b124, b126, b128, b133, b138, b140, b142, b144, b146⟩ := invM_0 hI
  have c150 : S 0 = .inr (12, [.int v122, .ref (ad 1), .ref (ad 2), .ref (ad 3), .ref (ad 4), .ref (ad 5), .int v123, .int v125, .int v127, .int v129, .int v130, .long w131, .int v132, .int v134, .int v135, .int v136, .ref (ad 6), .ref (ad 7), .ref (ad 8), .ref (ad 9), .ref (ad 10), .ref (ad 11), .ref (ad 12), .ref (ad 13), .ref (ad 14), .ref (ad 15), .int v137, .int v139, .ref (ad 16), .int v141, .int v143, .int v145, .int v147, .int v148, .ref (ad 17), .ref (ad 18), .int v149, .ref (ad 19)]) := c150
  refine xputi E hs hQ 0 (by decide) c150 rfl 0 (by decide) q1468 rfl rfl (Nat.le_of_ble_eq_true rfl) dX12_shore_2 (fun H locs S151 eS151 hQ => ?_)
  have hI := invM_up_0 hI eS151 ⟨0, v123, v125, v127, v129, v130, w131, v132, v134, v135, v136, v137, v139, v141, v143, v145, v147, v148, v149, rfl, b124, b126, b128, b133, b138, b140, b142, b144, b146⟩
  have c152 : S151 0 = .inr (12, [.int 0, .ref (ad 1), .ref (ad 2), .ref (ad 3), .ref (ad 4), .ref (ad 5), .int v123, .int v125, .int v127, .int v129, .int v130, .long w131, .int v132, .int v134, .int v135, .int v136, .ref (ad 6), .ref (ad 7), .ref (ad 8), .ref (ad 9), .ref (ad 10), .ref (ad 11), .ref (ad 12), .ref (ad 13), .ref (ad 14), .ref (ad 15), .int v137, .int v139, .ref (ad 16), .int v141, .int v143, .int v145, .int v147, .int v148, .ref (ad 17), .ref (ad 18), .int v149, .ref (ad 19)]) := up_at eS151 rfl
  refine lv_aload_n hx hb dX12_shore_5 rfl (lv_at hl 0 rfl) ?_
  refine xcVv E hs hQ hml hl.1 0 (gX12_clears_0 l g ad hD S151 hI ) mX12_clears q1625 (by decide) c152 rfl rfl ⟨(Nat.le_of_ble_eq_true rfl), (Nat.le_of_ble_eq_true rfl)⟩ ⟨(Nat.le_of_ble_eq_true rfl), (Nat.le_of_ble_eq_true rfl)⟩ (Nat.le_of_ble_eq_true rfl) rfl dX12_shore_6 (fun S153 H locs hp153 hQ _ => ?_)
  obtain ⟨hI, o153, g153_0, g153_1, g153_2, g153_3, g153_4, g153_5, g153_6, g153_7, ef153_7, ef153_6⟩ := hp153
  have ef154 : EFp (S153 7) (S 7) 0 40 := ef_tt ef153_7 (ef_tr ef7_0 (up_eq (j := 7) eS151 (by decide)))
  have ef155 : EFp (S153 6) (S 6) 0 4 := ef_tt ef153_6 (ef_tr ef6_0 (up_eq (j := 6) eS151 (by decide)))
  obtain ⟨f156, c157, b158⟩ := invM_7 hI
  obtain ⟨v159, ee160⟩ : ∃ z : Int32, f156 40 = z := ⟨_, rfl⟩
  have b161 : Bd v159 (0) (12) := (by rw [← ee160]; exact b158.1 40 (by decide))
  have q162 : elm (S153 7) 40 = v159.toInt := (elm_of c157 40).trans (congrArg Int32.toInt (ee160))
  have b163 : Bd v159 (0) (0) := ⟨(b161).1, by omega⟩
  obtain ⟨v164, ee165⟩ : ∃ z : Int32, f156 41 = z := ⟨_, rfl⟩
  have b166 : Bd v164 (0) (12) := (by rw [← ee165]; exact b158.2.1 41 (by decide))
  have q167 : elm (S153 7) 41 = v164.toInt := (elm_of c157 41).trans (congrArg Int32.toInt (ee165))
  have b168 : Bd v164 (0) (0) := ⟨(b166).1, by omega⟩
  obtain ⟨v169, ee170⟩ : ∃ z : Int32, f156 43 = z := ⟨_, rfl⟩
  have b171 : Bd v169 (0) (12) := (by rw [← ee170]; exact b158.2.2.2.1 43 (by decide))
  have q172 : elm (S153 7) 43 = v169.toInt := (elm_of c157 43).trans (congrArg Int32.toInt (ee170))
  have b173 : Bd v169 (0) (0) := ⟨(b171).1, by omega⟩
  obtain ⟨v174, ee175⟩ : ∃ z : Int32, f156 46 = z := ⟨_, rfl⟩
  have b176 : Bd v174 (0) (8) := (by rw [← ee175]; exact b158.2.2.2.2.1 46 (by decide))
  have q177 : elm (S153 7) 46 = v174.toInt := (elm_of c157 46).trans (congrArg Int32.toInt (ee175))
  have b178 : Bd v174 (0) (0) := ⟨(b176).1, by omega⟩
  obtain ⟨v179, ee180⟩ : ∃ z : Int32, f156 47 = z := ⟨_, rfl⟩
  have b181 : Bd v179 (0) (6) := (by rw [← ee180]; exact b158.2.2.2.2.2.1 47 (by decide))
  have q182 : elm (S153 7) 47 = v179.toInt := (elm_of c157 47).trans (congrArg Int32.toInt (ee180))
  have b183 : Bd v179 (0) (0) := ⟨(b181).1, by omega⟩
  obtain ⟨v184, ee185⟩ : ∃ z : Int32, f156 48 = z := ⟨_, rfl⟩
  have b186 : Bd v184 (0) (3) := (by rw [← ee185]; exact b158.2.2.2.2.2.2.1 48 (by decide))
  have q187 : elm (S153 7) 48 = v184.toInt := (elm_of c157 48).trans (congrArg Int32.toInt (ee185))
  have b188 : Bd v184 (0) (0) := ⟨(b186).1, by omega⟩
  obtain ⟨v189, ee190⟩ : ∃ z : Int32, f156 49 = z := ⟨_, rfl⟩
  have b191 : Bd v189 (0) (40) := (by rw [← ee190]; exact b158.2.2.2.2.2.2.2 49 (by decide))
  have q192 : elm (S153 7) 49 = v189.toInt := (elm_of c157 49).trans (congrArg Int32.toInt (ee190))
  have b193 : Bd v189 (0) (0) := ⟨(b191).1, by omega⟩
  obtain ⟨f194, c195, b196⟩ := invM_6 hI
  obtain ⟨v197, ee198⟩ : ∃ z : Int32, f194 4 = z := ⟨_, rfl⟩
  have b199 : Bd v197 (0) (40000) := (by rw [← ee198]; exact b196 4)
  have q200 : elm (S153 6) 4 = v197.toInt := (elm_of c195 4).trans (congrArg Int32.toInt (ee198))
  have b201 : Bd v197 (0) (0) := ⟨(b199).1, by omega⟩
  refine lv_aload_n hx hb dX12_shore_9 rfl (lv_at hl 0 rfl) ?_
  have c202 : S153 0 = .inr (12, [.int 0, .ref (ad 1), .ref (ad 2), .ref (ad 3), .ref (ad 4), .ref (ad 5), .int v123, .int v125, .int v127, .int v129, .int v130, .long w131, .int v132, .int v134, .int v135, .int v136, .ref (ad 6), .ref (ad 7), .ref (ad 8), .ref (ad 9), .ref (ad 10), .ref (ad 11), .ref (ad 12), .ref (ad 13), .ref (ad 14), .ref (ad 15), .int v137, .int v139, .ref (ad 16), .int v141, .int v143, .int v145, .int v147, .int v148, .ref (ad 17), .ref (ad 18), .int v149, .ref (ad 19)]) := ((o153 0 (by decide)).trans c152)
  refine xcVv E hs hQ hml hl.1 0 (gX12_begins_0 l g ad hD S153 hI ) mX12_begins q1633 (by decide) c202 rfl rfl ⟨(Nat.le_of_ble_eq_true rfl), (Nat.le_of_ble_eq_true rfl)⟩ ⟨(Nat.le_of_ble_eq_true rfl), (Nat.le_of_ble_eq_true rfl)⟩ (Nat.le_of_ble_eq_true rfl) rfl dX12_shore_10 (fun S203 H locs hp203 hQ _ => ?_)
  obtain ⟨hI, o203, g203_0, g203_1, g203_2⟩ := hp203
  obtain ⟨v204, v205, v207, v209, v211, v212, w213, v214, v216, v217, v218, v219, v221, v223, v225, v227, v229, v230, v231, c232, b206, b208, b210, b215, b220, b222, b224, b226, b228⟩ := invM_0 hI
  have c232 : S203 0 = .inr (12, [.int v204, .ref (ad 1), .ref (ad 2), .ref (ad 3), .ref (ad 4), .ref (ad 5), .int v205, .int v207, .int v209, .int v211, .int v212, .long w213, .int v214, .int v216, .int v217, .int v218, .ref (ad 6), .ref (ad 7), .ref (ad 8), .ref (ad 9), .ref (ad 10), .ref (ad 11), .ref (ad 12), .ref (ad 13), .ref (ad 14), .ref (ad 15), .int v219, .int v221, .ref (ad 16), .int v223, .int v225, .int v227, .int v229, .int v230, .ref (ad 17), .ref (ad 18), .int v231, .ref (ad 19)]) := c232
  have q233 : fld (S203 0) 6 = v205.toInt := fld_of c232 rfl
  have q234 : fld (S203 0) 7 = v207.toInt := fld_of c232 rfl
  have q235 : fld (S153 0) 6 = v123.toInt := fld_of c202 rfl
  have q236 : fld (S203 0) 12 = v214.toInt := fld_of c232 rfl
  have b237 : Bd v214 (0) (0) := ⟨(b215).1, by omega⟩
  have c238 : S203 7 = .inl (g.2 0, 50, .inl f156) := ((o203 7 (by decide)).trans c157)
  have c239 : S203 6 = .inl (g.2 0, 5, .inl f194) := ((o203 6 (by decide)).trans c195)
  have loop13 : ∀ (n : Nat) (S_13 : SS) (H : Heap) (locs : List Loc) (ls : Array Slot) (y13_0_0 : Int32) (y13_0_6 : Int32) (y13_0_7 : Int32) (y13_0_8 : Int32) (y13_0_9 : Int32) (y13_0_10 : Int32) (wy13_0_11 : Int64) (y13_0_12 : Int32) (y13_0_13 : Int32) (y13_0_14 : Int32) (y13_0_15 : Int32) (y13_0_26 : Int32) (y13_0_27 : Int32) (y13_0_29 : Int32) (y13_0_30 : Int32) (y13_0_31 : Int32) (y13_0_32 : Int32) (y13_0_33 : Int32) (y13_0_36 : Int32) (ye13_7_40 : Int32) (ye13_7_41 : Int32) (ye13_7_43 : Int32) (ye13_7_46 : Int32) (ye13_7_47 : Int32) (ye13_7_48 : Int32) (ye13_7_49 : Int32) (ye13_6_4 : Int32), Bd y13_0_6 (0) (1200) → Bd y13_0_7 (0) (1200) → Bd y13_0_8 (0) (4) → Bd y13_0_12 (0) (3) → Bd y13_0_26 (0) (11) → Bd y13_0_27 (-1) (400) → Bd y13_0_29 (0) (2) → Bd y13_0_30 (0) (11) → Bd y13_0_31 (-1) (468) → Bd ye13_7_40 (0) (12) → Bd ye13_7_41 (0) (12) → Bd ye13_7_43 (0) (12) → Bd ye13_7_46 (0) (8) → Bd ye13_7_47 (0) (6) → Bd ye13_7_48 (0) (3) → Bd ye13_7_49 (0) (0) → Bd ye13_6_4 (0) (100000) → 0 ≤ y13_0_6.toInt + (-1) * y13_0_7.toInt → 0 ≤ (-1) * ye13_7_49.toInt → 0 ≤ ye13_7_49.toInt → 0 ≤ (-1) * ye13_6_4.toInt + (-4) * y13_0_6.toInt + 4 * y13_0_7.toInt + (-1) * y13_0_8.toInt + 10000 * y13_0_12.toInt + 4804 → 0 ≤ 12 * ye13_7_41.toInt + (-1) * ye13_7_40.toInt → 0 ≤ 12 * ye13_7_43.toInt + (-1) * ye13_7_40.toInt → 0 ≤ 8 * ye13_7_40.toInt + (-1) * ye13_7_46.toInt → 0 ≤ 3 * ye13_7_40.toInt + (-1) * ye13_7_48.toInt → 0 ≤ 40000 * ye13_7_40.toInt + (-1) * ye13_6_4.toInt → 4 * y13_0_6.toInt + (-4) * y13_0_7.toInt + y13_0_8.toInt + (-10000) * y13_0_12.toInt + 30000 < ((n : Nat) : Int) → InvM g ad S_13 → (∀ j, j ∉ ([0, 6, 7, 8, 9, 10, 11] : List Nat) → S_13 j = S203 j) → S_13 0 = .inr (12, [.int y13_0_0, .ref (ad 1), .ref (ad 2), .ref (ad 3), .ref (ad 4), .ref (ad 5), .int y13_0_6, .int y13_0_7, .int y13_0_8, .int y13_0_9, .int y13_0_10, .long wy13_0_11, .int y13_0_12, .int y13_0_13, .int y13_0_14, .int y13_0_15, .ref (ad 6), .ref (ad 7), .ref (ad 8), .ref (ad 9), .ref (ad 10), .ref (ad 11), .ref (ad 12), .ref (ad 13), .ref (ad 14), .ref (ad 15), .int y13_0_26, .int y13_0_27, .ref (ad 16), .int y13_0_29, .int y13_0_30, .int y13_0_31, .int y13_0_32, .int y13_0_33, .ref (ad 17), .ref (ad 18), .int y13_0_36, .ref (ad 19)]) → EFp (S_13 7) (S 7) 0 40 → EFp (S_13 6) (S 6) 0 4 → elm (S_13 7) 40 = ye13_7_40.toInt → elm (S_13 7) 41 = ye13_7_41.toInt → elm (S_13 7) 43 = ye13_7_43.toInt → elm (S_13 7) 46 = ye13_7_46.toInt → elm (S_13 7) 47 = ye13_7_47.toInt → elm (S_13 7) 48 = ye13_7_48.toInt → elm (S_13 7) 49 = ye13_7_49.toInt → elm (S_13 6) 4 = ye13_6_4.toInt → Hp g ad 20 S_13 (FA ad 20) s.heap H locs → lv_has ls 1 [(0, .ref (ad 0))] → W p l e (Rm 7) s m [.ref (ad 0)].toArray below meth c H locs 0 0 (MQ below (va_Qi (fun r S' => InvM g ad S' ∧ (∀ j, j ∉ ([0, 6, 7, 8, 9, 10, 11, 12] : List Nat) → S' j = S j) ∧ Bd r (-4) (4804) ∧ (0 ≤ 12 * elm (S' 7) 1 + (-1) * elm (S' 7) 0) ∧ (0 ≤ 12 * elm (S' 7) 3 + (-1) * elm (S' 7) 0) ∧ (0 ≤ 8 * elm (S' 7) 0 + (-1) * elm (S' 7) 6) ∧ (0 ≤ 3 * elm (S' 7) 0 + (-1) * elm (S' 7) 8) ∧ (0 ≤ 40000 * elm (S' 7) 0 + (-1) * elm (S' 6) 0) ∧ (0 ≤ 12 * elm (S' 7) 11 + (-1) * elm (S' 7) 10) ∧ (0 ≤ 12 * elm (S' 7) 13 + (-1) * elm (S' 7) 10) ∧ (0 ≤ 8 * elm (S' 7) 10 + (-1) * elm (S' 7) 16) ∧ (0 ≤ 3 * elm (S' 7) 10 + (-1) * elm (S' 7) 18) ∧ (0 ≤ 40000 * elm (S' 7) 10 + (-1) * elm (S' 6) 1) ∧ (0 ≤ 12 * elm (S' 7) 21 + (-1) * elm (S' 7) 20) ∧ (0 ≤ 12 * elm (S' 7) 23 + (-1) * elm (S' 7) 20) ∧ (0 ≤ 8 * elm (S' 7) 20 + (-1) * elm (S' 7) 26) ∧ (0 ≤ 3 * elm (S' 7) 20 + (-1) * elm (S' 7) 28) ∧ (0 ≤ 40000 * elm (S' 7) 20 + (-1) * elm (S' 6) 2) ∧ (0 ≤ 12 * elm (S' 7) 31 + (-1) * elm (S' 7) 30) ∧ (0 ≤ 12 * elm (S' 7) 33 + (-1) * elm (S' 7) 30) ∧ (0 ≤ 8 * elm (S' 7) 30 + (-1) * elm (S' 7) 36) ∧ (0 ≤ 3 * elm (S' 7) 30 + (-1) * elm (S' 7) 38) ∧ (0 ≤ 40000 * elm (S' 7) 30 + (-1) * elm (S' 6) 3) ∧ (ATp (S' 7) (S' 12) 0) ∧ (ATp (S' 7) (S' 12) 1) ∧ (ATp (S' 7) (S' 12) 2) ∧ (ATp (S' 7) (S' 12) 3)) (QB g ad 20) (FA ad 20)) [.ref (ad 0)].toArray s 0 0 (FA ad 20)) (F0 m 13 ls []) := by
    intro n
    induction n with
    | zero => intro S_13 H locs ls y13_0_0 y13_0_6 y13_0_7 y13_0_8 y13_0_9 y13_0_10 wy13_0_11 y13_0_12 y13_0_13 y13_0_14 y13_0_15 y13_0_26 y13_0_27 y13_0_29 y13_0_30 y13_0_31 y13_0_32 y13_0_33 y13_0_36 ye13_7_40 ye13_7_41 ye13_7_43 ye13_7_46 ye13_7_47 ye13_7_48 ye13_7_49 ye13_6_4 By13_0_6 By13_0_7 By13_0_8 By13_0_12 By13_0_26 By13_0_27 By13_0_29 By13_0_30 By13_0_31 Bye13_7_40 Bye13_7_41 Bye13_7_43 Bye13_7_46 Bye13_7_47 Bye13_7_48 Bye13_7_49 Bye13_6_4 C13_0 C13_1 C13_2 C13_3 C13_4 C13_5 C13_6 C13_7 C13_8 hn13_ hI hf13 cl13_0 hE13_7 hE13_6 hy13_7_40 hy13_7_41 hy13_7_43 hy13_7_46 hy13_7_47 hy13_7_48 hy13_7_49 hy13_6_4 hQ hl; exfalso; omega
    | succ n13_ ih13 =>
      intro S_13 H locs ls y13_0_0 y13_0_6 y13_0_7 y13_0_8 y13_0_9 y13_0_10 wy13_0_11 y13_0_12 y13_0_13 y13_0_14 y13_0_15 y13_0_26 y13_0_27 y13_0_29 y13_0_30 y13_0_31 y13_0_32 y13_0_33 y13_0_36 ye13_7_40 ye13_7_41 ye13_7_43 ye13_7_46 ye13_7_47 ye13_7_48 ye13_7_49 ye13_6_4 By13_0_6 By13_0_7 By13_0_8 By13_0_12 By13_0_26 By13_0_27 By13_0_29 By13_0_30 By13_0_31 Bye13_7_40 Bye13_7_41 Bye13_7_43 Bye13_7_46 Bye13_7_47 Bye13_7_48 Bye13_7_49 Bye13_6_4 C13_0 C13_1 C13_2 C13_3 C13_4 C13_5 C13_6 C13_7 C13_8 hn13_ hI hf13 cl13_0 hE13_7 hE13_6 hy13_7_40 hy13_7_41 hy13_7_43 hy13_7_46 hy13_7_47 hy13_7_48 hy13_7_49 hy13_6_4 hQ hl
      have b240 : Bd ye13_6_4 (0) (34804) := ⟨(Bye13_6_4).1, by omega⟩
      refine lv_aload_n hx hb dX12_shore_13 rfl (lv_at hl 0 rfl) ?_
      refine xcVi E hs hQ hml hl.1 0 (gX12_isGood_0 l g ad hD S_13 hI ) mX12_isGood q1650 (by decide) cl13_0 rfl rfl ⟨(Nat.le_of_ble_eq_true rfl), (Nat.le_of_ble_eq_true rfl)⟩ ⟨(Nat.le_of_ble_eq_true rfl), (Nat.le_of_ble_eq_true rfl)⟩ (Nat.le_of_ble_eq_true rfl) rfl dX12_shore_14 (fun r241 S241 H locs hp241 hQ _ => ?_)
      obtain ⟨rfl, b241, g241_0, g241_1⟩ := hp241
      have q242 : fld (S_13 0) 12 = y13_0_12.toInt := fld_of cl13_0 rfl
      refine lv_if_eq (tgt := 149) hx hb dX12_shore_17 (by decide) (fun k243 => ?_) (fun k243 => ?_)
      · have h244 := ib_eq k243
        have b245 : Bd r241 (0) (0) := ⟨(b241).1, ((rf_eq b241 (by decide : Bd 0 (0) (0)) h244).1).2⟩
        clear g241_0
        have g246 := g241_1.resolve_left (by omega)
        clear g241_1
        have b247 : Bd y13_0_12 (1) (3) := ⟨by omega, (By13_0_12).2⟩
        refine lv_aload_n hx hb dX12_shore_149 rfl (lv_at hl 0 rfl) ?_
        refine xcVv E hs hQ hml hl.1 0 (gX12_isOver_0 l g ad hD S_13 hI ) mX12_isOver q1735 (by decide) cl13_0 rfl rfl ⟨(Nat.le_of_ble_eq_true rfl), (Nat.le_of_ble_eq_true rfl)⟩ ⟨(Nat.le_of_ble_eq_true rfl), (Nat.le_of_ble_eq_true rfl)⟩ (Nat.le_of_ble_eq_true rfl) rfl dX12_shore_150 (fun S248 H locs hp248 hQ _ => ?_)
        obtain ⟨hI, o248, g248_0⟩ := hp248
        obtain ⟨v249, v250, v252, v254, v256, v257, w258, v259, v261, v262, v263, v264, v266, v268, v270, v272, v274, v275, v276, c277, b251, b253, b255, b260, b265, b267, b269, b271, b273⟩ := invM_0 hI
        have c277 : S248 0 = .inr (12, [.int v249, .ref (ad 1), .ref (ad 2), .ref (ad 3), .ref (ad 4), .ref (ad 5), .int v250, .int v252, .int v254, .int v256, .int v257, .long w258, .int v259, .int v261, .int v262, .int v263, .ref (ad 6), .ref (ad 7), .ref (ad 8), .ref (ad 9), .ref (ad 10), .ref (ad 11), .ref (ad 12), .ref (ad 13), .ref (ad 14), .ref (ad 15), .int v264, .int v266, .ref (ad 16), .int v268, .int v270, .int v272, .int v274, .int v275, .ref (ad 17), .ref (ad 18), .int v276, .ref (ad 19)]) := c277
        have q278 : fld (S248 0) 12 = v259.toInt := fld_of c277 rfl
        have b279 : Bd v259 (1) (3) := ⟨by omega, (b260).2⟩
        refine lv_aload_n hx hb dX12_shore_153 rfl (lv_at hl 0 rfl) ?_
        refine xget E hQ 0 (by decide) c277 rfl 12 (by decide) q1480 rfl dX12_shore_154 ?_
        refine lv_if_eq (tgt := 163) hx hb dX12_shore_157 (by decide) (fun k280 => ?_) (fun k280 => ?_)
        · have h281 := ib_eq k280
          have b282 : Bd v259 (1) (0) := ⟨(b279).1, ((rf_eq b279 (by decide : Bd 0 (0) (0)) h281).1).2⟩
          exact absurd (Int.le_trans b282.1 b282.2) (by decide)
        · have h283 := ib_ne k280
          have ef284 : EFp (S248 7) (S 7) 0 40 := (ef_tr hE13_7 (o248 7 (by decide)))
          obtain ⟨f285, c286, b287⟩ := invM_7 hI
          obtain ⟨v288, ee289⟩ : ∃ z : Int32, f285 0 = z := ⟨_, rfl⟩
          have b290 : Bd v288 (0) (12) := (by rw [← ee289]; exact b287.1 0 (by decide))
          have q291 : elm (S248 7) 0 = v288.toInt := (elm_of c286 0).trans (congrArg Int32.toInt (ee289))
          have t292 : v288.toInt = v7.toInt := by have h0 := ef284 0 (by decide) (by decide); omega
          obtain ⟨v293, ee294⟩ : ∃ z : Int32, f285 1 = z := ⟨_, rfl⟩
          have b295 : Bd v293 (0) (12) := (by rw [← ee294]; exact b287.2.1 1 (by decide))
          have q296 : elm (S248 7) 1 = v293.toInt := (elm_of c286 1).trans (congrArg Int32.toInt (ee294))
          have t297 : v293.toInt = v4.toInt := by have h0 := ef284 1 (by decide) (by decide); omega
          obtain ⟨v298, ee299⟩ : ∃ z : Int32, f285 3 = z := ⟨_, rfl⟩
          have b300 : Bd v298 (0) (12) := (by rw [← ee299]; exact b287.2.2.2.1 3 (by decide))
          have q301 : elm (S248 7) 3 = v298.toInt := (elm_of c286 3).trans (congrArg Int32.toInt (ee299))
          have t302 : v298.toInt = v10.toInt := by have h0 := ef284 3 (by decide) (by decide); omega
          obtain ⟨v303, ee304⟩ : ∃ z : Int32, f285 6 = z := ⟨_, rfl⟩
          have b305 : Bd v303 (0) (8) := (by rw [← ee304]; exact b287.2.2.2.2.1 6 (by decide))
          have q306 : elm (S248 7) 6 = v303.toInt := (elm_of c286 6).trans (congrArg Int32.toInt (ee304))
          have t307 : v303.toInt = v13.toInt := by have h0 := ef284 6 (by decide) (by decide); omega
          obtain ⟨v308, ee309⟩ : ∃ z : Int32, f285 8 = z := ⟨_, rfl⟩
          have b310 : Bd v308 (0) (3) := (by rw [← ee309]; exact b287.2.2.2.2.2.2.1 8 (by decide))
          have q311 : elm (S248 7) 8 = v308.toInt := (elm_of c286 8).trans (congrArg Int32.toInt (ee309))
          have t312 : v308.toInt = v16.toInt := by have h0 := ef284 8 (by decide) (by decide); omega
          obtain ⟨v313, ee314⟩ : ∃ z : Int32, f285 9 = z := ⟨_, rfl⟩
          have b315 : Bd v313 (0) (40) := (by rw [← ee314]; exact b287.2.2.2.2.2.2.2 9 (by decide))
          have q316 : elm (S248 7) 9 = v313.toInt := (elm_of c286 9).trans (congrArg Int32.toInt (ee314))
          have t317 : v313.toInt = v79.toInt := by have h0 := ef284 9 (by decide) (by decide); omega
          obtain ⟨v318, ee319⟩ : ∃ z : Int32, f285 10 = z := ⟨_, rfl⟩
          have b320 : Bd v318 (0) (12) := (by rw [← ee319]; exact b287.1 10 (by decide))
          have q321 : elm (S248 7) 10 = v318.toInt := (elm_of c286 10).trans (congrArg Int32.toInt (ee319))
          have t322 : v318.toInt = v28.toInt := by have h0 := ef284 10 (by decide) (by decide); omega
          obtain ⟨v323, ee324⟩ : ∃ z : Int32, f285 11 = z := ⟨_, rfl⟩
          have b325 : Bd v323 (0) (12) := (by rw [← ee324]; exact b287.2.1 11 (by decide))
          have q326 : elm (S248 7) 11 = v323.toInt := (elm_of c286 11).trans (congrArg Int32.toInt (ee324))
          have t327 : v323.toInt = v25.toInt := by have h0 := ef284 11 (by decide) (by decide); omega
          obtain ⟨v328, ee329⟩ : ∃ z : Int32, f285 13 = z := ⟨_, rfl⟩
          have b330 : Bd v328 (0) (12) := (by rw [← ee329]; exact b287.2.2.2.1 13 (by decide))
          have q331 : elm (S248 7) 13 = v328.toInt := (elm_of c286 13).trans (congrArg Int32.toInt (ee329))
          have t332 : v328.toInt = v31.toInt := by have h0 := ef284 13 (by decide) (by decide); omega
          obtain ⟨v333, ee334⟩ : ∃ z : Int32, f285 16 = z := ⟨_, rfl⟩
          have b335 : Bd v333 (0) (8) := (by rw [← ee334]; exact b287.2.2.2.2.1 16 (by decide))
          have q336 : elm (S248 7) 16 = v333.toInt := (elm_of c286 16).trans (congrArg Int32.toInt (ee334))
          have t337 : v333.toInt = v34.toInt := by have h0 := ef284 16 (by decide) (by decide); omega
          obtain ⟨v338, ee339⟩ : ∃ z : Int32, f285 18 = z := ⟨_, rfl⟩
          have b340 : Bd v338 (0) (3) := (by rw [← ee339]; exact b287.2.2.2.2.2.2.1 18 (by decide))
          have q341 : elm (S248 7) 18 = v338.toInt := (elm_of c286 18).trans (congrArg Int32.toInt (ee339))
          have t342 : v338.toInt = v37.toInt := by have h0 := ef284 18 (by decide) (by decide); omega
          obtain ⟨v343, ee344⟩ : ∃ z : Int32, f285 19 = z := ⟨_, rfl⟩
          have b345 : Bd v343 (0) (40) := (by rw [← ee344]; exact b287.2.2.2.2.2.2.2 19 (by decide))
          have q346 : elm (S248 7) 19 = v343.toInt := (elm_of c286 19).trans (congrArg Int32.toInt (ee344))
          have t347 : v343.toInt = v82.toInt := by have h0 := ef284 19 (by decide) (by decide); omega
          obtain ⟨v348, ee349⟩ : ∃ z : Int32, f285 20 = z := ⟨_, rfl⟩
          have b350 : Bd v348 (0) (12) := (by rw [← ee349]; exact b287.1 20 (by decide))
          have q351 : elm (S248 7) 20 = v348.toInt := (elm_of c286 20).trans (congrArg Int32.toInt (ee349))
          have t352 : v348.toInt = v46.toInt := by have h0 := ef284 20 (by decide) (by decide); omega
          obtain ⟨v353, ee354⟩ : ∃ z : Int32, f285 21 = z := ⟨_, rfl⟩
          have b355 : Bd v353 (0) (12) := (by rw [← ee354]; exact b287.2.1 21 (by decide))
          have q356 : elm (S248 7) 21 = v353.toInt := (elm_of c286 21).trans (congrArg Int32.toInt (ee354))
          have t357 : v353.toInt = v43.toInt := by have h0 := ef284 21 (by decide) (by decide); omega
          obtain ⟨v358, ee359⟩ : ∃ z : Int32, f285 23 = z := ⟨_, rfl⟩
          have b360 : Bd v358 (0) (12) := (by rw [← ee359]; exact b287.2.2.2.1 23 (by decide))
          have q361 : elm (S248 7) 23 = v358.toInt := (elm_of c286 23).trans (congrArg Int32.toInt (ee359))
          have t362 : v358.toInt = v49.toInt := by have h0 := ef284 23 (by decide) (by decide); omega
          obtain ⟨v363, ee364⟩ : ∃ z : Int32, f285 26 = z := ⟨_, rfl⟩
          have b365 : Bd v363 (0) (8) := (by rw [← ee364]; exact b287.2.2.2.2.1 26 (by decide))
          have q366 : elm (S248 7) 26 = v363.toInt := (elm_of c286 26).trans (congrArg Int32.toInt (ee364))
          have t367 : v363.toInt = v52.toInt := by have h0 := ef284 26 (by decide) (by decide); omega
          obtain ⟨v368, ee369⟩ : ∃ z : Int32, f285 28 = z := ⟨_, rfl⟩
          have b370 : Bd v368 (0) (3) := (by rw [← ee369]; exact b287.2.2.2.2.2.2.1 28 (by decide))
          have q371 : elm (S248 7) 28 = v368.toInt := (elm_of c286 28).trans (congrArg Int32.toInt (ee369))
          have t372 : v368.toInt = v55.toInt := by have h0 := ef284 28 (by decide) (by decide); omega
          obtain ⟨v373, ee374⟩ : ∃ z : Int32, f285 29 = z := ⟨_, rfl⟩
          have b375 : Bd v373 (0) (40) := (by rw [← ee374]; exact b287.2.2.2.2.2.2.2 29 (by decide))
          have q376 : elm (S248 7) 29 = v373.toInt := (elm_of c286 29).trans (congrArg Int32.toInt (ee374))
          have t377 : v373.toInt = v85.toInt := by have h0 := ef284 29 (by decide) (by decide); omega
          obtain ⟨v378, ee379⟩ : ∃ z : Int32, f285 30 = z := ⟨_, rfl⟩
          have b380 : Bd v378 (0) (12) := (by rw [← ee379]; exact b287.1 30 (by decide))
          have q381 : elm (S248 7) 30 = v378.toInt := (elm_of c286 30).trans (congrArg Int32.toInt (ee379))
          have t382 : v378.toInt = v64.toInt := by have h0 := ef284 30 (by decide) (by decide); omega
          obtain ⟨v383, ee384⟩ : ∃ z : Int32, f285 31 = z := ⟨_, rfl⟩
          have b385 : Bd v383 (0) (12) := (by rw [← ee384]; exact b287.2.1 31 (by decide))
          have q386 : elm (S248 7) 31 = v383.toInt := (elm_of c286 31).trans (congrArg Int32.toInt (ee384))
          have t387 : v383.toInt = v61.toInt := by have h0 := ef284 31 (by decide) (by decide); omega
          obtain ⟨v388, ee389⟩ : ∃ z : Int32, f285 33 = z := ⟨_, rfl⟩
          have b390 : Bd v388 (0) (12) := (by rw [← ee389]; exact b287.2.2.2.1 33 (by decide))
          have q391 : elm (S248 7) 33 = v388.toInt := (elm_of c286 33).trans (congrArg Int32.toInt (ee389))
          have t392 : v388.toInt = v67.toInt := by have h0 := ef284 33 (by decide) (by decide); omega
          obtain ⟨v393, ee394⟩ : ∃ z : Int32, f285 36 = z := ⟨_, rfl⟩
          have b395 : Bd v393 (0) (8) := (by rw [← ee394]; exact b287.2.2.2.2.1 36 (by decide))
          have q396 : elm (S248 7) 36 = v393.toInt := (elm_of c286 36).trans (congrArg Int32.toInt (ee394))
          have t397 : v393.toInt = v70.toInt := by have h0 := ef284 36 (by decide) (by decide); omega
          obtain ⟨v398, ee399⟩ : ∃ z : Int32, f285 38 = z := ⟨_, rfl⟩
          have b400 : Bd v398 (0) (3) := (by rw [← ee399]; exact b287.2.2.2.2.2.2.1 38 (by decide))
          have q401 : elm (S248 7) 38 = v398.toInt := (elm_of c286 38).trans (congrArg Int32.toInt (ee399))
          have t402 : v398.toInt = v73.toInt := by have h0 := ef284 38 (by decide) (by decide); omega
          obtain ⟨v403, ee404⟩ : ∃ z : Int32, f285 39 = z := ⟨_, rfl⟩
          have b405 : Bd v403 (0) (40) := (by rw [← ee404]; exact b287.2.2.2.2.2.2.2 39 (by decide))
          have q406 : elm (S248 7) 39 = v403.toInt := (elm_of c286 39).trans (congrArg Int32.toInt (ee404))
          have t407 : v403.toInt = v88.toInt := by have h0 := ef284 39 (by decide) (by decide); omega
          have ef408 : EFp (S248 6) (S 6) 0 4 := (ef_tr hE13_6 (o248 6 (by decide)))
          obtain ⟨f409, c410, b411⟩ := invM_6 hI
          obtain ⟨v412, ee413⟩ : ∃ z : Int32, f409 0 = z := ⟨_, rfl⟩
          have b414 : Bd v412 (0) (40000) := (by rw [← ee413]; exact b411 0)
          have q415 : elm (S248 6) 0 = v412.toInt := (elm_of c410 0).trans (congrArg Int32.toInt (ee413))
          have t416 : v412.toInt = v22.toInt := by have h0 := ef408 0 (by decide) (by decide); omega
          obtain ⟨v417, ee418⟩ : ∃ z : Int32, f409 1 = z := ⟨_, rfl⟩
          have b419 : Bd v417 (0) (40000) := (by rw [← ee418]; exact b411 1)
          have q420 : elm (S248 6) 1 = v417.toInt := (elm_of c410 1).trans (congrArg Int32.toInt (ee418))
          have t421 : v417.toInt = v40.toInt := by have h0 := ef408 1 (by decide) (by decide); omega
          obtain ⟨v422, ee423⟩ : ∃ z : Int32, f409 2 = z := ⟨_, rfl⟩
          have b424 : Bd v422 (0) (40000) := (by rw [← ee423]; exact b411 2)
          have q425 : elm (S248 6) 2 = v422.toInt := (elm_of c410 2).trans (congrArg Int32.toInt (ee423))
          have t426 : v422.toInt = v58.toInt := by have h0 := ef408 2 (by decide) (by decide); omega
          obtain ⟨v427, ee428⟩ : ∃ z : Int32, f409 3 = z := ⟨_, rfl⟩
          have b429 : Bd v427 (0) (40000) := (by rw [← ee428]; exact b411 3)
          have q430 : elm (S248 6) 3 = v427.toInt := (elm_of c410 3).trans (congrArg Int32.toInt (ee428))
          have t431 : v427.toInt = v76.toInt := by have h0 := ef408 3 (by decide) (by decide); omega
          have at432 : ATp (S248 7) (S248 12) 0 := at_ef hAT0 ef284 (by decide) ((o248 12 (by decide)).trans ((hf13 12 (by decide)).trans ((o203 12 (by decide)).trans ((o153 12 (by decide)).trans (up_eq (j := 12) eS151 (by decide))))))
          have at433 : ATp (S248 7) (S248 12) 1 := at_ef hAT1 ef284 (by decide) ((o248 12 (by decide)).trans ((hf13 12 (by decide)).trans ((o203 12 (by decide)).trans ((o153 12 (by decide)).trans (up_eq (j := 12) eS151 (by decide))))))
          have at434 : ATp (S248 7) (S248 12) 2 := at_ef hAT2 ef284 (by decide) ((o248 12 (by decide)).trans ((hf13 12 (by decide)).trans ((o203 12 (by decide)).trans ((o153 12 (by decide)).trans (up_eq (j := 12) eS151 (by decide))))))
          have at435 : ATp (S248 7) (S248 12) 3 := at_ef hAT3 ef284 (by decide) ((o248 12 (by decide)).trans ((hf13 12 (by decide)).trans ((o203 12 (by decide)).trans ((o153 12 (by decide)).trans (up_eq (j := 12) eS151 (by decide))))))
          refine lv_bipush (v := (-4)) hx hb dX12_shore_160 (by decide) ?_
          exact xri E hr hlk hQ (⟨hI, (o_trans (o_trans (o_trans (o_trans (up_o o_refl eS151 (by decide)) o153 (by decide)) o203 (by decide)) hf13 (by decide)) o248 (by decide)), (ib_wk (by decide : Bd (-4) (-4) (-4)) (by decide) (by decide)), (by omega), (by omega), (by omega), (by omega), (by omega), (by omega), (by omega), (by omega), (by omega), (by omega), (by omega), (by omega), (by omega), (by omega), (by omega), (by omega), (by omega), (by omega), (by omega), (by omega), at432, at433, at434, at435⟩) dX12_shore_162
      · have h436 := ib_ne k243
        have b437 : Bd r241 (1) (1) := rf_nlo b241 (by decide : Bd 0 (0) (0)) h436
        have g438 := g241_0.resolve_left (by omega)
        clear g241_0
        have b439 : Bd y13_0_12 (0) (0) := ⟨(By13_0_12).1, by omega⟩
        clear g241_1
        refine lv_aload_n hx hb dX12_shore_20 rfl (lv_at hl 0 rfl) ?_
        refine xget E hQ 0 (by decide) cl13_0 rfl 8 (by decide) q1476 rfl dX12_shore_21 ?_
        refine lv_if_eq (tgt := 149) hx hb dX12_shore_24 (by decide) (fun k440 => ?_) (fun k440 => ?_)
        · have h441 := ib_eq k440
          have b442 : Bd y13_0_8 (0) (0) := ⟨(By13_0_8).1, ((rf_eq By13_0_8 (by decide : Bd 0 (0) (0)) h441).1).2⟩
          refine lv_aload_n hx hb dX12_shore_149 rfl (lv_at hl 0 rfl) ?_
          refine xcVv E hs hQ hml hl.1 0 (gX12_isOver_0 l g ad hD S_13 hI ) mX12_isOver q1735 (by decide) cl13_0 rfl rfl ⟨(Nat.le_of_ble_eq_true rfl), (Nat.le_of_ble_eq_true rfl)⟩ ⟨(Nat.le_of_ble_eq_true rfl), (Nat.le_of_ble_eq_true rfl)⟩ (Nat.le_of_ble_eq_true rfl) rfl dX12_shore_150 (fun S443 H locs hp443 hQ _ => ?_)
          obtain ⟨hI, o443, g443_0⟩ := hp443
          obtain ⟨v444, v445, v447, v449, v451, v452, w453, v454, v456, v457, v458, v459, v461, v463, v465, v467, v469, v470, v471, c472, b446, b448, b450, b455, b460, b462, b464, b466, b468⟩ := invM_0 hI
          have c472 : S443 0 = .inr (12, [.int v444, .ref (ad 1), .ref (ad 2), .ref (ad 3), .ref (ad 4), .ref (ad 5), .int v445, .int v447, .int v449, .int v451, .int v452, .long w453, .int v454, .int v456, .int v457, .int v458, .ref (ad 6), .ref (ad 7), .ref (ad 8), .ref (ad 9), .ref (ad 10), .ref (ad 11), .ref (ad 12), .ref (ad 13), .ref (ad 14), .ref (ad 15), .int v459, .int v461, .ref (ad 16), .int v463, .int v465, .int v467, .int v469, .int v470, .ref (ad 17), .ref (ad 18), .int v471, .ref (ad 19)]) := c472
          have q473 : fld (S443 0) 12 = v454.toInt := fld_of c472 rfl
          have b474 : Bd v454 (0) (0) := ⟨(b455).1, by omega⟩
          refine lv_aload_n hx hb dX12_shore_153 rfl (lv_at hl 0 rfl) ?_
          refine xget E hQ 0 (by decide) c472 rfl 12 (by decide) q1480 rfl dX12_shore_154 ?_
          refine lv_if_eq (tgt := 163) hx hb dX12_shore_157 (by decide) (fun k475 => ?_) (fun k475 => ?_)
          · have h476 := ib_eq k475
            have ef477 : EFp (S443 7) (S 7) 0 40 := (ef_tr hE13_7 (o443 7 (by decide)))
            obtain ⟨f478, c479, b480⟩ := invM_7 hI
            obtain ⟨v481, ee482⟩ : ∃ z : Int32, f478 0 = z := ⟨_, rfl⟩
            have b483 : Bd v481 (0) (12) := (by rw [← ee482]; exact b480.1 0 (by decide))
            have q484 : elm (S443 7) 0 = v481.toInt := (elm_of c479 0).trans (congrArg Int32.toInt (ee482))
            have t485 : v481.toInt = v7.toInt := by have h0 := ef477 0 (by decide) (by decide); omega
            obtain ⟨v486, ee487⟩ : ∃ z : Int32, f478 1 = z := ⟨_, rfl⟩
            have b488 : Bd v486 (0) (12) := (by rw [← ee487]; exact b480.2.1 1 (by decide))
            have q489 : elm (S443 7) 1 = v486.toInt := (elm_of c479 1).trans (congrArg Int32.toInt (ee487))
            have t490 : v486.toInt = v4.toInt := by have h0 := ef477 1 (by decide) (by decide); omega
            obtain ⟨v491, ee492⟩ : ∃ z : Int32, f478 3 = z := ⟨_, rfl⟩
            have b493 : Bd v491 (0) (12) := (by rw [← ee492]; exact b480.2.2.2.1 3 (by decide))
            have q494 : elm (S443 7) 3 = v491.toInt := (elm_of c479 3).trans (congrArg Int32.toInt (ee492))
            have t495 : v491.toInt = v10.toInt := by have h0 := ef477 3 (by decide) (by decide); omega
            obtain ⟨v496, ee497⟩ : ∃ z : Int32, f478 6 = z := ⟨_, rfl⟩
            have b498 : Bd v496 (0) (8) := (by rw [← ee497]; exact b480.2.2.2.2.1 6 (by decide))
            have q499 : elm (S443 7) 6 = v496.toInt := (elm_of c479 6).trans (congrArg Int32.toInt (ee497))
            have t500 : v496.toInt = v13.toInt := by have h0 := ef477 6 (by decide) (by decide); omega
            obtain ⟨v501, ee502⟩ : ∃ z : Int32, f478 8 = z := ⟨_, rfl⟩
            have b503 : Bd v501 (0) (3) := (by rw [← ee502]; exact b480.2.2.2.2.2.2.1 8 (by decide))
            have q504 : elm (S443 7) 8 = v501.toInt := (elm_of c479 8).trans (congrArg Int32.toInt (ee502))
            have t505 : v501.toInt = v16.toInt := by have h0 := ef477 8 (by decide) (by decide); omega
            obtain ⟨v506, ee507⟩ : ∃ z : Int32, f478 9 = z := ⟨_, rfl⟩
            have b508 : Bd v506 (0) (40) := (by rw [← ee507]; exact b480.2.2.2.2.2.2.2 9 (by decide))
            have q509 : elm (S443 7) 9 = v506.toInt := (elm_of c479 9).trans (congrArg Int32.toInt (ee507))
            have t510 : v506.toInt = v79.toInt := by have h0 := ef477 9 (by decide) (by decide); omega
            obtain ⟨v511, ee512⟩ : ∃ z : Int32, f478 10 = z := ⟨_, rfl⟩
            have b513 : Bd v511 (0) (12) := (by rw [← ee512]; exact b480.1 10 (by decide))
            have q514 : elm (S443 7) 10 = v511.toInt := (elm_of c479 10).trans (congrArg Int32.toInt (ee512))
            have t515 : v511.toInt = v28.toInt := by have h0 := ef477 10 (by decide) (by decide); omega
            obtain ⟨v516, ee517⟩ : ∃ z : Int32, f478 11 = z := ⟨_, rfl⟩
            have b518 : Bd v516 (0) (12) := (by rw [← ee517]; exact b480.2.1 11 (by decide))
            have q519 : elm (S443 7) 11 = v516.toInt := (elm_of c479 11).trans (congrArg Int32.toInt (ee517))
            have t520 : v516.toInt = v25.toInt := by have h0 := ef477 11 (by decide) (by decide); omega
            obtain ⟨v521, ee522⟩ : ∃ z : Int32, f478 13 = z := ⟨_, rfl⟩
            have b523 : Bd v521 (0) (12) := (by rw [← ee522]; exact b480.2.2.2.1 13 (by decide))
            have q524 : elm (S443 7) 13 = v521.toInt := (elm_of c479 13).trans (congrArg Int32.toInt (ee522))
            have t525 : v521.toInt = v31.toInt := by have h0 := ef477 13 (by decide) (by decide); omega
            obtain ⟨v526, ee527⟩ : ∃ z : Int32, f478 16 = z := ⟨_, rfl⟩
            have b528 : Bd v526 (0) (8) := (by rw [← ee527]; exact b480.2.2.2.2.1 16 (by decide))
            have q529 : elm (S443 7) 16 = v526.toInt := (elm_of c479 16).trans (congrArg Int32.toInt (ee527))
            have t530 : v526.toInt = v34.toInt := by have h0 := ef477 16 (by decide) (by decide); omega
            obtain ⟨v531, ee532⟩ : ∃ z : Int32, f478 18 = z := ⟨_, rfl⟩
            have b533 : Bd v531 (0) (3) := (by rw [← ee532]; exact b480.2.2.2.2.2.2.1 18 (by decide))
            have q534 : elm (S443 7) 18 = v531.toInt := (elm_of c479 18).trans (congrArg Int32.toInt (ee532))
            have t535 : v531.toInt = v37.toInt := by have h0 := ef477 18 (by decide) (by decide); omega
            obtain ⟨v536, ee537⟩ : ∃ z : Int32, f478 19 = z := ⟨_, rfl⟩
            have b538 : Bd v536 (0) (40) := (by rw [← ee537]; exact b480.2.2.2.2.2.2.2 19 (by decide))
            have q539 : elm (S443 7) 19 = v536.toInt := (elm_of c479 19).trans (congrArg Int32.toInt (ee537))
            have t540 : v536.toInt = v82.toInt := by have h0 := ef477 19 (by decide) (by decide); omega
            obtain ⟨v541, ee542⟩ : ∃ z : Int32, f478 20 = z := ⟨_, rfl⟩
            have b543 : Bd v541 (0) (12) := (by rw [← ee542]; exact b480.1 20 (by decide))
            have q544 : elm (S443 7) 20 = v541.toInt := (elm_of c479 20).trans (congrArg Int32.toInt (ee542))
            have t545 : v541.toInt = v46.toInt := by have h0 := ef477 20 (by decide) (by decide); omega
            obtain ⟨v546, ee547⟩ : ∃ z : Int32, f478 21 = z := ⟨_, rfl⟩
            have b548 : Bd v546 (0) (12) := (by rw [← ee547]; exact b480.2.1 21 (by decide))
            have q549 : elm (S443 7) 21 = v546.toInt := (elm_of c479 21).trans (congrArg Int32.toInt (ee547))
            have t550 : v546.toInt = v43.toInt := by have h0 := ef477 21 (by decide) (by decide); omega
            obtain ⟨v551, ee552⟩ : ∃ z : Int32, f478 23 = z := ⟨_, rfl⟩
            have b553 : Bd v551 (0) (12) := (by rw [← ee552]; exact b480.2.2.2.1 23 (by decide))
            have q554 : elm (S443 7) 23 = v551.toInt := (elm_of c479 23).trans (congrArg Int32.toInt (ee552))
            have t555 : v551.toInt = v49.toInt := by have h0 := ef477 23 (by decide) (by decide); omega
            obtain ⟨v556, ee557⟩ : ∃ z : Int32, f478 26 = z := ⟨_, rfl⟩
            have b558 : Bd v556 (0) (8) := (by rw [← ee557]; exact b480.2.2.2.2.1 26 (by decide))
            have q559 : elm (S443 7) 26 = v556.toInt := (elm_of c479 26).trans (congrArg Int32.toInt (ee557))
            have t560 : v556.toInt = v52.toInt := by have h0 := ef477 26 (by decide) (by decide); omega
            obtain ⟨v561, ee562⟩ : ∃ z : Int32, f478 28 = z := ⟨_, rfl⟩
            have b563 : Bd v561 (0) (3) := (by rw [← ee562]; exact b480.2.2.2.2.2.2.1 28 (by decide))
            have q564 : elm (S443 7) 28 = v561.toInt := (elm_of c479 28).trans (congrArg Int32.toInt (ee562))
            have t565 : v561.toInt = v55.toInt := by have h0 := ef477 28 (by decide) (by decide); omega
            obtain ⟨v566, ee567⟩ : ∃ z : Int32, f478 29 = z := ⟨_, rfl⟩
            have b568 : Bd v566 (0) (40) := (by rw [← ee567]; exact b480.2.2.2.2.2.2.2 29 (by decide))
            have q569 : elm (S443 7) 29 = v566.toInt := (elm_of c479 29).trans (congrArg Int32.toInt (ee567))
            have t570 : v566.toInt = v85.toInt := by have h0 := ef477 29 (by decide) (by decide); omega
            obtain ⟨v571, ee572⟩ : ∃ z : Int32, f478 30 = z := ⟨_, rfl⟩
            have b573 : Bd v571 (0) (12) := (by rw [← ee572]; exact b480.1 30 (by decide))
            have q574 : elm (S443 7) 30 = v571.toInt := (elm_of c479 30).trans (congrArg Int32.toInt (ee572))
            have t575 : v571.toInt = v64.toInt := by have h0 := ef477 30 (by decide) (by decide); omega
            obtain ⟨v576, ee577⟩ : ∃ z : Int32, f478 31 = z := ⟨_, rfl⟩
            have b578 : Bd v576 (0) (12) := (by rw [← ee577]; exact b480.2.1 31 (by decide))
            have q579 : elm (S443 7) 31 = v576.toInt := (elm_of c479 31).trans (congrArg Int32.toInt (ee577))
            have t580 : v576.toInt = v61.toInt := by have h0 := ef477 31 (by decide) (by decide); omega
            obtain ⟨v581, ee582⟩ : ∃ z : Int32, f478 33 = z := ⟨_, rfl⟩
            have b583 : Bd v581 (0) (12) := (by rw [← ee582]; exact b480.2.2.2.1 33 (by decide))
            have q584 : elm (S443 7) 33 = v581.toInt := (elm_of c479 33).trans (congrArg Int32.toInt (ee582))
            have t585 : v581.toInt = v67.toInt := by have h0 := ef477 33 (by decide) (by decide); omega
            obtain ⟨v586, ee587⟩ : ∃ z : Int32, f478 36 = z := ⟨_, rfl⟩
            have b588 : Bd v586 (0) (8) := (by rw [← ee587]; exact b480.2.2.2.2.1 36 (by decide))
            have q589 : elm (S443 7) 36 = v586.toInt := (elm_of c479 36).trans (congrArg Int32.toInt (ee587))
            have t590 : v586.toInt = v70.toInt := by have h0 := ef477 36 (by decide) (by decide); omega
            obtain ⟨v591, ee592⟩ : ∃ z : Int32, f478 38 = z := ⟨_, rfl⟩
            have b593 : Bd v591 (0) (3) := (by rw [← ee592]; exact b480.2.2.2.2.2.2.1 38 (by decide))
            have q594 : elm (S443 7) 38 = v591.toInt := (elm_of c479 38).trans (congrArg Int32.toInt (ee592))
            have t595 : v591.toInt = v73.toInt := by have h0 := ef477 38 (by decide) (by decide); omega
            obtain ⟨v596, ee597⟩ : ∃ z : Int32, f478 39 = z := ⟨_, rfl⟩
            have b598 : Bd v596 (0) (40) := (by rw [← ee597]; exact b480.2.2.2.2.2.2.2 39 (by decide))
            have q599 : elm (S443 7) 39 = v596.toInt := (elm_of c479 39).trans (congrArg Int32.toInt (ee597))
            have t600 : v596.toInt = v88.toInt := by have h0 := ef477 39 (by decide) (by decide); omega
            have ef601 : EFp (S443 6) (S 6) 0 4 := (ef_tr hE13_6 (o443 6 (by decide)))
            obtain ⟨f602, c603, b604⟩ := invM_6 hI
            obtain ⟨v605, ee606⟩ : ∃ z : Int32, f602 0 = z := ⟨_, rfl⟩
            have b607 : Bd v605 (0) (40000) := (by rw [← ee606]; exact b604 0)
            have q608 : elm (S443 6) 0 = v605.toInt := (elm_of c603 0).trans (congrArg Int32.toInt (ee606))
            have t609 : v605.toInt = v22.toInt := by have h0 := ef601 0 (by decide) (by decide); omega
            obtain ⟨v610, ee611⟩ : ∃ z : Int32, f602 1 = z := ⟨_, rfl⟩
            have b612 : Bd v610 (0) (40000) := (by rw [← ee611]; exact b604 1)
            have q613 : elm (S443 6) 1 = v610.toInt := (elm_of c603 1).trans (congrArg Int32.toInt (ee611))
            have t614 : v610.toInt = v40.toInt := by have h0 := ef601 1 (by decide) (by decide); omega
            obtain ⟨v615, ee616⟩ : ∃ z : Int32, f602 2 = z := ⟨_, rfl⟩
            have b617 : Bd v615 (0) (40000) := (by rw [← ee616]; exact b604 2)
            have q618 : elm (S443 6) 2 = v615.toInt := (elm_of c603 2).trans (congrArg Int32.toInt (ee616))
            have t619 : v615.toInt = v58.toInt := by have h0 := ef601 2 (by decide) (by decide); omega
            obtain ⟨v620, ee621⟩ : ∃ z : Int32, f602 3 = z := ⟨_, rfl⟩
            have b622 : Bd v620 (0) (40000) := (by rw [← ee621]; exact b604 3)
            have q623 : elm (S443 6) 3 = v620.toInt := (elm_of c603 3).trans (congrArg Int32.toInt (ee621))
            have t624 : v620.toInt = v76.toInt := by have h0 := ef601 3 (by decide) (by decide); omega
            have at625 : ATp (S443 7) (S443 12) 0 := at_ef hAT0 ef477 (by decide) ((o443 12 (by decide)).trans ((hf13 12 (by decide)).trans ((o203 12 (by decide)).trans ((o153 12 (by decide)).trans (up_eq (j := 12) eS151 (by decide))))))
            have at626 : ATp (S443 7) (S443 12) 1 := at_ef hAT1 ef477 (by decide) ((o443 12 (by decide)).trans ((hf13 12 (by decide)).trans ((o203 12 (by decide)).trans ((o153 12 (by decide)).trans (up_eq (j := 12) eS151 (by decide))))))
            have at627 : ATp (S443 7) (S443 12) 2 := at_ef hAT2 ef477 (by decide) ((o443 12 (by decide)).trans ((hf13 12 (by decide)).trans ((o203 12 (by decide)).trans ((o153 12 (by decide)).trans (up_eq (j := 12) eS151 (by decide))))))
            have at628 : ATp (S443 7) (S443 12) 3 := at_ef hAT3 ef477 (by decide) ((o443 12 (by decide)).trans ((hf13 12 (by decide)).trans ((o203 12 (by decide)).trans ((o153 12 (by decide)).trans (up_eq (j := 12) eS151 (by decide))))))
            refine lv_aload_n hx hb dX12_shore_163 rfl (lv_at hl 0 rfl) ?_
            refine lv_iconst (v := 4) hx hb dX12_shore_164 (by decide) ?_
            refine lv_iconst (v := 0) hx hb dX12_shore_165 (by decide) ?_
            have q629 : (4 : Int32).toInt = 4 := by decide
            have q630 : (0 : Int32).toInt = 0 := by decide
            have ee631 : f478 49 = ye13_7_49 := Int32.toInt_inj.mp ((elm_of c479 49).symm.trans ((congrArg (fun e => elm e 49) (o443 7 (by decide))).trans hy13_7_49))
            have q632 : elm (S443 7) 49 = ye13_7_49.toInt := (elm_of c479 49).trans (congrArg Int32.toInt (ee631))
            have ee633 : f478 40 = ye13_7_40 := Int32.toInt_inj.mp ((elm_of c479 40).symm.trans ((congrArg (fun e => elm e 40) (o443 7 (by decide))).trans hy13_7_40))
            have ee634 : f478 41 = ye13_7_41 := Int32.toInt_inj.mp ((elm_of c479 41).symm.trans ((congrArg (fun e => elm e 41) (o443 7 (by decide))).trans hy13_7_41))
            have ee635 : f478 43 = ye13_7_43 := Int32.toInt_inj.mp ((elm_of c479 43).symm.trans ((congrArg (fun e => elm e 43) (o443 7 (by decide))).trans hy13_7_43))
            have ee636 : f478 46 = ye13_7_46 := Int32.toInt_inj.mp ((elm_of c479 46).symm.trans ((congrArg (fun e => elm e 46) (o443 7 (by decide))).trans hy13_7_46))
            have ee637 : f478 48 = ye13_7_48 := Int32.toInt_inj.mp ((elm_of c479 48).symm.trans ((congrArg (fun e => elm e 48) (o443 7 (by decide))).trans hy13_7_48))
            have ee638 : f602 4 = ye13_6_4 := Int32.toInt_inj.mp ((elm_of c603 4).symm.trans ((congrArg (fun e => elm e 4) (o443 6 (by decide))).trans hy13_6_4))
            refine xcVv E hs hQ hml hl.1 0 (gX12_copyShore_4_0 l g ad hD S443 hI at625 at626 at627 at628 (at_z (show elm (S443 7) 49 ≤ 0 by omega))) mX12_copyShore q1739 (by decide) c472 rfl rfl ⟨(Nat.le_of_ble_eq_true rfl), (Nat.le_of_ble_eq_true rfl)⟩ ⟨(Nat.le_of_ble_eq_true rfl), (Nat.le_of_ble_eq_true rfl)⟩ (Nat.le_of_ble_eq_true rfl) rfl dX12_shore_166 (fun S639 H locs hp639 hQ _ => ?_)
            obtain ⟨hI, o639, g639_0, g639_1, g639_2, g639_3, g639_4, g639_5, g639_6, g639_7, g639_8, g639_9, g639_10, g639_11, g639_12, g639_13, g639_14, g639_15, g639_16, g639_17, g639_18, g639_19, g639_20, g639_21, g639_22, g639_23, g639_24, g639_25, g639_26, g639_27, u639_0, u639_1, u639_2, u639_3⟩ := hp639
            have q640 : elm (S443 7) 40 = ye13_7_40.toInt := (elm_of c479 40).trans (congrArg Int32.toInt (ee633))
            obtain ⟨f641, c642, b643⟩ := invM_7 hI
            obtain ⟨v644, ee645⟩ : ∃ z : Int32, f641 0 = z := ⟨_, rfl⟩
            have b646 : Bd v644 (0) (12) := (by rw [← ee645]; exact b643.1 0 (by decide))
            have q647 : elm (S639 7) 0 = v644.toInt := (elm_of c642 0).trans (congrArg Int32.toInt (ee645))
            have q648 : elm (S443 7) 41 = ye13_7_41.toInt := (elm_of c479 41).trans (congrArg Int32.toInt (ee634))
            obtain ⟨v649, ee650⟩ : ∃ z : Int32, f641 1 = z := ⟨_, rfl⟩
            have b651 : Bd v649 (0) (12) := (by rw [← ee650]; exact b643.2.1 1 (by decide))
            have q652 : elm (S639 7) 1 = v649.toInt := (elm_of c642 1).trans (congrArg Int32.toInt (ee650))
            have q653 : elm (S443 7) 43 = ye13_7_43.toInt := (elm_of c479 43).trans (congrArg Int32.toInt (ee635))
            obtain ⟨v654, ee655⟩ : ∃ z : Int32, f641 3 = z := ⟨_, rfl⟩
            have b656 : Bd v654 (0) (12) := (by rw [← ee655]; exact b643.2.2.2.1 3 (by decide))
            have q657 : elm (S639 7) 3 = v654.toInt := (elm_of c642 3).trans (congrArg Int32.toInt (ee655))
            have q658 : elm (S443 7) 46 = ye13_7_46.toInt := (elm_of c479 46).trans (congrArg Int32.toInt (ee636))
            obtain ⟨v659, ee660⟩ : ∃ z : Int32, f641 6 = z := ⟨_, rfl⟩
            have b661 : Bd v659 (0) (8) := (by rw [← ee660]; exact b643.2.2.2.2.1 6 (by decide))
            have q662 : elm (S639 7) 6 = v659.toInt := (elm_of c642 6).trans (congrArg Int32.toInt (ee660))
            have q663 : elm (S443 7) 48 = ye13_7_48.toInt := (elm_of c479 48).trans (congrArg Int32.toInt (ee637))
            obtain ⟨v664, ee665⟩ : ∃ z : Int32, f641 8 = z := ⟨_, rfl⟩
            have b666 : Bd v664 (0) (3) := (by rw [← ee665]; exact b643.2.2.2.2.2.2.1 8 (by decide))
            have q667 : elm (S639 7) 8 = v664.toInt := (elm_of c642 8).trans (congrArg Int32.toInt (ee665))
            obtain ⟨v668, ee669⟩ : ∃ z : Int32, f641 9 = z := ⟨_, rfl⟩
            have b670 : Bd v668 (0) (40) := (by rw [← ee669]; exact b643.2.2.2.2.2.2.2 9 (by decide))
            have q671 : elm (S639 7) 9 = v668.toInt := (elm_of c642 9).trans (congrArg Int32.toInt (ee669))
            have b672 : Bd v668 (0) (0) := ⟨(b670).1, by omega⟩
            obtain ⟨v673, ee674⟩ : ∃ z : Int32, f641 10 = z := ⟨_, rfl⟩
            have b675 : Bd v673 (0) (12) := (by rw [← ee674]; exact b643.1 10 (by decide))
            have q676 : elm (S639 7) 10 = v673.toInt := (elm_of c642 10).trans (congrArg Int32.toInt (ee674))
            obtain ⟨v677, ee678⟩ : ∃ z : Int32, f641 11 = z := ⟨_, rfl⟩
            have b679 : Bd v677 (0) (12) := (by rw [← ee678]; exact b643.2.1 11 (by decide))
            have q680 : elm (S639 7) 11 = v677.toInt := (elm_of c642 11).trans (congrArg Int32.toInt (ee678))
            obtain ⟨v681, ee682⟩ : ∃ z : Int32, f641 13 = z := ⟨_, rfl⟩
            have b683 : Bd v681 (0) (12) := (by rw [← ee682]; exact b643.2.2.2.1 13 (by decide))
            have q684 : elm (S639 7) 13 = v681.toInt := (elm_of c642 13).trans (congrArg Int32.toInt (ee682))
            obtain ⟨v685, ee686⟩ : ∃ z : Int32, f641 16 = z := ⟨_, rfl⟩
            have b687 : Bd v685 (0) (8) := (by rw [← ee686]; exact b643.2.2.2.2.1 16 (by decide))
            have q688 : elm (S639 7) 16 = v685.toInt := (elm_of c642 16).trans (congrArg Int32.toInt (ee686))
            obtain ⟨v689, ee690⟩ : ∃ z : Int32, f641 18 = z := ⟨_, rfl⟩
            have b691 : Bd v689 (0) (3) := (by rw [← ee690]; exact b643.2.2.2.2.2.2.1 18 (by decide))
            have q692 : elm (S639 7) 18 = v689.toInt := (elm_of c642 18).trans (congrArg Int32.toInt (ee690))
            obtain ⟨v693, ee694⟩ : ∃ z : Int32, f641 19 = z := ⟨_, rfl⟩
            have b695 : Bd v693 (0) (40) := (by rw [← ee694]; exact b643.2.2.2.2.2.2.2 19 (by decide))
            have q696 : elm (S639 7) 19 = v693.toInt := (elm_of c642 19).trans (congrArg Int32.toInt (ee694))
            obtain ⟨v697, ee698⟩ : ∃ z : Int32, f641 20 = z := ⟨_, rfl⟩
            have b699 : Bd v697 (0) (12) := (by rw [← ee698]; exact b643.1 20 (by decide))
            have q700 : elm (S639 7) 20 = v697.toInt := (elm_of c642 20).trans (congrArg Int32.toInt (ee698))
            obtain ⟨v701, ee702⟩ : ∃ z : Int32, f641 21 = z := ⟨_, rfl⟩
            have b703 : Bd v701 (0) (12) := (by rw [← ee702]; exact b643.2.1 21 (by decide))
            have q704 : elm (S639 7) 21 = v701.toInt := (elm_of c642 21).trans (congrArg Int32.toInt (ee702))
            obtain ⟨v705, ee706⟩ : ∃ z : Int32, f641 23 = z := ⟨_, rfl⟩
            have b707 : Bd v705 (0) (12) := (by rw [← ee706]; exact b643.2.2.2.1 23 (by decide))
            have q708 : elm (S639 7) 23 = v705.toInt := (elm_of c642 23).trans (congrArg Int32.toInt (ee706))
            obtain ⟨v709, ee710⟩ : ∃ z : Int32, f641 26 = z := ⟨_, rfl⟩
            have b711 : Bd v709 (0) (8) := (by rw [← ee710]; exact b643.2.2.2.2.1 26 (by decide))
            have q712 : elm (S639 7) 26 = v709.toInt := (elm_of c642 26).trans (congrArg Int32.toInt (ee710))
            obtain ⟨v713, ee714⟩ : ∃ z : Int32, f641 28 = z := ⟨_, rfl⟩
            have b715 : Bd v713 (0) (3) := (by rw [← ee714]; exact b643.2.2.2.2.2.2.1 28 (by decide))
            have q716 : elm (S639 7) 28 = v713.toInt := (elm_of c642 28).trans (congrArg Int32.toInt (ee714))
            obtain ⟨v717, ee718⟩ : ∃ z : Int32, f641 29 = z := ⟨_, rfl⟩
            have b719 : Bd v717 (0) (40) := (by rw [← ee718]; exact b643.2.2.2.2.2.2.2 29 (by decide))
            have q720 : elm (S639 7) 29 = v717.toInt := (elm_of c642 29).trans (congrArg Int32.toInt (ee718))
            obtain ⟨v721, ee722⟩ : ∃ z : Int32, f641 30 = z := ⟨_, rfl⟩
            have b723 : Bd v721 (0) (12) := (by rw [← ee722]; exact b643.1 30 (by decide))
            have q724 : elm (S639 7) 30 = v721.toInt := (elm_of c642 30).trans (congrArg Int32.toInt (ee722))
            obtain ⟨v725, ee726⟩ : ∃ z : Int32, f641 31 = z := ⟨_, rfl⟩
            have b727 : Bd v725 (0) (12) := (by rw [← ee726]; exact b643.2.1 31 (by decide))
            have q728 : elm (S639 7) 31 = v725.toInt := (elm_of c642 31).trans (congrArg Int32.toInt (ee726))
            obtain ⟨v729, ee730⟩ : ∃ z : Int32, f641 33 = z := ⟨_, rfl⟩
            have b731 : Bd v729 (0) (12) := (by rw [← ee730]; exact b643.2.2.2.1 33 (by decide))
            have q732 : elm (S639 7) 33 = v729.toInt := (elm_of c642 33).trans (congrArg Int32.toInt (ee730))
            obtain ⟨v733, ee734⟩ : ∃ z : Int32, f641 36 = z := ⟨_, rfl⟩
            have b735 : Bd v733 (0) (8) := (by rw [← ee734]; exact b643.2.2.2.2.1 36 (by decide))
            have q736 : elm (S639 7) 36 = v733.toInt := (elm_of c642 36).trans (congrArg Int32.toInt (ee734))
            obtain ⟨v737, ee738⟩ : ∃ z : Int32, f641 38 = z := ⟨_, rfl⟩
            have b739 : Bd v737 (0) (3) := (by rw [← ee738]; exact b643.2.2.2.2.2.2.1 38 (by decide))
            have q740 : elm (S639 7) 38 = v737.toInt := (elm_of c642 38).trans (congrArg Int32.toInt (ee738))
            obtain ⟨v741, ee742⟩ : ∃ z : Int32, f641 39 = z := ⟨_, rfl⟩
            have b743 : Bd v741 (0) (40) := (by rw [← ee742]; exact b643.2.2.2.2.2.2.2 39 (by decide))
            have q744 : elm (S639 7) 39 = v741.toInt := (elm_of c642 39).trans (congrArg Int32.toInt (ee742))
            have q745 : elm (S443 6) 4 = ye13_6_4.toInt := (elm_of c603 4).trans (congrArg Int32.toInt (ee638))
            obtain ⟨f746, c747, b748⟩ := invM_6 hI
            obtain ⟨v749, ee750⟩ : ∃ z : Int32, f746 0 = z := ⟨_, rfl⟩
            have b751 : Bd v749 (0) (40000) := (by rw [← ee750]; exact b748 0)
            have q752 : elm (S639 6) 0 = v749.toInt := (elm_of c747 0).trans (congrArg Int32.toInt (ee750))
            have b753 : Bd v749 (0) (4804) := ⟨(b751).1, by omega⟩
            have b754 : Bd ye13_6_4 (0) (4804) := ⟨(b240).1, by omega⟩
            obtain ⟨v755, ee756⟩ : ∃ z : Int32, f746 1 = z := ⟨_, rfl⟩
            have b757 : Bd v755 (0) (40000) := (by rw [← ee756]; exact b748 1)
            have q758 : elm (S639 6) 1 = v755.toInt := (elm_of c747 1).trans (congrArg Int32.toInt (ee756))
            obtain ⟨v759, ee760⟩ : ∃ z : Int32, f746 2 = z := ⟨_, rfl⟩
            have b761 : Bd v759 (0) (40000) := (by rw [← ee760]; exact b748 2)
            have q762 : elm (S639 6) 2 = v759.toInt := (elm_of c747 2).trans (congrArg Int32.toInt (ee760))
            obtain ⟨v763, ee764⟩ : ∃ z : Int32, f746 3 = z := ⟨_, rfl⟩
            have b765 : Bd v763 (0) (40000) := (by rw [← ee764]; exact b748 3)
            have q766 : elm (S639 6) 3 = v763.toInt := (elm_of c747 3).trans (congrArg Int32.toInt (ee764))
            refine lv_aload_n hx hb dX12_shore_169 rfl (lv_at hl 0 rfl) ?_
            have c767 : S639 0 = .inr (12, [.int v444, .ref (ad 1), .ref (ad 2), .ref (ad 3), .ref (ad 4), .ref (ad 5), .int v445, .int v447, .int v449, .int v451, .int v452, .long w453, .int v454, .int v456, .int v457, .int v458, .ref (ad 6), .ref (ad 7), .ref (ad 8), .ref (ad 9), .ref (ad 10), .ref (ad 11), .ref (ad 12), .ref (ad 13), .ref (ad 14), .ref (ad 15), .int v459, .int v461, .ref (ad 16), .int v463, .int v465, .int v467, .int v469, .int v470, .ref (ad 17), .ref (ad 18), .int v471, .ref (ad 19)]) := ((o639 0 (by decide)).trans c472)
            refine xget E hQ 0 (by decide) c767 rfl 16 (by decide) q1484 rfl dX12_shore_170 ?_
            refine lv_iconst (v := 0) hx hb dX12_shore_173 (by decide) ?_
            refine xiald E hQ 6 (by decide) c747 (vp_in_lit 0 5 (by decide)) dX12_shore_174 ?_
            refine sb_at (P := fun z => W _ _ _ _ _ _ _ _ _ _ _ _ _ _ _ (F0 _ _ _ (.int z :: _))) (show f746 (0 : Int32).toNatClampNeg = v749 from ee750) ?_
            exact xri E hr hlk hQ (⟨hI, (o_trans (o_trans (o_trans (o_trans (o_trans (up_o o_refl eS151 (by decide)) o153 (by decide)) o203 (by decide)) hf13 (by decide)) o443 (by decide)) o639 (by decide)), (ib_wk b753 (by decide) (by decide)), (by omega), (by omega), (by omega), (by omega), (by omega), (by omega), (by omega), (by omega), (by omega), (by omega), (by omega), (by omega), (by omega), (by omega), (by omega), (by omega), (by omega), (by omega), (by omega), (by omega), u639_0, u639_1, u639_2, u639_3⟩) dX12_shore_175
          · have h768 := ib_ne k475
            exact absurd (Int.le_antisymm (Int.le_trans (b474).2 ((by decide : Bd 0 (0) (0))).1) (Int.le_trans ((by decide : Bd 0 (0) (0))).2 (b474).1)) h768
        · have h769 := ib_ne k440
          have b770 : Bd y13_0_8 (1) (4) := rf_nlo By13_0_8 (by decide : Bd 0 (0) (0)) h769
          refine lv_aload_n hx hb dX12_shore_27 rfl (lv_at hl 0 rfl) ?_
          refine xget E hQ 0 (by decide) cl13_0 rfl 16 (by decide) q1484 rfl dX12_shore_28 ?_
          refine lv_iconst (v := 4) hx hb dX12_shore_31 (by decide) ?_
          obtain ⟨f771, c772, b773⟩ := invM_6 hI
          refine xiald E hQ 6 (by decide) c772 (vp_in_lit 4 5 (by decide)) dX12_shore_32 ?_
          have ee774 : f771 4 = ye13_6_4 := Int32.toInt_inj.mp ((elm_of c772 4).symm.trans hy13_6_4)
          refine sb_at (P := fun z => W _ _ _ _ _ _ _ _ _ _ _ _ _ _ _ (F0 _ _ _ (.int z :: _))) (show f771 (4 : Int32).toNatClampNeg = ye13_6_4 from ee774) ?_
          refine lv_if_ne (tgt := 121) hx hb dX12_shore_33 (by decide) (fun k775 => ?_) (fun k775 => ?_)
          · have h776 := ib_ne k775
            have b777 : Bd ye13_6_4 (1) (34804) := rf_nlo b240 (by decide : Bd 0 (0) (0)) h776
            refine lv_aload_n hx hb dX12_shore_121 rfl (lv_at hl 0 rfl) ?_
            have q778 : fld (S_13 0) 6 = y13_0_6.toInt := fld_of cl13_0 rfl
            have q779 : fld (S_13 0) 7 = y13_0_7.toInt := fld_of cl13_0 rfl
            obtain ⟨f780, c781, b782⟩ := invM_7 hI
            have ee783 : f780 40 = ye13_7_40 := Int32.toInt_inj.mp ((elm_of c781 40).symm.trans hy13_7_40)
            have q784 : elm (S_13 7) 40 = ye13_7_40.toInt := (elm_of c781 40).trans (congrArg Int32.toInt (ee783))
            have ee785 : f780 41 = ye13_7_41 := Int32.toInt_inj.mp ((elm_of c781 41).symm.trans hy13_7_41)
            have ee786 : f780 43 = ye13_7_43 := Int32.toInt_inj.mp ((elm_of c781 43).symm.trans hy13_7_43)
            have ee787 : f780 49 = ye13_7_49 := Int32.toInt_inj.mp ((elm_of c781 49).symm.trans hy13_7_49)
            refine xcVv E hs hQ hml hl.1 0 (gX12_line_0 l g ad hD S_13 hI (by omega) (by omega)) mX12_line q1684 (by decide) cl13_0 rfl rfl ⟨(Nat.le_of_ble_eq_true rfl), (Nat.le_of_ble_eq_true rfl)⟩ ⟨(Nat.le_of_ble_eq_true rfl), (Nat.le_of_ble_eq_true rfl)⟩ (Nat.le_of_ble_eq_true rfl) rfl dX12_shore_122 (fun S788 H locs hp788 hQ _ => ?_)
            obtain ⟨hI, o788, g788_0, g788_1, g788_2, g788_3, g788_4, g788_5, g788_6, ef788_7⟩ := hp788
            have ef789 : EFp (S788 7) (S 7) 0 40 := ef_tt ef788_7 hE13_7
            obtain ⟨v790, v791, v793, v795, v797, v798, w799, v800, v802, v803, v804, v805, v807, v809, v811, v813, v815, v816, v817, c818, b792, b794, b796, b801, b806, b808, b810, b812, b814⟩ := invM_0 hI
            have c818 : S788 0 = .inr (12, [.int v790, .ref (ad 1), .ref (ad 2), .ref (ad 3), .ref (ad 4), .ref (ad 5), .int v791, .int v793, .int v795, .int v797, .int v798, .long w799, .int v800, .int v802, .int v803, .int v804, .ref (ad 6), .ref (ad 7), .ref (ad 8), .ref (ad 9), .ref (ad 10), .ref (ad 11), .ref (ad 12), .ref (ad 13), .ref (ad 14), .ref (ad 15), .int v805, .int v807, .ref (ad 16), .int v809, .int v811, .int v813, .int v815, .int v816, .ref (ad 17), .ref (ad 18), .int v817, .ref (ad 19)]) := c818
            have q819 : fld (S788 0) 6 = v791.toInt := fld_of c818 rfl
            have q820 : fld (S788 0) 7 = v793.toInt := fld_of c818 rfl
            have q821 : fld (S_13 0) 8 = y13_0_8.toInt := fld_of cl13_0 rfl
            have q822 : fld (S788 0) 8 = v795.toInt := fld_of c818 rfl
            obtain ⟨f823, c824, b825⟩ := invM_7 hI
            obtain ⟨v826, ee827⟩ : ∃ z : Int32, f823 40 = z := ⟨_, rfl⟩
            have b828 : Bd v826 (0) (12) := (by rw [← ee827]; exact b825.1 40 (by decide))
            have q829 : elm (S788 7) 40 = v826.toInt := (elm_of c824 40).trans (congrArg Int32.toInt (ee827))
            have b830 : Bd v826 (1) (12) := ⟨by omega, (b828).2⟩
            have b831 : Bd ye13_7_40 (1) (12) := ⟨by omega, (Bye13_7_40).2⟩
            have q832 : elm (S_13 7) 41 = ye13_7_41.toInt := (elm_of c781 41).trans (congrArg Int32.toInt (ee785))
            obtain ⟨v833, ee834⟩ : ∃ z : Int32, f823 41 = z := ⟨_, rfl⟩
            have b835 : Bd v833 (0) (12) := (by rw [← ee834]; exact b825.2.1 41 (by decide))
            have q836 : elm (S788 7) 41 = v833.toInt := (elm_of c824 41).trans (congrArg Int32.toInt (ee834))
            have b837 : Bd v833 (1) (12) := ⟨by omega, (b835).2⟩
            have b838 : Bd ye13_7_41 (1) (12) := ⟨by omega, (Bye13_7_41).2⟩
            have q839 : elm (S_13 7) 43 = ye13_7_43.toInt := (elm_of c781 43).trans (congrArg Int32.toInt (ee786))
            obtain ⟨v840, ee841⟩ : ∃ z : Int32, f823 43 = z := ⟨_, rfl⟩
            have b842 : Bd v840 (0) (12) := (by rw [← ee841]; exact b825.2.2.2.1 43 (by decide))
            have q843 : elm (S788 7) 43 = v840.toInt := (elm_of c824 43).trans (congrArg Int32.toInt (ee841))
            have b844 : Bd v840 (1) (12) := ⟨by omega, (b842).2⟩
            have b845 : Bd ye13_7_43 (1) (12) := ⟨by omega, (Bye13_7_43).2⟩
            have q846 : elm (S_13 7) 49 = ye13_7_49.toInt := (elm_of c781 49).trans (congrArg Int32.toInt (ee787))
            obtain ⟨v847, ee848⟩ : ∃ z : Int32, f823 49 = z := ⟨_, rfl⟩
            have b849 : Bd v847 (0) (40) := (by rw [← ee848]; exact b825.2.2.2.2.2.2.2 49 (by decide))
            have q850 : elm (S788 7) 49 = v847.toInt := (elm_of c824 49).trans (congrArg Int32.toInt (ee848))
            have b851 : Bd v847 (0) (0) := ⟨(b849).1, by omega⟩
            refine lv_aload_n hx hb dX12_shore_125 rfl (lv_at hl 0 rfl) ?_
            refine xcVi E hs hQ hml hl.1 0 (gX12_isGood_0 l g ad hD S788 hI ) mX12_isGood q1650 (by decide) c818 rfl rfl ⟨(Nat.le_of_ble_eq_true rfl), (Nat.le_of_ble_eq_true rfl)⟩ ⟨(Nat.le_of_ble_eq_true rfl), (Nat.le_of_ble_eq_true rfl)⟩ (Nat.le_of_ble_eq_true rfl) rfl dX12_shore_126 (fun r852 S852 H locs hp852 hQ _ => ?_)
            obtain ⟨rfl, b852, g852_0, g852_1⟩ := hp852
            have q853 : fld (S788 0) 12 = v800.toInt := fld_of c818 rfl
            refine lv_if_eq (tgt := 136) hx hb dX12_shore_129 (by decide) (fun k854 => ?_) (fun k854 => ?_)
            · have h855 := ib_eq k854
              have b856 : Bd r852 (0) (0) := ⟨(b852).1, ((rf_eq b852 (by decide : Bd 0 (0) (0)) h855).1).2⟩
              clear g852_0
              have g857 := g852_1.resolve_left (by omega)
              clear g852_1
              have b858 : Bd v800 (1) (3) := ⟨by omega, (b801).2⟩
              refine lv_aload_n hx hb dX12_shore_136 rfl (lv_at hl 0 rfl) ?_
              refine xget E hQ 0 (by decide) c818 rfl 16 (by decide) q1484 rfl dX12_shore_137 ?_
              refine lv_iconst (v := 4) hx hb dX12_shore_140 (by decide) ?_
              refine lv_dup2_11 hx hb dX12_shore_141 rfl rfl ?_
              have c859 : S788 6 = .inl (g.2 0, 5, .inl f771) := ((o788 6 (by decide)).trans c772)
              refine xiald E hQ 6 (by decide) c859 (vp_in_lit 4 5 (by decide)) dX12_shore_142 ?_
              refine sb_at (P := fun z => W _ _ _ _ _ _ _ _ _ _ _ _ _ _ _ (F0 _ _ _ (.int z :: _))) (show f771 (4 : Int32).toNatClampNeg = ye13_6_4 from ee774) ?_
              refine lv_iconst (v := 1) hx hb dX12_shore_143 (by decide) ?_
              refine lv_iadd hx hb dX12_shore_144 ?_
              refine lv_topi (fun z860 e861 => ?_)
              have t862 := ib_add e861 b777 (by decide : Bd 1 (1) (1)) (by decide) (by decide)
              have b863 : Bd z860 (2) (34805) := ib_addb t862 b777 (by decide : Bd 1 (1) (1))
              have t862 : z860.toInt = ye13_6_4.toInt + 1 := fold_add t862 rfl (by decide)
              refine xiast E hs hQ 6 (by decide) c859 (vp_in_lit 4 5 (by decide)) dX12_shore_145 (fun H locs S864 eS864 hQ => ?_)
              have hI := invM_up_6 hI eS864 ⟨_, rfl, upd_b b773 (ib_wk b863 (by decide) (by decide))⟩
              have b866 : ∀ j, Bd ((upd f771 (4 : Int32).toNatClampNeg z860) j) (0) (40000) := upd_b b773 (ib_wk b863 (by decide) (by decide))
              have c865 : S864 6 = .inl (g.2 0, 5, .inl (upd f771 (4 : Int32).toNatClampNeg z860)) := up_at eS864 rfl
              have ef867 : EFp (S864 6) (S 6) 0 4 := ef_up (ef_tr hE13_6 (o788 6 (by decide))) c859 c865 (by decide)
              refine lv_goto (tgt := 13) hx hb dX12_shore_146 (by decide) ?_
              have c868 : S864 7 = .inl (g.2 0, 50, .inl f823) := (up_ne eS864 (by decide) c824)
              obtain ⟨v869, ee870⟩ : ∃ z : Int32, f823 46 = z := ⟨_, rfl⟩
              have b871 : Bd v869 (0) (8) := (by rw [← ee870]; exact b825.2.2.2.2.1 46 (by decide))
              obtain ⟨v872, ee873⟩ : ∃ z : Int32, f823 47 = z := ⟨_, rfl⟩
              have b874 : Bd v872 (0) (6) := (by rw [← ee873]; exact b825.2.2.2.2.2.1 47 (by decide))
              obtain ⟨v875, ee876⟩ : ∃ z : Int32, f823 48 = z := ⟨_, rfl⟩
              have b877 : Bd v875 (0) (3) := (by rw [← ee876]; exact b825.2.2.2.2.2.2.1 48 (by decide))
              have c878 : S864 0 = .inr (12, [.int v790, .ref (ad 1), .ref (ad 2), .ref (ad 3), .ref (ad 4), .ref (ad 5), .int v791, .int v793, .int v795, .int v797, .int v798, .long w799, .int v800, .int v802, .int v803, .int v804, .ref (ad 6), .ref (ad 7), .ref (ad 8), .ref (ad 9), .ref (ad 10), .ref (ad 11), .ref (ad 12), .ref (ad 13), .ref (ad 14), .ref (ad 15), .int v805, .int v807, .ref (ad 16), .int v809, .int v811, .int v813, .int v815, .int v816, .ref (ad 17), .ref (ad 18), .int v817, .ref (ad 19)]) := (up_ne eS864 (by decide) c818)
              exact ih13 _ _ _ _ v790 v791 v793 v795 v797 v798 w799 v800 v802 v803 v804 v805 v807 v809 v811 v813 v815 v816 v817 v826 v833 v840 v869 v872 v875 v847 z860 b792 b794 b796 (ib_wk b858 (by decide) (by decide)) b806 b808 b810 b812 b814 (ib_wk b830 (by decide) (by decide)) (ib_wk b837 (by decide) (by decide)) (ib_wk b844 (by decide) (by decide)) b871 b874 b877 b851 (ib_wk b863 (by decide) (by decide)) (by omega) (by omega) (by omega) (by omega) (by omega) (by omega) (by omega) (by omega) (by omega) (by omega) hI (up_o (o_trans hf13 o788 (by decide)) eS864 (by decide)) c878 (ef_tr ef789 (up_eq (j := 7) eS864 (by decide))) ef867 ((elm_of c868 40).trans (congrArg Int32.toInt (ee827))) ((elm_of c868 41).trans (congrArg Int32.toInt (ee834))) ((elm_of c868 43).trans (congrArg Int32.toInt (ee841))) ((elm_of c868 46).trans (congrArg Int32.toInt (ee870))) ((elm_of c868 47).trans (congrArg Int32.toInt (ee873))) ((elm_of c868 48).trans (congrArg Int32.toInt (ee876))) ((elm_of c868 49).trans (congrArg Int32.toInt (ee848))) ((elm_of c865 4).trans (congrArg Int32.toInt ((upd_s)))) hQ (lv_sub hl [0] rfl)
            · have h879 := ib_ne k854
              have b880 : Bd r852 (1) (1) := rf_nlo b852 (by decide : Bd 0 (0) (0)) h879
              have g881 := g852_0.resolve_left (by omega)
              clear g852_0
              have b882 : Bd v800 (0) (0) := ⟨(b801).1, by omega⟩
              clear g852_1
              refine lv_aload_n hx hb dX12_shore_132 rfl (lv_at hl 0 rfl) ?_
              refine xcVv E hs hQ hml hl.1 0 (gX12_ends_0 l g ad hD S788 hI (by omega)) mX12_ends q1731 (by decide) c818 rfl rfl ⟨(Nat.le_of_ble_eq_true rfl), (Nat.le_of_ble_eq_true rfl)⟩ ⟨(Nat.le_of_ble_eq_true rfl), (Nat.le_of_ble_eq_true rfl)⟩ (Nat.le_of_ble_eq_true rfl) rfl dX12_shore_133 (fun S883 H locs hp883 hQ _ => ?_)
              obtain ⟨hI, o883, g883_0, g883_1, g883_2, g883_3⟩ := hp883
              obtain ⟨v884, v885, v887, v889, v891, v892, w893, v894, v896, v897, v898, v899, v901, v903, v905, v907, v909, v910, v911, c912, b886, b888, b890, b895, b900, b902, b904, b906, b908⟩ := invM_0 hI
              have c912 : S883 0 = .inr (12, [.int v884, .ref (ad 1), .ref (ad 2), .ref (ad 3), .ref (ad 4), .ref (ad 5), .int v885, .int v887, .int v889, .int v891, .int v892, .long w893, .int v894, .int v896, .int v897, .int v898, .ref (ad 6), .ref (ad 7), .ref (ad 8), .ref (ad 9), .ref (ad 10), .ref (ad 11), .ref (ad 12), .ref (ad 13), .ref (ad 14), .ref (ad 15), .int v899, .int v901, .ref (ad 16), .int v903, .int v905, .int v907, .int v909, .int v910, .ref (ad 17), .ref (ad 18), .int v911, .ref (ad 19)]) := c912
              have q913 : fld (S883 0) 6 = v885.toInt := fld_of c912 rfl
              have q914 : fld (S883 0) 7 = v887.toInt := fld_of c912 rfl
              have q915 : fld (S883 0) 8 = v889.toInt := fld_of c912 rfl
              have q916 : fld (S883 0) 12 = v894.toInt := fld_of c912 rfl
              refine lv_aload_n hx hb dX12_shore_136 rfl (lv_at hl 0 rfl) ?_
              refine xget E hQ 0 (by decide) c912 rfl 16 (by decide) q1484 rfl dX12_shore_137 ?_
              refine lv_iconst (v := 4) hx hb dX12_shore_140 (by decide) ?_
              refine lv_dup2_11 hx hb dX12_shore_141 rfl rfl ?_
              have c917 : S883 6 = .inl (g.2 0, 5, .inl f771) := ((o883 6 (by decide)).trans ((o788 6 (by decide)).trans c772))
              refine xiald E hQ 6 (by decide) c917 (vp_in_lit 4 5 (by decide)) dX12_shore_142 ?_
              refine sb_at (P := fun z => W _ _ _ _ _ _ _ _ _ _ _ _ _ _ _ (F0 _ _ _ (.int z :: _))) (show f771 (4 : Int32).toNatClampNeg = ye13_6_4 from ee774) ?_
              refine lv_iconst (v := 1) hx hb dX12_shore_143 (by decide) ?_
              refine lv_iadd hx hb dX12_shore_144 ?_
              refine lv_topi (fun z918 e919 => ?_)
              have t920 := ib_add e919 b777 (by decide : Bd 1 (1) (1)) (by decide) (by decide)
              have b921 : Bd z918 (2) (34805) := ib_addb t920 b777 (by decide : Bd 1 (1) (1))
              have t920 : z918.toInt = ye13_6_4.toInt + 1 := fold_add t920 rfl (by decide)
              refine xiast E hs hQ 6 (by decide) c917 (vp_in_lit 4 5 (by decide)) dX12_shore_145 (fun H locs S922 eS922 hQ => ?_)
              have hI := invM_up_6 hI eS922 ⟨_, rfl, upd_b b773 (ib_wk b921 (by decide) (by decide))⟩
              have b924 : ∀ j, Bd ((upd f771 (4 : Int32).toNatClampNeg z918) j) (0) (40000) := upd_b b773 (ib_wk b921 (by decide) (by decide))
              have c923 : S922 6 = .inl (g.2 0, 5, .inl (upd f771 (4 : Int32).toNatClampNeg z918)) := up_at eS922 rfl
              have ef925 : EFp (S922 6) (S 6) 0 4 := ef_up (ef_tr hE13_6 ((o883 6 (by decide)).trans (o788 6 (by decide)))) c917 c923 (by decide)
              refine lv_goto (tgt := 13) hx hb dX12_shore_146 (by decide) ?_
              have c926 : S922 7 = .inl (g.2 0, 50, .inl f823) := (up_ne eS922 (by decide) ((o883 7 (by decide)).trans c824))
              obtain ⟨v927, ee928⟩ : ∃ z : Int32, f823 46 = z := ⟨_, rfl⟩
              have b929 : Bd v927 (0) (8) := (by rw [← ee928]; exact b825.2.2.2.2.1 46 (by decide))
              obtain ⟨v930, ee931⟩ : ∃ z : Int32, f823 47 = z := ⟨_, rfl⟩
              have b932 : Bd v930 (0) (6) := (by rw [← ee931]; exact b825.2.2.2.2.2.1 47 (by decide))
              obtain ⟨v933, ee934⟩ : ∃ z : Int32, f823 48 = z := ⟨_, rfl⟩
              have b935 : Bd v933 (0) (3) := (by rw [← ee934]; exact b825.2.2.2.2.2.2.1 48 (by decide))
              have c936 : S922 0 = .inr (12, [.int v884, .ref (ad 1), .ref (ad 2), .ref (ad 3), .ref (ad 4), .ref (ad 5), .int v885, .int v887, .int v889, .int v891, .int v892, .long w893, .int v894, .int v896, .int v897, .int v898, .ref (ad 6), .ref (ad 7), .ref (ad 8), .ref (ad 9), .ref (ad 10), .ref (ad 11), .ref (ad 12), .ref (ad 13), .ref (ad 14), .ref (ad 15), .int v899, .int v901, .ref (ad 16), .int v903, .int v905, .int v907, .int v909, .int v910, .ref (ad 17), .ref (ad 18), .int v911, .ref (ad 19)]) := (up_ne eS922 (by decide) c912)
              exact ih13 _ _ _ _ v884 v885 v887 v889 v891 v892 w893 v894 v896 v897 v898 v899 v901 v903 v905 v907 v909 v910 v911 v826 v833 v840 v927 v930 v933 v847 z918 b886 b888 b890 b895 b900 b902 b904 b906 b908 (ib_wk b830 (by decide) (by decide)) (ib_wk b837 (by decide) (by decide)) (ib_wk b844 (by decide) (by decide)) b929 b932 b935 b851 (ib_wk b921 (by decide) (by decide)) (by omega) (by omega) (by omega) (by omega) (by omega) (by omega) (by omega) (by omega) (by omega) (by omega) hI (up_o (o_trans (o_trans hf13 o788 (by decide)) o883 (by decide)) eS922 (by decide)) c936 (ef_tr ef789 ((up_eq (j := 7) eS922 (by decide)).trans (o883 7 (by decide)))) ef925 ((elm_of c926 40).trans (congrArg Int32.toInt (ee827))) ((elm_of c926 41).trans (congrArg Int32.toInt (ee834))) ((elm_of c926 43).trans (congrArg Int32.toInt (ee841))) ((elm_of c926 46).trans (congrArg Int32.toInt (ee928))) ((elm_of c926 47).trans (congrArg Int32.toInt (ee931))) ((elm_of c926 48).trans (congrArg Int32.toInt (ee934))) ((elm_of c926 49).trans (congrArg Int32.toInt (ee848))) ((elm_of c923 4).trans (congrArg Int32.toInt ((upd_s)))) hQ (lv_sub hl [0] rfl)
          · have h937 := ib_eq k775
            have b938 : Bd ye13_6_4 (0) (0) := ⟨(b240).1, ((rf_eq b240 (by decide : Bd 0 (0) (0)) h937).1).2⟩
            refine lv_aload_n hx hb dX12_shore_36 rfl (lv_at hl 0 rfl) ?_
            refine lv_ldc2 (v := 10266269) hx hb E.2.2.1 (E.2.2.2.1 _ q1654) dX12_shore_37 ?_
            have q939 : fld (S_13 0) 6 = y13_0_6.toInt := fld_of cl13_0 rfl
            have q940 : fld (S_13 0) 7 = y13_0_7.toInt := fld_of cl13_0 rfl
            refine xcVv E hs hQ hml hl.1 0 (gX12_asks_0 l g ad hD S_13 hI 10266269 (by omega)) mX12_asks q1655 (by decide) cl13_0 rfl rfl ⟨(Nat.le_of_ble_eq_true rfl), (Nat.le_of_ble_eq_true rfl)⟩ ⟨(Nat.le_of_ble_eq_true rfl), (Nat.le_of_ble_eq_true rfl)⟩ (Nat.le_of_ble_eq_true rfl) rfl dX12_shore_40 (fun S941 H locs hp941 hQ _ => ?_)
            obtain ⟨hI, o941, g941_0, g941_1, g941_2⟩ := hp941
            obtain ⟨v942, v943, v945, v947, v949, v950, w951, v952, v954, v955, v956, v957, v959, v961, v963, v965, v967, v968, v969, c970, b944, b946, b948, b953, b958, b960, b962, b964, b966⟩ := invM_0 hI
            have c970 : S941 0 = .inr (12, [.int v942, .ref (ad 1), .ref (ad 2), .ref (ad 3), .ref (ad 4), .ref (ad 5), .int v943, .int v945, .int v947, .int v949, .int v950, .long w951, .int v952, .int v954, .int v955, .int v956, .ref (ad 6), .ref (ad 7), .ref (ad 8), .ref (ad 9), .ref (ad 10), .ref (ad 11), .ref (ad 12), .ref (ad 13), .ref (ad 14), .ref (ad 15), .int v957, .int v959, .ref (ad 16), .int v961, .int v963, .int v965, .int v967, .int v968, .ref (ad 17), .ref (ad 18), .int v969, .ref (ad 19)]) := c970
            have q971 : fld (S941 0) 6 = v943.toInt := fld_of c970 rfl
            have q972 : fld (S941 0) 7 = v945.toInt := fld_of c970 rfl
            have q973 : fld (S_13 0) 8 = y13_0_8.toInt := fld_of cl13_0 rfl
            have q974 : fld (S941 0) 8 = v947.toInt := fld_of c970 rfl
            refine lv_aload_n hx hb dX12_shore_43 rfl (lv_at hl 0 rfl) ?_
            refine lv_iconst (v := 0) hx hb dX12_shore_44 (by decide) ?_
            refine lv_aload_n hx hb dX12_shore_45 rfl (lv_at hl 0 rfl) ?_
            refine lv_ldc2 (v := 1701829) hx hb E.2.2.1 (E.2.2.2.1 _ q1671) dX12_shore_46 ?_
            refine lv_iconst (v := 3) hx hb dX12_shore_49 (by decide) ?_
            refine lv_bipush (v := 12) hx hb dX12_shore_50 (by decide) ?_
            refine xcVi E hs hQ hml hl.1 0 (gX12_numberw_0 l g ad hD S941 hI 1701829 3 12 (by decide : Bd 3 (3) (3)) (by decide : Bd 12 (12) (12)) (by omega)) mX12_number_ q1672 (by decide) c970 rfl rfl ⟨(Nat.le_of_ble_eq_true rfl), (Nat.le_of_ble_eq_true rfl)⟩ ⟨(Nat.le_of_ble_eq_true rfl), (Nat.le_of_ble_eq_true rfl)⟩ (Nat.le_of_ble_eq_true rfl) rfl dX12_shore_52 (fun r975 S975 H locs hp975 hQ _ => ?_)
            obtain ⟨hI, o975, b975, g975_0, g975_1, g975_2⟩ := hp975
            obtain ⟨v976, v977, v979, v981, v983, v984, w985, v986, v988, v989, v990, v991, v993, v995, v997, v999, v1001, v1002, v1003, c1004, b978, b980, b982, b987, b992, b994, b996, b998, b1000⟩ := invM_0 hI
            have c1004 : S975 0 = .inr (12, [.int v976, .ref (ad 1), .ref (ad 2), .ref (ad 3), .ref (ad 4), .ref (ad 5), .int v977, .int v979, .int v981, .int v983, .int v984, .long w985, .int v986, .int v988, .int v989, .int v990, .ref (ad 6), .ref (ad 7), .ref (ad 8), .ref (ad 9), .ref (ad 10), .ref (ad 11), .ref (ad 12), .ref (ad 13), .ref (ad 14), .ref (ad 15), .int v991, .int v993, .ref (ad 16), .int v995, .int v997, .int v999, .int v1001, .int v1002, .ref (ad 17), .ref (ad 18), .int v1003, .ref (ad 19)]) := c1004
            have q1005 : fld (S975 0) 6 = v977.toInt := fld_of c1004 rfl
            have q1006 : fld (S975 0) 7 = v979.toInt := fld_of c1004 rfl
            have q1007 : fld (S975 0) 8 = v981.toInt := fld_of c1004 rfl
            obtain ⟨f1008, c1009, b1010⟩ := invM_7 hI
            have ee1011 : f1008 41 = ye13_7_41 := Int32.toInt_inj.mp ((elm_of c1009 41).symm.trans ((congrArg (fun e => elm e 41) ((o975 7 (by decide)).trans (o941 7 (by decide)))).trans hy13_7_41))
            have ee1012 : f1008 43 = ye13_7_43 := Int32.toInt_inj.mp ((elm_of c1009 43).symm.trans ((congrArg (fun e => elm e 43) ((o975 7 (by decide)).trans (o941 7 (by decide)))).trans hy13_7_43))
            have ee1013 : f1008 46 = ye13_7_46 := Int32.toInt_inj.mp ((elm_of c1009 46).symm.trans ((congrArg (fun e => elm e 46) ((o975 7 (by decide)).trans (o941 7 (by decide)))).trans hy13_7_46))
            have ee1014 : f1008 47 = ye13_7_47 := Int32.toInt_inj.mp ((elm_of c1009 47).symm.trans ((congrArg (fun e => elm e 47) ((o975 7 (by decide)).trans (o941 7 (by decide)))).trans hy13_7_47))
            have ee1015 : f1008 48 = ye13_7_48 := Int32.toInt_inj.mp ((elm_of c1009 48).symm.trans ((congrArg (fun e => elm e 48) ((o975 7 (by decide)).trans (o941 7 (by decide)))).trans hy13_7_48))
            have ee1016 : f1008 49 = ye13_7_49 := Int32.toInt_inj.mp ((elm_of c1009 49).symm.trans ((congrArg (fun e => elm e 49) ((o975 7 (by decide)).trans (o941 7 (by decide)))).trans hy13_7_49))
            refine xcVv E hs hQ hml hl.1 0 (gX12_tells_0 l g ad hD S975 hI r975 (ib_wk b975 (by decide) (by decide))) mX12_tells q1629 (by decide) c1004 rfl rfl ⟨(Nat.le_of_ble_eq_true rfl), (Nat.le_of_ble_eq_true rfl)⟩ ⟨(Nat.le_of_ble_eq_true rfl), (Nat.le_of_ble_eq_true rfl)⟩ (Nat.le_of_ble_eq_true rfl) rfl dX12_shore_55 (fun S1017 H locs hp1017 hQ _ => ?_)
            obtain ⟨hI, o1017, g1017_0, g1017_1, g1017_2, g1017_3, g1017_4, g1017_5, g1017_6, ef1017_7⟩ := hp1017
            have ef1018 : EFp (S1017 7) (S 7) 0 40 := ef_tt ef1017_7 (ef_tr hE13_7 ((o975 7 (by decide)).trans (o941 7 (by decide))))
            obtain ⟨f1019, c1020, b1021⟩ := invM_7 hI
            obtain ⟨v1022, ee1023⟩ : ∃ z : Int32, f1019 40 = z := ⟨_, rfl⟩
            have b1024 : Bd v1022 (0) (12) := (by rw [← ee1023]; exact b1021.1 40 (by decide))
            have q1025 : elm (S1017 7) 40 = v1022.toInt := (elm_of c1020 40).trans (congrArg Int32.toInt (ee1023))
            have b1026 : Bd v1022 (3) (12) := ⟨by omega, (b1024).2⟩
            have q1027 : elm (S975 7) 41 = ye13_7_41.toInt := (elm_of c1009 41).trans (congrArg Int32.toInt (ee1011))
            obtain ⟨v1028, ee1029⟩ : ∃ z : Int32, f1019 41 = z := ⟨_, rfl⟩
            have b1030 : Bd v1028 (0) (12) := (by rw [← ee1029]; exact b1021.2.1 41 (by decide))
            have q1031 : elm (S1017 7) 41 = v1028.toInt := (elm_of c1020 41).trans (congrArg Int32.toInt (ee1029))
            have q1032 : elm (S975 7) 43 = ye13_7_43.toInt := (elm_of c1009 43).trans (congrArg Int32.toInt (ee1012))
            obtain ⟨v1033, ee1034⟩ : ∃ z : Int32, f1019 43 = z := ⟨_, rfl⟩
            have b1035 : Bd v1033 (0) (12) := (by rw [← ee1034]; exact b1021.2.2.2.1 43 (by decide))
            have q1036 : elm (S1017 7) 43 = v1033.toInt := (elm_of c1020 43).trans (congrArg Int32.toInt (ee1034))
            have q1037 : elm (S975 7) 46 = ye13_7_46.toInt := (elm_of c1009 46).trans (congrArg Int32.toInt (ee1013))
            obtain ⟨v1038, ee1039⟩ : ∃ z : Int32, f1019 46 = z := ⟨_, rfl⟩
            have b1040 : Bd v1038 (0) (8) := (by rw [← ee1039]; exact b1021.2.2.2.2.1 46 (by decide))
            have q1041 : elm (S1017 7) 46 = v1038.toInt := (elm_of c1020 46).trans (congrArg Int32.toInt (ee1039))
            have q1042 : elm (S975 7) 47 = ye13_7_47.toInt := (elm_of c1009 47).trans (congrArg Int32.toInt (ee1014))
            obtain ⟨v1043, ee1044⟩ : ∃ z : Int32, f1019 47 = z := ⟨_, rfl⟩
            have b1045 : Bd v1043 (0) (6) := (by rw [← ee1044]; exact b1021.2.2.2.2.2.1 47 (by decide))
            have q1046 : elm (S1017 7) 47 = v1043.toInt := (elm_of c1020 47).trans (congrArg Int32.toInt (ee1044))
            have q1047 : elm (S975 7) 48 = ye13_7_48.toInt := (elm_of c1009 48).trans (congrArg Int32.toInt (ee1015))
            obtain ⟨v1048, ee1049⟩ : ∃ z : Int32, f1019 48 = z := ⟨_, rfl⟩
            have b1050 : Bd v1048 (0) (3) := (by rw [← ee1049]; exact b1021.2.2.2.2.2.2.1 48 (by decide))
            have q1051 : elm (S1017 7) 48 = v1048.toInt := (elm_of c1020 48).trans (congrArg Int32.toInt (ee1049))
            have q1052 : elm (S975 7) 49 = ye13_7_49.toInt := (elm_of c1009 49).trans (congrArg Int32.toInt (ee1016))
            obtain ⟨v1053, ee1054⟩ : ∃ z : Int32, f1019 49 = z := ⟨_, rfl⟩
            have b1055 : Bd v1053 (0) (40) := (by rw [← ee1054]; exact b1021.2.2.2.2.2.2.2 49 (by decide))
            have q1056 : elm (S1017 7) 49 = v1053.toInt := (elm_of c1020 49).trans (congrArg Int32.toInt (ee1054))
            have b1057 : Bd v1053 (0) (0) := ⟨(b1055).1, by omega⟩
            refine lv_aload_n hx hb dX12_shore_58 rfl (lv_at hl 0 rfl) ?_
            refine lv_iconst (v := 1) hx hb dX12_shore_59 (by decide) ?_
            refine lv_aload_n hx hb dX12_shore_60 rfl (lv_at hl 0 rfl) ?_
            refine lv_ldc2 (v := 3436186) hx hb E.2.2.1 (E.2.2.2.1 _ q1680) dX12_shore_61 ?_
            refine lv_iconst (v := 1) hx hb dX12_shore_64 (by decide) ?_
            refine lv_bipush (v := 12) hx hb dX12_shore_65 (by decide) ?_
            have c1058 : S1017 0 = .inr (12, [.int v976, .ref (ad 1), .ref (ad 2), .ref (ad 3), .ref (ad 4), .ref (ad 5), .int v977, .int v979, .int v981, .int v983, .int v984, .long w985, .int v986, .int v988, .int v989, .int v990, .ref (ad 6), .ref (ad 7), .ref (ad 8), .ref (ad 9), .ref (ad 10), .ref (ad 11), .ref (ad 12), .ref (ad 13), .ref (ad 14), .ref (ad 15), .int v991, .int v993, .ref (ad 16), .int v995, .int v997, .int v999, .int v1001, .int v1002, .ref (ad 17), .ref (ad 18), .int v1003, .ref (ad 19)]) := ((o1017 0 (by decide)).trans c1004)
            have q1059 : fld (S1017 0) 6 = v977.toInt := fld_of c1058 rfl
            have q1060 : fld (S1017 0) 7 = v979.toInt := fld_of c1058 rfl
            refine xcVi E hs hQ hml hl.1 0 (gX12_numberw_1 l g ad hD S1017 hI 3436186 1 12 (by decide : Bd 1 (1) (1)) (by decide : Bd 12 (12) (12)) (by omega)) mX12_number_ q1672 (by decide) c1058 rfl rfl ⟨(Nat.le_of_ble_eq_true rfl), (Nat.le_of_ble_eq_true rfl)⟩ ⟨(Nat.le_of_ble_eq_true rfl), (Nat.le_of_ble_eq_true rfl)⟩ (Nat.le_of_ble_eq_true rfl) rfl dX12_shore_67 (fun r1061 S1061 H locs hp1061 hQ _ => ?_)
            obtain ⟨hI, o1061, b1061, g1061_0, g1061_1, g1061_2⟩ := hp1061
            obtain ⟨v1062, v1063, v1065, v1067, v1069, v1070, w1071, v1072, v1074, v1075, v1076, v1077, v1079, v1081, v1083, v1085, v1087, v1088, v1089, c1090, b1064, b1066, b1068, b1073, b1078, b1080, b1082, b1084, b1086⟩ := invM_0 hI
            have c1090 : S1061 0 = .inr (12, [.int v1062, .ref (ad 1), .ref (ad 2), .ref (ad 3), .ref (ad 4), .ref (ad 5), .int v1063, .int v1065, .int v1067, .int v1069, .int v1070, .long w1071, .int v1072, .int v1074, .int v1075, .int v1076, .ref (ad 6), .ref (ad 7), .ref (ad 8), .ref (ad 9), .ref (ad 10), .ref (ad 11), .ref (ad 12), .ref (ad 13), .ref (ad 14), .ref (ad 15), .int v1077, .int v1079, .ref (ad 16), .int v1081, .int v1083, .int v1085, .int v1087, .int v1088, .ref (ad 17), .ref (ad 18), .int v1089, .ref (ad 19)]) := c1090
            have q1091 : fld (S1061 0) 6 = v1063.toInt := fld_of c1090 rfl
            have q1092 : fld (S1061 0) 7 = v1065.toInt := fld_of c1090 rfl
            have q1093 : fld (S1017 0) 8 = v981.toInt := fld_of c1058 rfl
            have q1094 : fld (S1061 0) 8 = v1067.toInt := fld_of c1090 rfl
            have c1095 : S1061 7 = .inl (g.2 0, 50, .inl f1019) := ((o1061 7 (by decide)).trans c1020)
            refine xcVv E hs hQ hml hl.1 0 (gX12_tells_1 l g ad hD S1061 hI r1061 (ib_wk b1061 (by decide) (by decide))) mX12_tells q1629 (by decide) c1090 rfl rfl ⟨(Nat.le_of_ble_eq_true rfl), (Nat.le_of_ble_eq_true rfl)⟩ ⟨(Nat.le_of_ble_eq_true rfl), (Nat.le_of_ble_eq_true rfl)⟩ (Nat.le_of_ble_eq_true rfl) rfl dX12_shore_70 (fun S1096 H locs hp1096 hQ _ => ?_)
            obtain ⟨hI, o1096, g1096_0, g1096_1, g1096_2, g1096_3, g1096_4, g1096_5, g1096_6, ef1096_7⟩ := hp1096
            have ef1097 : EFp (S1096 7) (S 7) 0 40 := ef_tt ef1096_7 (ef_tr ef1018 (o1061 7 (by decide)))
            obtain ⟨f1098, c1099, b1100⟩ := invM_7 hI
            obtain ⟨v1101, ee1102⟩ : ∃ z : Int32, f1098 41 = z := ⟨_, rfl⟩
            have b1103 : Bd v1101 (0) (12) := (by rw [← ee1102]; exact b1100.2.1 41 (by decide))
            have q1104 : elm (S1096 7) 41 = v1101.toInt := (elm_of c1099 41).trans (congrArg Int32.toInt (ee1102))
            have b1105 : Bd v1101 (1) (12) := ⟨by omega, (b1103).2⟩
            have q1106 : elm (S1061 7) 40 = v1022.toInt := (elm_of c1095 40).trans (congrArg Int32.toInt (ee1023))
            obtain ⟨v1107, ee1108⟩ : ∃ z : Int32, f1098 40 = z := ⟨_, rfl⟩
            have b1109 : Bd v1107 (0) (12) := (by rw [← ee1108]; exact b1100.1 40 (by decide))
            have q1110 : elm (S1096 7) 40 = v1107.toInt := (elm_of c1099 40).trans (congrArg Int32.toInt (ee1108))
            have b1111 : Bd v1107 (3) (12) := ⟨by omega, (b1109).2⟩
            have q1112 : elm (S1061 7) 43 = v1033.toInt := (elm_of c1095 43).trans (congrArg Int32.toInt (ee1034))
            obtain ⟨v1113, ee1114⟩ : ∃ z : Int32, f1098 43 = z := ⟨_, rfl⟩
            have b1115 : Bd v1113 (0) (12) := (by rw [← ee1114]; exact b1100.2.2.2.1 43 (by decide))
            have q1116 : elm (S1096 7) 43 = v1113.toInt := (elm_of c1099 43).trans (congrArg Int32.toInt (ee1114))
            have q1117 : elm (S1061 7) 46 = v1038.toInt := (elm_of c1095 46).trans (congrArg Int32.toInt (ee1039))
            obtain ⟨v1118, ee1119⟩ : ∃ z : Int32, f1098 46 = z := ⟨_, rfl⟩
            have b1120 : Bd v1118 (0) (8) := (by rw [← ee1119]; exact b1100.2.2.2.2.1 46 (by decide))
            have q1121 : elm (S1096 7) 46 = v1118.toInt := (elm_of c1099 46).trans (congrArg Int32.toInt (ee1119))
            have q1122 : elm (S1061 7) 47 = v1043.toInt := (elm_of c1095 47).trans (congrArg Int32.toInt (ee1044))
            obtain ⟨v1123, ee1124⟩ : ∃ z : Int32, f1098 47 = z := ⟨_, rfl⟩
            have b1125 : Bd v1123 (0) (6) := (by rw [← ee1124]; exact b1100.2.2.2.2.2.1 47 (by decide))
            have q1126 : elm (S1096 7) 47 = v1123.toInt := (elm_of c1099 47).trans (congrArg Int32.toInt (ee1124))
            have q1127 : elm (S1061 7) 48 = v1048.toInt := (elm_of c1095 48).trans (congrArg Int32.toInt (ee1049))
            obtain ⟨v1128, ee1129⟩ : ∃ z : Int32, f1098 48 = z := ⟨_, rfl⟩
            have b1130 : Bd v1128 (0) (3) := (by rw [← ee1129]; exact b1100.2.2.2.2.2.2.1 48 (by decide))
            have q1131 : elm (S1096 7) 48 = v1128.toInt := (elm_of c1099 48).trans (congrArg Int32.toInt (ee1129))
            have q1132 : elm (S1061 7) 49 = v1053.toInt := (elm_of c1095 49).trans (congrArg Int32.toInt (ee1054))
            obtain ⟨v1133, ee1134⟩ : ∃ z : Int32, f1098 49 = z := ⟨_, rfl⟩
            have b1135 : Bd v1133 (0) (40) := (by rw [← ee1134]; exact b1100.2.2.2.2.2.2.2 49 (by decide))
            have q1136 : elm (S1096 7) 49 = v1133.toInt := (elm_of c1099 49).trans (congrArg Int32.toInt (ee1134))
            have b1137 : Bd v1133 (0) (0) := ⟨(b1135).1, by omega⟩
            refine lv_aload_n hx hb dX12_shore_73 rfl (lv_at hl 0 rfl) ?_
            refine lv_iconst (v := 2) hx hb dX12_shore_74 (by decide) ?_
            refine lv_aload_n hx hb dX12_shore_75 rfl (lv_at hl 0 rfl) ?_
            refine lv_ldc2 (v := 10334396) hx hb E.2.2.1 (E.2.2.2.1 _ q1681) dX12_shore_76 ?_
            refine lv_iconst (v := 0) hx hb dX12_shore_79 (by decide) ?_
            refine lv_bipush (v := 6) hx hb dX12_shore_80 (by decide) ?_
            have c1138 : S1096 0 = .inr (12, [.int v1062, .ref (ad 1), .ref (ad 2), .ref (ad 3), .ref (ad 4), .ref (ad 5), .int v1063, .int v1065, .int v1067, .int v1069, .int v1070, .long w1071, .int v1072, .int v1074, .int v1075, .int v1076, .ref (ad 6), .ref (ad 7), .ref (ad 8), .ref (ad 9), .ref (ad 10), .ref (ad 11), .ref (ad 12), .ref (ad 13), .ref (ad 14), .ref (ad 15), .int v1077, .int v1079, .ref (ad 16), .int v1081, .int v1083, .int v1085, .int v1087, .int v1088, .ref (ad 17), .ref (ad 18), .int v1089, .ref (ad 19)]) := ((o1096 0 (by decide)).trans c1090)
            have q1139 : fld (S1096 0) 6 = v1063.toInt := fld_of c1138 rfl
            have q1140 : fld (S1096 0) 7 = v1065.toInt := fld_of c1138 rfl
            refine xcVi E hs hQ hml hl.1 0 (gX12_numberw_2 l g ad hD S1096 hI 10334396 0 6 (by decide : Bd 0 (0) (0)) (by decide : Bd 6 (6) (6)) (by omega)) mX12_number_ q1672 (by decide) c1138 rfl rfl ⟨(Nat.le_of_ble_eq_true rfl), (Nat.le_of_ble_eq_true rfl)⟩ ⟨(Nat.le_of_ble_eq_true rfl), (Nat.le_of_ble_eq_true rfl)⟩ (Nat.le_of_ble_eq_true rfl) rfl dX12_shore_82 (fun r1141 S1141 H locs hp1141 hQ _ => ?_)
            obtain ⟨hI, o1141, b1141, g1141_0, g1141_1, g1141_2⟩ := hp1141
            obtain ⟨v1142, v1143, v1145, v1147, v1149, v1150, w1151, v1152, v1154, v1155, v1156, v1157, v1159, v1161, v1163, v1165, v1167, v1168, v1169, c1170, b1144, b1146, b1148, b1153, b1158, b1160, b1162, b1164, b1166⟩ := invM_0 hI
            have c1170 : S1141 0 = .inr (12, [.int v1142, .ref (ad 1), .ref (ad 2), .ref (ad 3), .ref (ad 4), .ref (ad 5), .int v1143, .int v1145, .int v1147, .int v1149, .int v1150, .long w1151, .int v1152, .int v1154, .int v1155, .int v1156, .ref (ad 6), .ref (ad 7), .ref (ad 8), .ref (ad 9), .ref (ad 10), .ref (ad 11), .ref (ad 12), .ref (ad 13), .ref (ad 14), .ref (ad 15), .int v1157, .int v1159, .ref (ad 16), .int v1161, .int v1163, .int v1165, .int v1167, .int v1168, .ref (ad 17), .ref (ad 18), .int v1169, .ref (ad 19)]) := c1170
            have q1171 : fld (S1141 0) 6 = v1143.toInt := fld_of c1170 rfl
            have q1172 : fld (S1141 0) 7 = v1145.toInt := fld_of c1170 rfl
            have q1173 : fld (S1096 0) 8 = v1067.toInt := fld_of c1138 rfl
            have q1174 : fld (S1141 0) 8 = v1147.toInt := fld_of c1170 rfl
            have c1175 : S1141 7 = .inl (g.2 0, 50, .inl f1098) := ((o1141 7 (by decide)).trans c1099)
            refine xcVv E hs hQ hml hl.1 0 (gX12_tells_2 l g ad hD S1141 hI r1141 b1141) mX12_tells q1629 (by decide) c1170 rfl rfl ⟨(Nat.le_of_ble_eq_true rfl), (Nat.le_of_ble_eq_true rfl)⟩ ⟨(Nat.le_of_ble_eq_true rfl), (Nat.le_of_ble_eq_true rfl)⟩ (Nat.le_of_ble_eq_true rfl) rfl dX12_shore_85 (fun S1176 H locs hp1176 hQ _ => ?_)
            obtain ⟨hI, o1176, g1176_0, g1176_1, g1176_2, g1176_3, g1176_4, g1176_5, g1176_6, ef1176_7⟩ := hp1176
            have ef1177 : EFp (S1176 7) (S 7) 0 40 := ef_tt ef1176_7 (ef_tr ef1097 (o1141 7 (by decide)))
            have q1178 : elm (S1141 7) 40 = v1107.toInt := (elm_of c1175 40).trans (congrArg Int32.toInt (ee1108))
            obtain ⟨f1179, c1180, b1181⟩ := invM_7 hI
            obtain ⟨v1182, ee1183⟩ : ∃ z : Int32, f1179 40 = z := ⟨_, rfl⟩
            have b1184 : Bd v1182 (0) (12) := (by rw [← ee1183]; exact b1181.1 40 (by decide))
            have q1185 : elm (S1176 7) 40 = v1182.toInt := (elm_of c1180 40).trans (congrArg Int32.toInt (ee1183))
            have b1186 : Bd v1182 (3) (12) := ⟨by omega, (b1184).2⟩
            have q1187 : elm (S1141 7) 41 = v1101.toInt := (elm_of c1175 41).trans (congrArg Int32.toInt (ee1102))
            obtain ⟨v1188, ee1189⟩ : ∃ z : Int32, f1179 41 = z := ⟨_, rfl⟩
            have b1190 : Bd v1188 (0) (12) := (by rw [← ee1189]; exact b1181.2.1 41 (by decide))
            have q1191 : elm (S1176 7) 41 = v1188.toInt := (elm_of c1180 41).trans (congrArg Int32.toInt (ee1189))
            have b1192 : Bd v1188 (1) (12) := ⟨by omega, (b1190).2⟩
            have q1193 : elm (S1141 7) 43 = v1113.toInt := (elm_of c1175 43).trans (congrArg Int32.toInt (ee1114))
            obtain ⟨v1194, ee1195⟩ : ∃ z : Int32, f1179 43 = z := ⟨_, rfl⟩
            have b1196 : Bd v1194 (0) (12) := (by rw [← ee1195]; exact b1181.2.2.2.1 43 (by decide))
            have q1197 : elm (S1176 7) 43 = v1194.toInt := (elm_of c1180 43).trans (congrArg Int32.toInt (ee1195))
            have q1198 : elm (S1141 7) 46 = v1118.toInt := (elm_of c1175 46).trans (congrArg Int32.toInt (ee1119))
            obtain ⟨v1199, ee1200⟩ : ∃ z : Int32, f1179 46 = z := ⟨_, rfl⟩
            have b1201 : Bd v1199 (0) (8) := (by rw [← ee1200]; exact b1181.2.2.2.2.1 46 (by decide))
            have q1202 : elm (S1176 7) 46 = v1199.toInt := (elm_of c1180 46).trans (congrArg Int32.toInt (ee1200))
            have q1203 : elm (S1141 7) 47 = v1123.toInt := (elm_of c1175 47).trans (congrArg Int32.toInt (ee1124))
            obtain ⟨v1204, ee1205⟩ : ∃ z : Int32, f1179 47 = z := ⟨_, rfl⟩
            have b1206 : Bd v1204 (0) (6) := (by rw [← ee1205]; exact b1181.2.2.2.2.2.1 47 (by decide))
            have q1207 : elm (S1176 7) 47 = v1204.toInt := (elm_of c1180 47).trans (congrArg Int32.toInt (ee1205))
            have q1208 : elm (S1141 7) 48 = v1128.toInt := (elm_of c1175 48).trans (congrArg Int32.toInt (ee1129))
            obtain ⟨v1209, ee1210⟩ : ∃ z : Int32, f1179 48 = z := ⟨_, rfl⟩
            have b1211 : Bd v1209 (0) (3) := (by rw [← ee1210]; exact b1181.2.2.2.2.2.2.1 48 (by decide))
            have q1212 : elm (S1176 7) 48 = v1209.toInt := (elm_of c1180 48).trans (congrArg Int32.toInt (ee1210))
            have q1213 : elm (S1141 7) 49 = v1133.toInt := (elm_of c1175 49).trans (congrArg Int32.toInt (ee1134))
            obtain ⟨v1214, ee1215⟩ : ∃ z : Int32, f1179 49 = z := ⟨_, rfl⟩
            have b1216 : Bd v1214 (0) (40) := (by rw [← ee1215]; exact b1181.2.2.2.2.2.2.2 49 (by decide))
            have q1217 : elm (S1176 7) 49 = v1214.toInt := (elm_of c1180 49).trans (congrArg Int32.toInt (ee1215))
            have b1218 : Bd v1214 (0) (0) := ⟨(b1216).1, by omega⟩
            refine lv_aload_n hx hb dX12_shore_88 rfl (lv_at hl 0 rfl) ?_
            refine lv_iconst (v := 3) hx hb dX12_shore_89 (by decide) ?_
            refine lv_aload_n hx hb dX12_shore_90 rfl (lv_at hl 0 rfl) ?_
            refine lv_ldc2 (v := 3701) hx hb E.2.2.1 (E.2.2.2.1 _ q1682) dX12_shore_91 ?_
            refine lv_iconst (v := 1) hx hb dX12_shore_94 (by decide) ?_
            refine lv_bipush (v := 12) hx hb dX12_shore_95 (by decide) ?_
            have c1219 : S1176 0 = .inr (12, [.int v1142, .ref (ad 1), .ref (ad 2), .ref (ad 3), .ref (ad 4), .ref (ad 5), .int v1143, .int v1145, .int v1147, .int v1149, .int v1150, .long w1151, .int v1152, .int v1154, .int v1155, .int v1156, .ref (ad 6), .ref (ad 7), .ref (ad 8), .ref (ad 9), .ref (ad 10), .ref (ad 11), .ref (ad 12), .ref (ad 13), .ref (ad 14), .ref (ad 15), .int v1157, .int v1159, .ref (ad 16), .int v1161, .int v1163, .int v1165, .int v1167, .int v1168, .ref (ad 17), .ref (ad 18), .int v1169, .ref (ad 19)]) := ((o1176 0 (by decide)).trans c1170)
            have q1220 : fld (S1176 0) 6 = v1143.toInt := fld_of c1219 rfl
            have q1221 : fld (S1176 0) 7 = v1145.toInt := fld_of c1219 rfl
            refine xcVi E hs hQ hml hl.1 0 (gX12_numberw_1 l g ad hD S1176 hI 3701 1 12 (by decide : Bd 1 (1) (1)) (by decide : Bd 12 (12) (12)) (by omega)) mX12_number_ q1672 (by decide) c1219 rfl rfl ⟨(Nat.le_of_ble_eq_true rfl), (Nat.le_of_ble_eq_true rfl)⟩ ⟨(Nat.le_of_ble_eq_true rfl), (Nat.le_of_ble_eq_true rfl)⟩ (Nat.le_of_ble_eq_true rfl) rfl dX12_shore_97 (fun r1222 S1222 H locs hp1222 hQ _ => ?_)
            obtain ⟨hI, o1222, b1222, g1222_0, g1222_1, g1222_2⟩ := hp1222
            obtain ⟨v1223, v1224, v1226, v1228, v1230, v1231, w1232, v1233, v1235, v1236, v1237, v1238, v1240, v1242, v1244, v1246, v1248, v1249, v1250, c1251, b1225, b1227, b1229, b1234, b1239, b1241, b1243, b1245, b1247⟩ := invM_0 hI
            have c1251 : S1222 0 = .inr (12, [.int v1223, .ref (ad 1), .ref (ad 2), .ref (ad 3), .ref (ad 4), .ref (ad 5), .int v1224, .int v1226, .int v1228, .int v1230, .int v1231, .long w1232, .int v1233, .int v1235, .int v1236, .int v1237, .ref (ad 6), .ref (ad 7), .ref (ad 8), .ref (ad 9), .ref (ad 10), .ref (ad 11), .ref (ad 12), .ref (ad 13), .ref (ad 14), .ref (ad 15), .int v1238, .int v1240, .ref (ad 16), .int v1242, .int v1244, .int v1246, .int v1248, .int v1249, .ref (ad 17), .ref (ad 18), .int v1250, .ref (ad 19)]) := c1251
            have q1252 : fld (S1222 0) 6 = v1224.toInt := fld_of c1251 rfl
            have q1253 : fld (S1222 0) 7 = v1226.toInt := fld_of c1251 rfl
            have q1254 : fld (S1176 0) 8 = v1147.toInt := fld_of c1219 rfl
            have q1255 : fld (S1222 0) 8 = v1228.toInt := fld_of c1251 rfl
            have c1256 : S1222 7 = .inl (g.2 0, 50, .inl f1179) := ((o1222 7 (by decide)).trans c1180)
            refine xcVv E hs hQ hml hl.1 0 (gX12_tells_3 l g ad hD S1222 hI r1222 (ib_wk b1222 (by decide) (by decide))) mX12_tells q1629 (by decide) c1251 rfl rfl ⟨(Nat.le_of_ble_eq_true rfl), (Nat.le_of_ble_eq_true rfl)⟩ ⟨(Nat.le_of_ble_eq_true rfl), (Nat.le_of_ble_eq_true rfl)⟩ (Nat.le_of_ble_eq_true rfl) rfl dX12_shore_100 (fun S1257 H locs hp1257 hQ _ => ?_)
            obtain ⟨hI, o1257, g1257_0, g1257_1, g1257_2, g1257_3, g1257_4, g1257_5, g1257_6, ef1257_7⟩ := hp1257
            have ef1258 : EFp (S1257 7) (S 7) 0 40 := ef_tt ef1257_7 (ef_tr ef1177 (o1222 7 (by decide)))
            obtain ⟨f1259, c1260, b1261⟩ := invM_7 hI
            obtain ⟨v1262, ee1263⟩ : ∃ z : Int32, f1259 43 = z := ⟨_, rfl⟩
            have b1264 : Bd v1262 (0) (12) := (by rw [← ee1263]; exact b1261.2.2.2.1 43 (by decide))
            have q1265 : elm (S1257 7) 43 = v1262.toInt := (elm_of c1260 43).trans (congrArg Int32.toInt (ee1263))
            have b1266 : Bd v1262 (1) (12) := ⟨by omega, (b1264).2⟩
            have q1267 : elm (S1222 7) 40 = v1182.toInt := (elm_of c1256 40).trans (congrArg Int32.toInt (ee1183))
            obtain ⟨v1268, ee1269⟩ : ∃ z : Int32, f1259 40 = z := ⟨_, rfl⟩
            have b1270 : Bd v1268 (0) (12) := (by rw [← ee1269]; exact b1261.1 40 (by decide))
            have q1271 : elm (S1257 7) 40 = v1268.toInt := (elm_of c1260 40).trans (congrArg Int32.toInt (ee1269))
            have b1272 : Bd v1268 (3) (12) := ⟨by omega, (b1270).2⟩
            have q1273 : elm (S1222 7) 41 = v1188.toInt := (elm_of c1256 41).trans (congrArg Int32.toInt (ee1189))
            obtain ⟨v1274, ee1275⟩ : ∃ z : Int32, f1259 41 = z := ⟨_, rfl⟩
            have b1276 : Bd v1274 (0) (12) := (by rw [← ee1275]; exact b1261.2.1 41 (by decide))
            have q1277 : elm (S1257 7) 41 = v1274.toInt := (elm_of c1260 41).trans (congrArg Int32.toInt (ee1275))
            have b1278 : Bd v1274 (1) (12) := ⟨by omega, (b1276).2⟩
            have q1279 : elm (S1222 7) 46 = v1199.toInt := (elm_of c1256 46).trans (congrArg Int32.toInt (ee1200))
            obtain ⟨v1280, ee1281⟩ : ∃ z : Int32, f1259 46 = z := ⟨_, rfl⟩
            have b1282 : Bd v1280 (0) (8) := (by rw [← ee1281]; exact b1261.2.2.2.2.1 46 (by decide))
            have q1283 : elm (S1257 7) 46 = v1280.toInt := (elm_of c1260 46).trans (congrArg Int32.toInt (ee1281))
            have q1284 : elm (S1222 7) 47 = v1204.toInt := (elm_of c1256 47).trans (congrArg Int32.toInt (ee1205))
            obtain ⟨v1285, ee1286⟩ : ∃ z : Int32, f1259 47 = z := ⟨_, rfl⟩
            have b1287 : Bd v1285 (0) (6) := (by rw [← ee1286]; exact b1261.2.2.2.2.2.1 47 (by decide))
            have q1288 : elm (S1257 7) 47 = v1285.toInt := (elm_of c1260 47).trans (congrArg Int32.toInt (ee1286))
            have q1289 : elm (S1222 7) 48 = v1209.toInt := (elm_of c1256 48).trans (congrArg Int32.toInt (ee1210))
            obtain ⟨v1290, ee1291⟩ : ∃ z : Int32, f1259 48 = z := ⟨_, rfl⟩
            have b1292 : Bd v1290 (0) (3) := (by rw [← ee1291]; exact b1261.2.2.2.2.2.2.1 48 (by decide))
            have q1293 : elm (S1257 7) 48 = v1290.toInt := (elm_of c1260 48).trans (congrArg Int32.toInt (ee1291))
            have q1294 : elm (S1222 7) 49 = v1214.toInt := (elm_of c1256 49).trans (congrArg Int32.toInt (ee1215))
            obtain ⟨v1295, ee1296⟩ : ∃ z : Int32, f1259 49 = z := ⟨_, rfl⟩
            have b1297 : Bd v1295 (0) (40) := (by rw [← ee1296]; exact b1261.2.2.2.2.2.2.2 49 (by decide))
            have q1298 : elm (S1257 7) 49 = v1295.toInt := (elm_of c1260 49).trans (congrArg Int32.toInt (ee1296))
            have b1299 : Bd v1295 (0) (0) := ⟨(b1297).1, by omega⟩
            refine lv_aload_n hx hb dX12_shore_103 rfl (lv_at hl 0 rfl) ?_
            refine lv_iconst (v := 4) hx hb dX12_shore_104 (by decide) ?_
            refine lv_aload_n hx hb dX12_shore_105 rfl (lv_at hl 0 rfl) ?_
            refine lv_ldc2 (v := 298288) hx hb E.2.2.1 (E.2.2.2.1 _ q1683) dX12_shore_106 ?_
            refine lv_iconst (v := 0) hx hb dX12_shore_109 (by decide) ?_
            refine lv_bipush (v := 100) hx hb dX12_shore_110 (by decide) ?_
            have c1300 : S1257 0 = .inr (12, [.int v1223, .ref (ad 1), .ref (ad 2), .ref (ad 3), .ref (ad 4), .ref (ad 5), .int v1224, .int v1226, .int v1228, .int v1230, .int v1231, .long w1232, .int v1233, .int v1235, .int v1236, .int v1237, .ref (ad 6), .ref (ad 7), .ref (ad 8), .ref (ad 9), .ref (ad 10), .ref (ad 11), .ref (ad 12), .ref (ad 13), .ref (ad 14), .ref (ad 15), .int v1238, .int v1240, .ref (ad 16), .int v1242, .int v1244, .int v1246, .int v1248, .int v1249, .ref (ad 17), .ref (ad 18), .int v1250, .ref (ad 19)]) := ((o1257 0 (by decide)).trans c1251)
            have q1301 : fld (S1257 0) 6 = v1224.toInt := fld_of c1300 rfl
            have q1302 : fld (S1257 0) 7 = v1226.toInt := fld_of c1300 rfl
            refine xcVi E hs hQ hml hl.1 0 (gX12_numberw_3 l g ad hD S1257 hI 298288 0 100 (by decide : Bd 0 (0) (0)) (by decide : Bd 100 (100) (100)) (by omega)) mX12_number_ q1672 (by decide) c1300 rfl rfl ⟨(Nat.le_of_ble_eq_true rfl), (Nat.le_of_ble_eq_true rfl)⟩ ⟨(Nat.le_of_ble_eq_true rfl), (Nat.le_of_ble_eq_true rfl)⟩ (Nat.le_of_ble_eq_true rfl) rfl dX12_shore_112 (fun r1303 S1303 H locs hp1303 hQ _ => ?_)
            obtain ⟨hI, o1303, b1303, g1303_0, g1303_1, g1303_2⟩ := hp1303
            obtain ⟨v1304, v1305, v1307, v1309, v1311, v1312, w1313, v1314, v1316, v1317, v1318, v1319, v1321, v1323, v1325, v1327, v1329, v1330, v1331, c1332, b1306, b1308, b1310, b1315, b1320, b1322, b1324, b1326, b1328⟩ := invM_0 hI
            have c1332 : S1303 0 = .inr (12, [.int v1304, .ref (ad 1), .ref (ad 2), .ref (ad 3), .ref (ad 4), .ref (ad 5), .int v1305, .int v1307, .int v1309, .int v1311, .int v1312, .long w1313, .int v1314, .int v1316, .int v1317, .int v1318, .ref (ad 6), .ref (ad 7), .ref (ad 8), .ref (ad 9), .ref (ad 10), .ref (ad 11), .ref (ad 12), .ref (ad 13), .ref (ad 14), .ref (ad 15), .int v1319, .int v1321, .ref (ad 16), .int v1323, .int v1325, .int v1327, .int v1329, .int v1330, .ref (ad 17), .ref (ad 18), .int v1331, .ref (ad 19)]) := c1332
            have q1333 : fld (S1303 0) 6 = v1305.toInt := fld_of c1332 rfl
            have q1334 : fld (S1303 0) 7 = v1307.toInt := fld_of c1332 rfl
            have q1335 : fld (S1257 0) 8 = v1228.toInt := fld_of c1300 rfl
            have q1336 : fld (S1303 0) 8 = v1309.toInt := fld_of c1332 rfl
            have c1337 : S1303 7 = .inl (g.2 0, 50, .inl f1259) := ((o1303 7 (by decide)).trans c1260)
            refine xcVv E hs hQ hml hl.1 0 (gX12_tells_4 l g ad hD S1303 hI r1303) mX12_tells q1629 (by decide) c1332 rfl rfl ⟨(Nat.le_of_ble_eq_true rfl), (Nat.le_of_ble_eq_true rfl)⟩ ⟨(Nat.le_of_ble_eq_true rfl), (Nat.le_of_ble_eq_true rfl)⟩ (Nat.le_of_ble_eq_true rfl) rfl dX12_shore_115 (fun S1338 H locs hp1338 hQ _ => ?_)
            obtain ⟨hI, o1338, g1338_0, g1338_1, g1338_2, g1338_3, g1338_4, g1338_5, g1338_6, ef1338_7⟩ := hp1338
            have ef1339 : EFp (S1338 7) (S 7) 0 40 := ef_tt ef1338_7 (ef_tr ef1258 (o1303 7 (by decide)))
            have q1340 : elm (S1303 7) 40 = v1268.toInt := (elm_of c1337 40).trans (congrArg Int32.toInt (ee1269))
            obtain ⟨f1341, c1342, b1343⟩ := invM_7 hI
            obtain ⟨v1344, ee1345⟩ : ∃ z : Int32, f1341 40 = z := ⟨_, rfl⟩
            have b1346 : Bd v1344 (0) (12) := (by rw [← ee1345]; exact b1343.1 40 (by decide))
            have q1347 : elm (S1338 7) 40 = v1344.toInt := (elm_of c1342 40).trans (congrArg Int32.toInt (ee1345))
            have b1348 : Bd v1344 (3) (12) := ⟨by omega, (b1346).2⟩
            have q1349 : elm (S1303 7) 41 = v1274.toInt := (elm_of c1337 41).trans (congrArg Int32.toInt (ee1275))
            obtain ⟨v1350, ee1351⟩ : ∃ z : Int32, f1341 41 = z := ⟨_, rfl⟩
            have b1352 : Bd v1350 (0) (12) := (by rw [← ee1351]; exact b1343.2.1 41 (by decide))
            have q1353 : elm (S1338 7) 41 = v1350.toInt := (elm_of c1342 41).trans (congrArg Int32.toInt (ee1351))
            have b1354 : Bd v1350 (1) (12) := ⟨by omega, (b1352).2⟩
            have q1355 : elm (S1303 7) 43 = v1262.toInt := (elm_of c1337 43).trans (congrArg Int32.toInt (ee1263))
            obtain ⟨v1356, ee1357⟩ : ∃ z : Int32, f1341 43 = z := ⟨_, rfl⟩
            have b1358 : Bd v1356 (0) (12) := (by rw [← ee1357]; exact b1343.2.2.2.1 43 (by decide))
            have q1359 : elm (S1338 7) 43 = v1356.toInt := (elm_of c1342 43).trans (congrArg Int32.toInt (ee1357))
            have b1360 : Bd v1356 (1) (12) := ⟨by omega, (b1358).2⟩
            have q1361 : elm (S1303 7) 46 = v1280.toInt := (elm_of c1337 46).trans (congrArg Int32.toInt (ee1281))
            obtain ⟨v1362, ee1363⟩ : ∃ z : Int32, f1341 46 = z := ⟨_, rfl⟩
            have b1364 : Bd v1362 (0) (8) := (by rw [← ee1363]; exact b1343.2.2.2.2.1 46 (by decide))
            have q1365 : elm (S1338 7) 46 = v1362.toInt := (elm_of c1342 46).trans (congrArg Int32.toInt (ee1363))
            have q1366 : elm (S1303 7) 47 = v1285.toInt := (elm_of c1337 47).trans (congrArg Int32.toInt (ee1286))
            obtain ⟨v1367, ee1368⟩ : ∃ z : Int32, f1341 47 = z := ⟨_, rfl⟩
            have b1369 : Bd v1367 (0) (6) := (by rw [← ee1368]; exact b1343.2.2.2.2.2.1 47 (by decide))
            have q1370 : elm (S1338 7) 47 = v1367.toInt := (elm_of c1342 47).trans (congrArg Int32.toInt (ee1368))
            have q1371 : elm (S1303 7) 48 = v1290.toInt := (elm_of c1337 48).trans (congrArg Int32.toInt (ee1291))
            obtain ⟨v1372, ee1373⟩ : ∃ z : Int32, f1341 48 = z := ⟨_, rfl⟩
            have b1374 : Bd v1372 (0) (3) := (by rw [← ee1373]; exact b1343.2.2.2.2.2.2.1 48 (by decide))
            have q1375 : elm (S1338 7) 48 = v1372.toInt := (elm_of c1342 48).trans (congrArg Int32.toInt (ee1373))
            have q1376 : elm (S1303 7) 49 = v1295.toInt := (elm_of c1337 49).trans (congrArg Int32.toInt (ee1296))
            obtain ⟨v1377, ee1378⟩ : ∃ z : Int32, f1341 49 = z := ⟨_, rfl⟩
            have b1379 : Bd v1377 (0) (40) := (by rw [← ee1378]; exact b1343.2.2.2.2.2.2.2 49 (by decide))
            have q1380 : elm (S1338 7) 49 = v1377.toInt := (elm_of c1342 49).trans (congrArg Int32.toInt (ee1378))
            have b1381 : Bd v1377 (0) (0) := ⟨(b1379).1, by omega⟩
            refine lv_goto (tgt := 125) hx hb dX12_shore_118 (by decide) ?_
            refine lv_aload_n hx hb dX12_shore_125 rfl (lv_at hl 0 rfl) ?_
            have c1382 : S1338 0 = .inr (12, [.int v1304, .ref (ad 1), .ref (ad 2), .ref (ad 3), .ref (ad 4), .ref (ad 5), .int v1305, .int v1307, .int v1309, .int v1311, .int v1312, .long w1313, .int v1314, .int v1316, .int v1317, .int v1318, .ref (ad 6), .ref (ad 7), .ref (ad 8), .ref (ad 9), .ref (ad 10), .ref (ad 11), .ref (ad 12), .ref (ad 13), .ref (ad 14), .ref (ad 15), .int v1319, .int v1321, .ref (ad 16), .int v1323, .int v1325, .int v1327, .int v1329, .int v1330, .ref (ad 17), .ref (ad 18), .int v1331, .ref (ad 19)]) := ((o1338 0 (by decide)).trans c1332)
            refine xcVi E hs hQ hml hl.1 0 (gX12_isGood_0 l g ad hD S1338 hI ) mX12_isGood q1650 (by decide) c1382 rfl rfl ⟨(Nat.le_of_ble_eq_true rfl), (Nat.le_of_ble_eq_true rfl)⟩ ⟨(Nat.le_of_ble_eq_true rfl), (Nat.le_of_ble_eq_true rfl)⟩ (Nat.le_of_ble_eq_true rfl) rfl dX12_shore_126 (fun r1383 S1383 H locs hp1383 hQ _ => ?_)
            obtain ⟨rfl, b1383, g1383_0, g1383_1⟩ := hp1383
            have q1384 : fld (S1338 0) 12 = v1314.toInt := fld_of c1382 rfl
            refine lv_if_eq (tgt := 136) hx hb dX12_shore_129 (by decide) (fun k1385 => ?_) (fun k1385 => ?_)
            · have h1386 := ib_eq k1385
              have b1387 : Bd r1383 (0) (0) := ⟨(b1383).1, ((rf_eq b1383 (by decide : Bd 0 (0) (0)) h1386).1).2⟩
              clear g1383_0
              have g1388 := g1383_1.resolve_left (by omega)
              clear g1383_1
              have b1389 : Bd v1314 (1) (3) := ⟨by omega, (b1315).2⟩
              refine lv_aload_n hx hb dX12_shore_136 rfl (lv_at hl 0 rfl) ?_
              refine xget E hQ 0 (by decide) c1382 rfl 16 (by decide) q1484 rfl dX12_shore_137 ?_
              refine lv_iconst (v := 4) hx hb dX12_shore_140 (by decide) ?_
              refine lv_dup2_11 hx hb dX12_shore_141 rfl rfl ?_
              have c1390 : S1338 6 = .inl (g.2 0, 5, .inl f771) := ((o1338 6 (by decide)).trans ((o1303 6 (by decide)).trans ((o1257 6 (by decide)).trans ((o1222 6 (by decide)).trans ((o1176 6 (by decide)).trans ((o1141 6 (by decide)).trans ((o1096 6 (by decide)).trans ((o1061 6 (by decide)).trans ((o1017 6 (by decide)).trans ((o975 6 (by decide)).trans ((o941 6 (by decide)).trans c772)))))))))))
              refine xiald E hQ 6 (by decide) c1390 (vp_in_lit 4 5 (by decide)) dX12_shore_142 ?_
              refine sb_at (P := fun z => W _ _ _ _ _ _ _ _ _ _ _ _ _ _ _ (F0 _ _ _ (.int z :: _))) (show f771 (4 : Int32).toNatClampNeg = ye13_6_4 from ee774) ?_
              refine lv_iconst (v := 1) hx hb dX12_shore_143 (by decide) ?_
              refine lv_iadd hx hb dX12_shore_144 ?_
              refine lv_topi (fun z1391 e1392 => ?_)
              have t1393 := ib_add e1392 b938 (by decide : Bd 1 (1) (1)) (by decide) (by decide)
              have b1394 : Bd z1391 (1) (1) := ib_addb t1393 b938 (by decide : Bd 1 (1) (1))
              have t1393 : z1391.toInt = ye13_6_4.toInt + 1 := fold_add t1393 rfl (by decide)
              refine xiast E hs hQ 6 (by decide) c1390 (vp_in_lit 4 5 (by decide)) dX12_shore_145 (fun H locs S1395 eS1395 hQ => ?_)
              have hI := invM_up_6 hI eS1395 ⟨_, rfl, upd_b b773 (ib_wk b1394 (by decide) (by decide))⟩
              have b1397 : ∀ j, Bd ((upd f771 (4 : Int32).toNatClampNeg z1391) j) (0) (40000) := upd_b b773 (ib_wk b1394 (by decide) (by decide))
              have c1396 : S1395 6 = .inl (g.2 0, 5, .inl (upd f771 (4 : Int32).toNatClampNeg z1391)) := up_at eS1395 rfl
              have ef1398 : EFp (S1395 6) (S 6) 0 4 := ef_up (ef_tr hE13_6 ((o1338 6 (by decide)).trans ((o1303 6 (by decide)).trans ((o1257 6 (by decide)).trans ((o1222 6 (by decide)).trans ((o1176 6 (by decide)).trans ((o1141 6 (by decide)).trans ((o1096 6 (by decide)).trans ((o1061 6 (by decide)).trans ((o1017 6 (by decide)).trans ((o975 6 (by decide)).trans (o941 6 (by decide))))))))))))) c1390 c1396 (by decide)
              refine lv_goto (tgt := 13) hx hb dX12_shore_146 (by decide) ?_
              have c1399 : S1395 7 = .inl (g.2 0, 50, .inl f1341) := (up_ne eS1395 (by decide) c1342)
              have c1400 : S1395 0 = .inr (12, [.int v1304, .ref (ad 1), .ref (ad 2), .ref (ad 3), .ref (ad 4), .ref (ad 5), .int v1305, .int v1307, .int v1309, .int v1311, .int v1312, .long w1313, .int v1314, .int v1316, .int v1317, .int v1318, .ref (ad 6), .ref (ad 7), .ref (ad 8), .ref (ad 9), .ref (ad 10), .ref (ad 11), .ref (ad 12), .ref (ad 13), .ref (ad 14), .ref (ad 15), .int v1319, .int v1321, .ref (ad 16), .int v1323, .int v1325, .int v1327, .int v1329, .int v1330, .ref (ad 17), .ref (ad 18), .int v1331, .ref (ad 19)]) := (up_ne eS1395 (by decide) c1382)
              exact ih13 _ _ _ _ v1304 v1305 v1307 v1309 v1311 v1312 w1313 v1314 v1316 v1317 v1318 v1319 v1321 v1323 v1325 v1327 v1329 v1330 v1331 v1344 v1350 v1356 v1362 v1367 v1372 v1377 z1391 b1306 b1308 b1310 (ib_wk b1389 (by decide) (by decide)) b1320 b1322 b1324 b1326 b1328 (ib_wk b1348 (by decide) (by decide)) (ib_wk b1354 (by decide) (by decide)) (ib_wk b1360 (by decide) (by decide)) b1364 b1369 b1374 b1381 (ib_wk b1394 (by decide) (by decide)) (by omega) (by omega) (by omega) (by omega) (by omega) (by omega) (by omega) (by omega) (by omega) (by omega) hI (up_o (o_trans (o_trans (o_trans (o_trans (o_trans (o_trans (o_trans (o_trans (o_trans (o_trans (o_trans hf13 o941 (by decide)) o975 (by decide)) o1017 (by decide)) o1061 (by decide)) o1096 (by decide)) o1141 (by decide)) o1176 (by decide)) o1222 (by decide)) o1257 (by decide)) o1303 (by decide)) o1338 (by decide)) eS1395 (by decide)) c1400 (ef_tr ef1339 (up_eq (j := 7) eS1395 (by decide))) ef1398 ((elm_of c1399 40).trans (congrArg Int32.toInt (ee1345))) ((elm_of c1399 41).trans (congrArg Int32.toInt (ee1351))) ((elm_of c1399 43).trans (congrArg Int32.toInt (ee1357))) ((elm_of c1399 46).trans (congrArg Int32.toInt (ee1363))) ((elm_of c1399 47).trans (congrArg Int32.toInt (ee1368))) ((elm_of c1399 48).trans (congrArg Int32.toInt (ee1373))) ((elm_of c1399 49).trans (congrArg Int32.toInt (ee1378))) ((elm_of c1396 4).trans (congrArg Int32.toInt ((upd_s)))) hQ (lv_sub hl [0] rfl)
            · have h1401 := ib_ne k1385
              have b1402 : Bd r1383 (1) (1) := rf_nlo b1383 (by decide : Bd 0 (0) (0)) h1401
              have g1403 := g1383_0.resolve_left (by omega)
              clear g1383_0
              have b1404 : Bd v1314 (0) (0) := ⟨(b1315).1, by omega⟩
              clear g1383_1
              refine lv_aload_n hx hb dX12_shore_132 rfl (lv_at hl 0 rfl) ?_
              have q1405 : fld (S1338 0) 6 = v1305.toInt := fld_of c1382 rfl
              have q1406 : fld (S1338 0) 7 = v1307.toInt := fld_of c1382 rfl
              refine xcVv E hs hQ hml hl.1 0 (gX12_ends_0 l g ad hD S1338 hI (by omega)) mX12_ends q1731 (by decide) c1382 rfl rfl ⟨(Nat.le_of_ble_eq_true rfl), (Nat.le_of_ble_eq_true rfl)⟩ ⟨(Nat.le_of_ble_eq_true rfl), (Nat.le_of_ble_eq_true rfl)⟩ (Nat.le_of_ble_eq_true rfl) rfl dX12_shore_133 (fun S1407 H locs hp1407 hQ _ => ?_)
              obtain ⟨hI, o1407, g1407_0, g1407_1, g1407_2, g1407_3⟩ := hp1407
              obtain ⟨v1408, v1409, v1411, v1413, v1415, v1416, w1417, v1418, v1420, v1421, v1422, v1423, v1425, v1427, v1429, v1431, v1433, v1434, v1435, c1436, b1410, b1412, b1414, b1419, b1424, b1426, b1428, b1430, b1432⟩ := invM_0 hI
              have c1436 : S1407 0 = .inr (12, [.int v1408, .ref (ad 1), .ref (ad 2), .ref (ad 3), .ref (ad 4), .ref (ad 5), .int v1409, .int v1411, .int v1413, .int v1415, .int v1416, .long w1417, .int v1418, .int v1420, .int v1421, .int v1422, .ref (ad 6), .ref (ad 7), .ref (ad 8), .ref (ad 9), .ref (ad 10), .ref (ad 11), .ref (ad 12), .ref (ad 13), .ref (ad 14), .ref (ad 15), .int v1423, .int v1425, .ref (ad 16), .int v1427, .int v1429, .int v1431, .int v1433, .int v1434, .ref (ad 17), .ref (ad 18), .int v1435, .ref (ad 19)]) := c1436
              have q1437 : fld (S1407 0) 6 = v1409.toInt := fld_of c1436 rfl
              have q1438 : fld (S1407 0) 7 = v1411.toInt := fld_of c1436 rfl
              have q1439 : fld (S1338 0) 8 = v1309.toInt := fld_of c1382 rfl
              have q1440 : fld (S1407 0) 8 = v1413.toInt := fld_of c1436 rfl
              have q1441 : fld (S1407 0) 12 = v1418.toInt := fld_of c1436 rfl
              refine lv_aload_n hx hb dX12_shore_136 rfl (lv_at hl 0 rfl) ?_
              refine xget E hQ 0 (by decide) c1436 rfl 16 (by decide) q1484 rfl dX12_shore_137 ?_
              refine lv_iconst (v := 4) hx hb dX12_shore_140 (by decide) ?_
              refine lv_dup2_11 hx hb dX12_shore_141 rfl rfl ?_
              have c1442 : S1407 6 = .inl (g.2 0, 5, .inl f771) := ((o1407 6 (by decide)).trans ((o1338 6 (by decide)).trans ((o1303 6 (by decide)).trans ((o1257 6 (by decide)).trans ((o1222 6 (by decide)).trans ((o1176 6 (by decide)).trans ((o1141 6 (by decide)).trans ((o1096 6 (by decide)).trans ((o1061 6 (by decide)).trans ((o1017 6 (by decide)).trans ((o975 6 (by decide)).trans ((o941 6 (by decide)).trans c772))))))))))))
              refine xiald E hQ 6 (by decide) c1442 (vp_in_lit 4 5 (by decide)) dX12_shore_142 ?_
              refine sb_at (P := fun z => W _ _ _ _ _ _ _ _ _ _ _ _ _ _ _ (F0 _ _ _ (.int z :: _))) (show f771 (4 : Int32).toNatClampNeg = ye13_6_4 from ee774) ?_
              refine lv_iconst (v := 1) hx hb dX12_shore_143 (by decide) ?_
              refine lv_iadd hx hb dX12_shore_144 ?_
              refine lv_topi (fun z1443 e1444 => ?_)
              have t1445 := ib_add e1444 b938 (by decide : Bd 1 (1) (1)) (by decide) (by decide)
              have b1446 : Bd z1443 (1) (1) := ib_addb t1445 b938 (by decide : Bd 1 (1) (1))
              have t1445 : z1443.toInt = ye13_6_4.toInt + 1 := fold_add t1445 rfl (by decide)
              refine xiast E hs hQ 6 (by decide) c1442 (vp_in_lit 4 5 (by decide)) dX12_shore_145 (fun H locs S1447 eS1447 hQ => ?_)
              have hI := invM_up_6 hI eS1447 ⟨_, rfl, upd_b b773 (ib_wk b1446 (by decide) (by decide))⟩
              have b1449 : ∀ j, Bd ((upd f771 (4 : Int32).toNatClampNeg z1443) j) (0) (40000) := upd_b b773 (ib_wk b1446 (by decide) (by decide))
              have c1448 : S1447 6 = .inl (g.2 0, 5, .inl (upd f771 (4 : Int32).toNatClampNeg z1443)) := up_at eS1447 rfl
              have ef1450 : EFp (S1447 6) (S 6) 0 4 := ef_up (ef_tr hE13_6 ((o1407 6 (by decide)).trans ((o1338 6 (by decide)).trans ((o1303 6 (by decide)).trans ((o1257 6 (by decide)).trans ((o1222 6 (by decide)).trans ((o1176 6 (by decide)).trans ((o1141 6 (by decide)).trans ((o1096 6 (by decide)).trans ((o1061 6 (by decide)).trans ((o1017 6 (by decide)).trans ((o975 6 (by decide)).trans (o941 6 (by decide)))))))))))))) c1442 c1448 (by decide)
              refine lv_goto (tgt := 13) hx hb dX12_shore_146 (by decide) ?_
              have c1451 : S1447 7 = .inl (g.2 0, 50, .inl f1341) := (up_ne eS1447 (by decide) ((o1407 7 (by decide)).trans c1342))
              have c1452 : S1447 0 = .inr (12, [.int v1408, .ref (ad 1), .ref (ad 2), .ref (ad 3), .ref (ad 4), .ref (ad 5), .int v1409, .int v1411, .int v1413, .int v1415, .int v1416, .long w1417, .int v1418, .int v1420, .int v1421, .int v1422, .ref (ad 6), .ref (ad 7), .ref (ad 8), .ref (ad 9), .ref (ad 10), .ref (ad 11), .ref (ad 12), .ref (ad 13), .ref (ad 14), .ref (ad 15), .int v1423, .int v1425, .ref (ad 16), .int v1427, .int v1429, .int v1431, .int v1433, .int v1434, .ref (ad 17), .ref (ad 18), .int v1435, .ref (ad 19)]) := (up_ne eS1447 (by decide) c1436)
              exact ih13 _ _ _ _ v1408 v1409 v1411 v1413 v1415 v1416 w1417 v1418 v1420 v1421 v1422 v1423 v1425 v1427 v1429 v1431 v1433 v1434 v1435 v1344 v1350 v1356 v1362 v1367 v1372 v1377 z1443 b1410 b1412 b1414 b1419 b1424 b1426 b1428 b1430 b1432 (ib_wk b1348 (by decide) (by decide)) (ib_wk b1354 (by decide) (by decide)) (ib_wk b1360 (by decide) (by decide)) b1364 b1369 b1374 b1381 (ib_wk b1446 (by decide) (by decide)) (by omega) (by omega) (by omega) (by omega) (by omega) (by omega) (by omega) (by omega) (by omega) (by omega) hI (up_o (o_trans (o_trans (o_trans (o_trans (o_trans (o_trans (o_trans (o_trans (o_trans (o_trans (o_trans (o_trans hf13 o941 (by decide)) o975 (by decide)) o1017 (by decide)) o1061 (by decide)) o1096 (by decide)) o1141 (by decide)) o1176 (by decide)) o1222 (by decide)) o1257 (by decide)) o1303 (by decide)) o1338 (by decide)) o1407 (by decide)) eS1447 (by decide)) c1452 (ef_tr ef1339 ((up_eq (j := 7) eS1447 (by decide)).trans (o1407 7 (by decide)))) ef1450 ((elm_of c1451 40).trans (congrArg Int32.toInt (ee1345))) ((elm_of c1451 41).trans (congrArg Int32.toInt (ee1351))) ((elm_of c1451 43).trans (congrArg Int32.toInt (ee1357))) ((elm_of c1451 46).trans (congrArg Int32.toInt (ee1363))) ((elm_of c1451 47).trans (congrArg Int32.toInt (ee1368))) ((elm_of c1451 48).trans (congrArg Int32.toInt (ee1373))) ((elm_of c1451 49).trans (congrArg Int32.toInt (ee1378))) ((elm_of c1448 4).trans (congrArg Int32.toInt ((upd_s)))) hQ (lv_sub hl [0] rfl)
  obtain ⟨n13, hn13⟩ := fu_n (4 * v205.toInt + (-4) * v207.toInt + v209.toInt + (-10000) * v214.toInt + 30000)
  exact loop13 n13 _ _ _ _ v204 v205 v207 v209 v211 v212 w213 v214 v216 v217 v218 v219 v221 v223 v225 v227 v229 v230 v231 v159 v164 v169 v174 v179 v184 v189 v197 b206 b208 b210 (ib_wk b237 (by decide) (by decide)) b220 b222 b224 b226 b228 (ib_wk b163 (by decide) (by decide)) (ib_wk b168 (by decide) (by decide)) (ib_wk b173 (by decide) (by decide)) (ib_wk b178 (by decide) (by decide)) (ib_wk b183 (by decide) (by decide)) (ib_wk b188 (by decide) (by decide)) b193 (ib_wk b201 (by decide) (by decide)) (by omega) (by omega) (by omega) (by omega) (by omega) (by omega) (by omega) (by omega) (by omega) (by omega) hI o_refl c232 (ef_tr ef154 (o203 7 (by decide))) (ef_tr ef155 (o203 6 (by decide))) ((elm_of c238 40).trans (congrArg Int32.toInt (ee160))) ((elm_of c238 41).trans (congrArg Int32.toInt (ee165))) ((elm_of c238 43).trans (congrArg Int32.toInt (ee170))) ((elm_of c238 46).trans (congrArg Int32.toInt (ee175))) ((elm_of c238 47).trans (congrArg Int32.toInt (ee180))) ((elm_of c238 48).trans (congrArg Int32.toInt (ee185))) ((elm_of c238 49).trans (congrArg Int32.toInt (ee190))) ((elm_of c239 4).trans (congrArg Int32.toInt (ee198))) hQ (lv_sub hl [0] rfl)
