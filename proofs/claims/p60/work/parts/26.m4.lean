set_option maxHeartbeats 4000000 in
set_option maxRecDepth 100000 in
theorem gX12_copyShore_4_0 (l : Launch) (g : GG) (ad : Nat → Nat) (hD : Dj ad 20) (S : SS) (hI : InvM g ad S) (hAT0 : ATp (S 7) (S 12) 0) (hAT1 : ATp (S 7) (S 12) 1) (hAT2 : ATp (S 7) (S 12) 2) (hAT3 : ATp (S 7) (S 12) 3) (hAT4 : ATp (S 7) (S 12) 4) : Met l yX12_copyShore (wG (.code yX12_copyShore cX12_copyShore 3 none)) (Rm 1) (XPre g ad 20 S [.ref (ad 0), .int 4, .int 0]) (va_Qv (fun S' => InvM g ad S' ∧ (∀ j, j ∉ ([6, 7, 8, 9, 10, 11, 12] : List Nat) → S' j = S j) ∧ (0 ≤ elm (S 7) 40 + (-1) * elm (S' 7) 0 ∧ 0 ≤ elm (S' 7) 0 + (-1) * elm (S 7) 40) ∧ (0 ≤ elm (S 7) 41 + (-1) * elm (S' 7) 1 ∧ 0 ≤ elm (S' 7) 1 + (-1) * elm (S 7) 41) ∧ (0 ≤ elm (S 7) 43 + (-1) * elm (S' 7) 3 ∧ 0 ≤ elm (S' 7) 3 + (-1) * elm (S 7) 43) ∧ (0 ≤ elm (S 7) 46 + (-1) * elm (S' 7) 6 ∧ 0 ≤ elm (S' 7) 6 + (-1) * elm (S 7) 46) ∧ (0 ≤ elm (S 7) 48 + (-1) * elm (S' 7) 8 ∧ 0 ≤ elm (S' 7) 8 + (-1) * elm (S 7) 48) ∧ (0 ≤ elm (S 7) 49 + (-1) * elm (S' 7) 9 ∧ 0 ≤ elm (S' 7) 9 + (-1) * elm (S 7) 49) ∧ (0 ≤ elm (S 7) 10 + (-1) * elm (S' 7) 10 ∧ 0 ≤ elm (S' 7) 10 + (-1) * elm (S 7) 10) ∧ (0 ≤ elm (S 7) 11 + (-1) * elm (S' 7) 11 ∧ 0 ≤ elm (S' 7) 11 + (-1) * elm (S 7) 11) ∧ (0 ≤ elm (S 7) 13 + (-1) * elm (S' 7) 13 ∧ 0 ≤ elm (S' 7) 13 + (-1) * elm (S 7) 13) ∧ (0 ≤ elm (S 7) 16 + (-1) * elm (S' 7) 16 ∧ 0 ≤ elm (S' 7) 16 + (-1) * elm (S 7) 16) ∧ (0 ≤ elm (S 7) 18 + (-1) * elm (S' 7) 18 ∧ 0 ≤ elm (S' 7) 18 + (-1) * elm (S 7) 18) ∧ (0 ≤ elm (S 7) 19 + (-1) * elm (S' 7) 19 ∧ 0 ≤ elm (S' 7) 19 + (-1) * elm (S 7) 19) ∧ (0 ≤ elm (S 7) 20 + (-1) * elm (S' 7) 20 ∧ 0 ≤ elm (S' 7) 20 + (-1) * elm (S 7) 20) ∧ (0 ≤ elm (S 7) 21 + (-1) * elm (S' 7) 21 ∧ 0 ≤ elm (S' 7) 21 + (-1) * elm (S 7) 21) ∧ (0 ≤ elm (S 7) 23 + (-1) * elm (S' 7) 23 ∧ 0 ≤ elm (S' 7) 23 + (-1) * elm (S 7) 23) ∧ (0 ≤ elm (S 7) 26 + (-1) * elm (S' 7) 26 ∧ 0 ≤ elm (S' 7) 26 + (-1) * elm (S 7) 26) ∧ (0 ≤ elm (S 7) 28 + (-1) * elm (S' 7) 28 ∧ 0 ≤ elm (S' 7) 28 + (-1) * elm (S 7) 28) ∧ (0 ≤ elm (S 7) 29 + (-1) * elm (S' 7) 29 ∧ 0 ≤ elm (S' 7) 29 + (-1) * elm (S 7) 29) ∧ (0 ≤ elm (S 7) 30 + (-1) * elm (S' 7) 30 ∧ 0 ≤ elm (S' 7) 30 + (-1) * elm (S 7) 30) ∧ (0 ≤ elm (S 7) 31 + (-1) * elm (S' 7) 31 ∧ 0 ≤ elm (S' 7) 31 + (-1) * elm (S 7) 31) ∧ (0 ≤ elm (S 7) 33 + (-1) * elm (S' 7) 33 ∧ 0 ≤ elm (S' 7) 33 + (-1) * elm (S 7) 33) ∧ (0 ≤ elm (S 7) 36 + (-1) * elm (S' 7) 36 ∧ 0 ≤ elm (S' 7) 36 + (-1) * elm (S 7) 36) ∧ (0 ≤ elm (S 7) 38 + (-1) * elm (S' 7) 38 ∧ 0 ≤ elm (S' 7) 38 + (-1) * elm (S 7) 38) ∧ (0 ≤ elm (S 7) 39 + (-1) * elm (S' 7) 39 ∧ 0 ≤ elm (S' 7) 39 + (-1) * elm (S 7) 39) ∧ (0 ≤ elm (S 6) 4 + (-1) * elm (S' 6) 0 ∧ 0 ≤ elm (S' 6) 0 + (-1) * elm (S 6) 4) ∧ (0 ≤ elm (S 6) 1 + (-1) * elm (S' 6) 1 ∧ 0 ≤ elm (S' 6) 1 + (-1) * elm (S 6) 1) ∧ (0 ≤ elm (S 6) 2 + (-1) * elm (S' 6) 2 ∧ 0 ≤ elm (S' 6) 2 + (-1) * elm (S 6) 2) ∧ (0 ≤ elm (S 6) 3 + (-1) * elm (S' 6) 3 ∧ 0 ≤ elm (S' 6) 3 + (-1) * elm (S 6) 3) ∧ (ATp (S' 7) (S' 12) 0) ∧ (ATp (S' 7) (S' 12) 1) ∧ (ATp (S' 7) (S' 12) 2) ∧ (ATp (S' 7) (S' 12) 3)) (QB g ad 20) (FA ad 20)) 0 0 (FA ad 20) := by
  refine xmet cX12_copyShore "EbbWreckModel" (by decide) rfl (Nat.le_of_ble_eq_true rfl) (fun p e s m below meth c E hr hlk hml hQ ls hl => ?_)
  have hx := E.1
  have hb := E.2.1
  have hs : Sp ad 20 (FA ad 20) := Sp.fa hD
  have hl : lv_has ls 3 [(0, .ref (ad 0)), (1, .int 4), (2, .int 0)] := hl
  obtain ⟨f1, c2, b3⟩ := invM_7 hI
  obtain ⟨v4, ee5⟩ : ∃ z : Int32, f1 40 = z := ⟨_, rfl⟩
  have b6 : Bd v4 (0) (12) := (by rw [← ee5]; exact b3.1 40 (by decide))
  obtain ⟨v7, ee8⟩ : ∃ z : Int32, f1 0 = z := ⟨_, rfl⟩
  have b9 : Bd v7 (0) (12) := (by rw [← ee8]; exact b3.1 0 (by decide))
  obtain ⟨v10, ee11⟩ : ∃ z : Int32, f1 41 = z := ⟨_, rfl⟩
  have b12 : Bd v10 (0) (12) := (by rw [← ee11]; exact b3.2.1 41 (by decide))
  obtain ⟨v13, ee14⟩ : ∃ z : Int32, f1 1 = z := ⟨_, rfl⟩
  have b15 : Bd v13 (0) (12) := (by rw [← ee14]; exact b3.2.1 1 (by decide))
  obtain ⟨v16, ee17⟩ : ∃ z : Int32, f1 43 = z := ⟨_, rfl⟩
  have b18 : Bd v16 (0) (12) := (by rw [← ee17]; exact b3.2.2.2.1 43 (by decide))
  obtain ⟨v19, ee20⟩ : ∃ z : Int32, f1 3 = z := ⟨_, rfl⟩
  have b21 : Bd v19 (0) (12) := (by rw [← ee20]; exact b3.2.2.2.1 3 (by decide))
  obtain ⟨v22, ee23⟩ : ∃ z : Int32, f1 46 = z := ⟨_, rfl⟩
  have b24 : Bd v22 (0) (8) := (by rw [← ee23]; exact b3.2.2.2.2.1 46 (by decide))
  obtain ⟨v25, ee26⟩ : ∃ z : Int32, f1 6 = z := ⟨_, rfl⟩
  have b27 : Bd v25 (0) (8) := (by rw [← ee26]; exact b3.2.2.2.2.1 6 (by decide))
  obtain ⟨v28, ee29⟩ : ∃ z : Int32, f1 48 = z := ⟨_, rfl⟩
  have b30 : Bd v28 (0) (3) := (by rw [← ee29]; exact b3.2.2.2.2.2.2.1 48 (by decide))
  obtain ⟨v31, ee32⟩ : ∃ z : Int32, f1 8 = z := ⟨_, rfl⟩
  have b33 : Bd v31 (0) (3) := (by rw [← ee32]; exact b3.2.2.2.2.2.2.1 8 (by decide))
  obtain ⟨v34, ee35⟩ : ∃ z : Int32, f1 49 = z := ⟨_, rfl⟩
  have b36 : Bd v34 (0) (40) := (by rw [← ee35]; exact b3.2.2.2.2.2.2.2 49 (by decide))
  obtain ⟨v37, ee38⟩ : ∃ z : Int32, f1 9 = z := ⟨_, rfl⟩
  have b39 : Bd v37 (0) (40) := (by rw [← ee38]; exact b3.2.2.2.2.2.2.2 9 (by decide))
  obtain ⟨v40, ee41⟩ : ∃ z : Int32, f1 10 = z := ⟨_, rfl⟩
  have b42 : Bd v40 (0) (12) := (by rw [← ee41]; exact b3.1 10 (by decide))
  obtain ⟨v43, ee44⟩ : ∃ z : Int32, f1 11 = z := ⟨_, rfl⟩
  have b45 : Bd v43 (0) (12) := (by rw [← ee44]; exact b3.2.1 11 (by decide))
  obtain ⟨v46, ee47⟩ : ∃ z : Int32, f1 13 = z := ⟨_, rfl⟩
  have b48 : Bd v46 (0) (12) := (by rw [← ee47]; exact b3.2.2.2.1 13 (by decide))
  obtain ⟨v49, ee50⟩ : ∃ z : Int32, f1 16 = z := ⟨_, rfl⟩
  have b51 : Bd v49 (0) (8) := (by rw [← ee50]; exact b3.2.2.2.2.1 16 (by decide))
  obtain ⟨v52, ee53⟩ : ∃ z : Int32, f1 18 = z := ⟨_, rfl⟩
  have b54 : Bd v52 (0) (3) := (by rw [← ee53]; exact b3.2.2.2.2.2.2.1 18 (by decide))
  obtain ⟨v55, ee56⟩ : ∃ z : Int32, f1 19 = z := ⟨_, rfl⟩
  have b57 : Bd v55 (0) (40) := (by rw [← ee56]; exact b3.2.2.2.2.2.2.2 19 (by decide))
  obtain ⟨v58, ee59⟩ : ∃ z : Int32, f1 20 = z := ⟨_, rfl⟩
  have b60 : Bd v58 (0) (12) := (by rw [← ee59]; exact b3.1 20 (by decide))
  obtain ⟨v61, ee62⟩ : ∃ z : Int32, f1 21 = z := ⟨_, rfl⟩
  have b63 : Bd v61 (0) (12) := (by rw [← ee62]; exact b3.2.1 21 (by decide))
  obtain ⟨v64, ee65⟩ : ∃ z : Int32, f1 23 = z := ⟨_, rfl⟩
  have b66 : Bd v64 (0) (12) := (by rw [← ee65]; exact b3.2.2.2.1 23 (by decide))
  obtain ⟨v67, ee68⟩ : ∃ z : Int32, f1 26 = z := ⟨_, rfl⟩
  have b69 : Bd v67 (0) (8) := (by rw [← ee68]; exact b3.2.2.2.2.1 26 (by decide))
  obtain ⟨v70, ee71⟩ : ∃ z : Int32, f1 28 = z := ⟨_, rfl⟩
  have b72 : Bd v70 (0) (3) := (by rw [← ee71]; exact b3.2.2.2.2.2.2.1 28 (by decide))
  obtain ⟨v73, ee74⟩ : ∃ z : Int32, f1 29 = z := ⟨_, rfl⟩
  have b75 : Bd v73 (0) (40) := (by rw [← ee74]; exact b3.2.2.2.2.2.2.2 29 (by decide))
  obtain ⟨v76, ee77⟩ : ∃ z : Int32, f1 30 = z := ⟨_, rfl⟩
  have b78 : Bd v76 (0) (12) := (by rw [← ee77]; exact b3.1 30 (by decide))
  obtain ⟨v79, ee80⟩ : ∃ z : Int32, f1 31 = z := ⟨_, rfl⟩
  have b81 : Bd v79 (0) (12) := (by rw [← ee80]; exact b3.2.1 31 (by decide))
  obtain ⟨v82, ee83⟩ : ∃ z : Int32, f1 33 = z := ⟨_, rfl⟩
  have b84 : Bd v82 (0) (12) := (by rw [← ee83]; exact b3.2.2.2.1 33 (by decide))
  obtain ⟨v85, ee86⟩ : ∃ z : Int32, f1 36 = z := ⟨_, rfl⟩
  have b87 : Bd v85 (0) (8) := (by rw [← ee86]; exact b3.2.2.2.2.1 36 (by decide))
  obtain ⟨v88, ee89⟩ : ∃ z : Int32, f1 38 = z := ⟨_, rfl⟩
  have b90 : Bd v88 (0) (3) := (by rw [← ee89]; exact b3.2.2.2.2.2.2.1 38 (by decide))
  obtain ⟨v91, ee92⟩ : ∃ z : Int32, f1 39 = z := ⟨_, rfl⟩
  have b93 : Bd v91 (0) (40) := (by rw [← ee92]; exact b3.2.2.2.2.2.2.2 39 (by decide))
  obtain ⟨f94, c95, b96⟩ := invM_6 hI
  obtain ⟨v97, ee98⟩ : ∃ z : Int32, f94 4 = z := ⟨_, rfl⟩
  have b99 : Bd v97 (0) (40000) := (by rw [← ee98]; exact b96 4)
  obtain ⟨v100, ee101⟩ : ∃ z : Int32, f94 0 = z := ⟨_, rfl⟩
  have b102 : Bd v100 (0) (40000) := (by rw [← ee101]; exact b96 0)
  obtain ⟨v103, ee104⟩ : ∃ z : Int32, f94 1 = z := ⟨_, rfl⟩
  have b105 : Bd v103 (0) (40000) := (by rw [← ee104]; exact b96 1)
  obtain ⟨v106, ee107⟩ : ∃ z : Int32, f94 2 = z := ⟨_, rfl⟩
  have b108 : Bd v106 (0) (40000) := (by rw [← ee107]; exact b96 2)
  obtain ⟨v109, ee110⟩ : ∃ z : Int32, f94 3 = z := ⟨_, rfl⟩
  have b111 : Bd v109 (0) (40000) := (by rw [← ee110]; exact b96 3)
  obtain ⟨f112, c113, b114⟩ := invM_12 hI
  refine lv_aload_n hx hb dX12_copyShore_0 rfl (lv_at hl 0 rfl) ?_
  obtain ⟨v115, v116, v118, v120, v122, v123, w124, v125, v127, v128, v129, v130, v132, v134, v136, v138, v140, v141, v142, c143, b117, b119, b121, b126, b131, b133, b135, b137, b139⟩ := invM_0 hI
  have c143 : S 0 = .inr (12, [.int v115, .ref (ad 1), .ref (ad 2), .ref (ad 3), .ref (ad 4), .ref (ad 5), .int v116, .int v118, .int v120, .int v122, .int v123, .long w124, .int v125, .int v127, .int v128, .int v129, .ref (ad 6), .ref (ad 7), .ref (ad 8), .ref (ad 9), .ref (ad 10), .ref (ad 11), .ref (ad 12), .ref (ad 13), .ref (ad 14), .ref (ad 15), .int v130, .int v132, .ref (ad 16), .int v134, .int v136, .int v138, .int v140, .int v141, .ref (ad 17), .ref (ad 18), .int v142, .ref (ad 19)]) := c143
  refine xget E hQ 0 (by decide) c143 rfl 16 (by decide) q1484 rfl dX12_copyShore_1 ?_
  refine lv_iconst (v := 1) hx hb dX12_copyShore_4 (by decide) ?_
  refine lv_iload_n hx hb dX12_copyShore_5 rfl (lv_at hl 1 rfl) ?_
  refine lv_iload_n hx hb dX12_copyShore_6 rfl (lv_at hl 2 rfl) ?_
  refine xcSv E hs hQ hml hl.1 (uCopyRow l g ad 20 hD S 6 (by decide) 5 (by decide) f94 1 4 0 (by decide) (by decide) (by decide) c95) mX12_copyRow q1743 rfl ⟨(Nat.le_of_ble_eq_true rfl), (Nat.le_of_ble_eq_true rfl)⟩ ⟨(Nat.le_of_ble_eq_true rfl), (Nat.le_of_ble_eq_true rfl)⟩ (Nat.le_of_ble_eq_true rfl) rfl dX12_copyShore_7 (fun S144 H locs eS144 hQ => ?_)
  have hI := invM_up_6 hI eS144 ⟨_, rfl, cp_b b96⟩
  have b146 : ∀ j, Bd ((cpF f94 1 4 0 1) j) (0) (40000) := cp_b b96
  have c145 : S144 6 = .inl (g.2 0, 5, .inl (cpF f94 1 4 0 1)) := up_at eS144 rfl
  refine lv_aload_n hx hb dX12_copyShore_10 rfl (lv_at hl 0 rfl) ?_
  have c147 : S144 0 = .inr (12, [.int v115, .ref (ad 1), .ref (ad 2), .ref (ad 3), .ref (ad 4), .ref (ad 5), .int v116, .int v118, .int v120, .int v122, .int v123, .long w124, .int v125, .int v127, .int v128, .int v129, .ref (ad 6), .ref (ad 7), .ref (ad 8), .ref (ad 9), .ref (ad 10), .ref (ad 11), .ref (ad 12), .ref (ad 13), .ref (ad 14), .ref (ad 15), .int v130, .int v132, .ref (ad 16), .int v134, .int v136, .int v138, .int v140, .int v141, .ref (ad 17), .ref (ad 18), .int v142, .ref (ad 19)]) := (up_ne eS144 (by decide) c143)
  refine xget E hQ 0 (by decide) c147 rfl 17 (by decide) q1485 rfl dX12_copyShore_11 ?_
  refine lv_bipush (v := 10) hx hb dX12_copyShore_14 (by decide) ?_
  refine lv_iload_n hx hb dX12_copyShore_16 rfl (lv_at hl 1 rfl) ?_
  refine lv_iload_n hx hb dX12_copyShore_17 rfl (lv_at hl 2 rfl) ?_
  have c148 : S144 7 = .inl (g.2 0, 50, .inl f1) := (up_ne eS144 (by decide) c2)
  refine xcSv E hs hQ hml hl.1 (uCopyRow l g ad 20 hD S144 7 (by decide) 50 (by decide) f1 10 4 0 (by decide) (by decide) (by decide) c148) mX12_copyRow q1743 rfl ⟨(Nat.le_of_ble_eq_true rfl), (Nat.le_of_ble_eq_true rfl)⟩ ⟨(Nat.le_of_ble_eq_true rfl), (Nat.le_of_ble_eq_true rfl)⟩ (Nat.le_of_ble_eq_true rfl) rfl dX12_copyShore_18 (fun S149 H locs eS149 hQ => ?_)
  have hI := invM_up_7 hI eS149 ⟨_, rfl, ⟨cp_m (q := 1) b3.1 (by decide), cp_m (q := 1) b3.2.1 (by decide), cp_m (q := 1) b3.2.2.1 (by decide), cp_m (q := 1) b3.2.2.2.1 (by decide), cp_m (q := 1) b3.2.2.2.2.1 (by decide), cp_m (q := 1) b3.2.2.2.2.2.1 (by decide), cp_m (q := 1) b3.2.2.2.2.2.2.1 (by decide), cp_m (q := 1) b3.2.2.2.2.2.2.2 (by decide)⟩⟩
  have b151 : (∀ j, j % 10 = 0 → Bd ((cpF f1 10 4 0 10) j) (0) (12)) ∧ (∀ j, j % 10 = 1 → Bd ((cpF f1 10 4 0 10) j) (0) (12)) ∧ (∀ j, j % 10 = 2 → Bd ((cpF f1 10 4 0 10) j) (0) (6)) ∧ (∀ j, j % 10 = 3 → Bd ((cpF f1 10 4 0 10) j) (0) (12)) ∧ (∀ j, j % 10 = 6 → Bd ((cpF f1 10 4 0 10) j) (0) (8)) ∧ (∀ j, j % 10 = 7 → Bd ((cpF f1 10 4 0 10) j) (0) (6)) ∧ (∀ j, j % 10 = 8 → Bd ((cpF f1 10 4 0 10) j) (0) (3)) ∧ (∀ j, j % 10 = 9 → Bd ((cpF f1 10 4 0 10) j) (0) (40)) := ⟨cp_m (q := 1) b3.1 (by decide), cp_m (q := 1) b3.2.1 (by decide), cp_m (q := 1) b3.2.2.1 (by decide), cp_m (q := 1) b3.2.2.2.1 (by decide), cp_m (q := 1) b3.2.2.2.2.1 (by decide), cp_m (q := 1) b3.2.2.2.2.2.1 (by decide), cp_m (q := 1) b3.2.2.2.2.2.2.1 (by decide), cp_m (q := 1) b3.2.2.2.2.2.2.2 (by decide)⟩
  have c150 : S149 7 = .inl (g.2 0, 50, .inl (cpF f1 10 4 0 10)) := up_at eS149 rfl
  refine lv_aload_n hx hb dX12_copyShore_21 rfl (lv_at hl 0 rfl) ?_
  have c152 : S149 0 = .inr (12, [.int v115, .ref (ad 1), .ref (ad 2), .ref (ad 3), .ref (ad 4), .ref (ad 5), .int v116, .int v118, .int v120, .int v122, .int v123, .long w124, .int v125, .int v127, .int v128, .int v129, .ref (ad 6), .ref (ad 7), .ref (ad 8), .ref (ad 9), .ref (ad 10), .ref (ad 11), .ref (ad 12), .ref (ad 13), .ref (ad 14), .ref (ad 15), .int v130, .int v132, .ref (ad 16), .int v134, .int v136, .int v138, .int v140, .int v141, .ref (ad 17), .ref (ad 18), .int v142, .ref (ad 19)]) := (up_ne eS149 (by decide) c147)
  refine xget E hQ 0 (by decide) c152 rfl 18 (by decide) q1486 rfl dX12_copyShore_22 ?_
  refine lv_bipush (v := 24) hx hb dX12_copyShore_25 (by decide) ?_
  refine lv_iload_n hx hb dX12_copyShore_27 rfl (lv_at hl 1 rfl) ?_
  refine lv_iload_n hx hb dX12_copyShore_28 rfl (lv_at hl 2 rfl) ?_
  obtain ⟨f153, c154⟩ := invM_8 hI
  refine xcSv E hs hQ hml hl.1 (uCopyRow l g ad 20 hD S149 8 (by decide) 120 (by decide) f153 24 4 0 (by decide) (by decide) (by decide) c154) mX12_copyRow q1743 rfl ⟨(Nat.le_of_ble_eq_true rfl), (Nat.le_of_ble_eq_true rfl)⟩ ⟨(Nat.le_of_ble_eq_true rfl), (Nat.le_of_ble_eq_true rfl)⟩ (Nat.le_of_ble_eq_true rfl) rfl dX12_copyShore_29 (fun S156 H locs eS156 hQ => ?_)
  have hI := invM_up_8 hI eS156 ⟨_, rfl⟩
  have c157 : S156 8 = .inl (g.2 0, 120, .inl (cpF f153 24 4 0 24)) := up_at eS156 rfl
  refine lv_aload_n hx hb dX12_copyShore_32 rfl (lv_at hl 0 rfl) ?_
  have c158 : S156 0 = .inr (12, [.int v115, .ref (ad 1), .ref (ad 2), .ref (ad 3), .ref (ad 4), .ref (ad 5), .int v116, .int v118, .int v120, .int v122, .int v123, .long w124, .int v125, .int v127, .int v128, .int v129, .ref (ad 6), .ref (ad 7), .ref (ad 8), .ref (ad 9), .ref (ad 10), .ref (ad 11), .ref (ad 12), .ref (ad 13), .ref (ad 14), .ref (ad 15), .int v130, .int v132, .ref (ad 16), .int v134, .int v136, .int v138, .int v140, .int v141, .ref (ad 17), .ref (ad 18), .int v142, .ref (ad 19)]) := (up_ne eS156 (by decide) c152)
  refine xget E hQ 0 (by decide) c158 rfl 19 (by decide) q1487 rfl dX12_copyShore_33 ?_
  refine lv_bipush (v := 24) hx hb dX12_copyShore_36 (by decide) ?_
  refine lv_iload_n hx hb dX12_copyShore_38 rfl (lv_at hl 1 rfl) ?_
  refine lv_iload_n hx hb dX12_copyShore_39 rfl (lv_at hl 2 rfl) ?_
  obtain ⟨f159, c160, b161⟩ := invM_9 hI
  refine xcSv E hs hQ hml hl.1 (uCopyRow l g ad 20 hD S156 9 (by decide) 120 (by decide) f159 24 4 0 (by decide) (by decide) (by decide) c160) mX12_copyRow q1743 rfl ⟨(Nat.le_of_ble_eq_true rfl), (Nat.le_of_ble_eq_true rfl)⟩ ⟨(Nat.le_of_ble_eq_true rfl), (Nat.le_of_ble_eq_true rfl)⟩ (Nat.le_of_ble_eq_true rfl) rfl dX12_copyShore_40 (fun S162 H locs eS162 hQ => ?_)
  have hI := invM_up_9 hI eS162 ⟨_, rfl, ⟨cp_m (q := 8) b161.1 (by decide), cp_m (q := 8) b161.2 (by decide)⟩⟩
  have b164 : (∀ j, j % 3 = 1 → Bd ((cpF f159 24 4 0 24) j) (0) (11)) ∧ (∀ j, j % 3 = 2 → Bd ((cpF f159 24 4 0 24) j) (0) (99)) := ⟨cp_m (q := 8) b161.1 (by decide), cp_m (q := 8) b161.2 (by decide)⟩
  have c163 : S162 9 = .inl (g.2 0, 120, .inl (cpF f159 24 4 0 24)) := up_at eS162 rfl
  refine lv_aload_n hx hb dX12_copyShore_43 rfl (lv_at hl 0 rfl) ?_
  have c165 : S162 0 = .inr (12, [.int v115, .ref (ad 1), .ref (ad 2), .ref (ad 3), .ref (ad 4), .ref (ad 5), .int v116, .int v118, .int v120, .int v122, .int v123, .long w124, .int v125, .int v127, .int v128, .int v129, .ref (ad 6), .ref (ad 7), .ref (ad 8), .ref (ad 9), .ref (ad 10), .ref (ad 11), .ref (ad 12), .ref (ad 13), .ref (ad 14), .ref (ad 15), .int v130, .int v132, .ref (ad 16), .int v134, .int v136, .int v138, .int v140, .int v141, .ref (ad 17), .ref (ad 18), .int v142, .ref (ad 19)]) := (up_ne eS162 (by decide) c158)
  refine xget E hQ 0 (by decide) c165 rfl 20 (by decide) q1488 rfl dX12_copyShore_44 ?_
  refine lv_bipush (v := 24) hx hb dX12_copyShore_47 (by decide) ?_
  refine lv_iload_n hx hb dX12_copyShore_49 rfl (lv_at hl 1 rfl) ?_
  refine lv_iload_n hx hb dX12_copyShore_50 rfl (lv_at hl 2 rfl) ?_
  obtain ⟨f166, c167⟩ := invM_10 hI
  refine xcSv E hs hQ hml hl.1 (uCopyRow l g ad 20 hD S162 10 (by decide) 120 (by decide) f166 24 4 0 (by decide) (by decide) (by decide) c167) mX12_copyRow q1743 rfl ⟨(Nat.le_of_ble_eq_true rfl), (Nat.le_of_ble_eq_true rfl)⟩ ⟨(Nat.le_of_ble_eq_true rfl), (Nat.le_of_ble_eq_true rfl)⟩ (Nat.le_of_ble_eq_true rfl) rfl dX12_copyShore_51 (fun S169 H locs eS169 hQ => ?_)
  have hI := invM_up_10 hI eS169 ⟨_, rfl⟩
  have c170 : S169 10 = .inl (g.2 0, 120, .inl (cpF f166 24 4 0 24)) := up_at eS169 rfl
  refine lv_aload_n hx hb dX12_copyShore_54 rfl (lv_at hl 0 rfl) ?_
  have c171 : S169 0 = .inr (12, [.int v115, .ref (ad 1), .ref (ad 2), .ref (ad 3), .ref (ad 4), .ref (ad 5), .int v116, .int v118, .int v120, .int v122, .int v123, .long w124, .int v125, .int v127, .int v128, .int v129, .ref (ad 6), .ref (ad 7), .ref (ad 8), .ref (ad 9), .ref (ad 10), .ref (ad 11), .ref (ad 12), .ref (ad 13), .ref (ad 14), .ref (ad 15), .int v130, .int v132, .ref (ad 16), .int v134, .int v136, .int v138, .int v140, .int v141, .ref (ad 17), .ref (ad 18), .int v142, .ref (ad 19)]) := (up_ne eS169 (by decide) c165)
  refine xget E hQ 0 (by decide) c171 rfl 21 (by decide) q1489 rfl dX12_copyShore_55 ?_
  refine lv_iconst (v := 3) hx hb dX12_copyShore_58 (by decide) ?_
  refine lv_iload_n hx hb dX12_copyShore_59 rfl (lv_at hl 1 rfl) ?_
  refine lv_iload_n hx hb dX12_copyShore_60 rfl (lv_at hl 2 rfl) ?_
  obtain ⟨f172, c173, b174⟩ := invM_11 hI
  refine xcSv E hs hQ hml hl.1 (uCopyRow l g ad 20 hD S169 11 (by decide) 15 (by decide) f172 3 4 0 (by decide) (by decide) (by decide) c173) mX12_copyRow q1743 rfl ⟨(Nat.le_of_ble_eq_true rfl), (Nat.le_of_ble_eq_true rfl)⟩ ⟨(Nat.le_of_ble_eq_true rfl), (Nat.le_of_ble_eq_true rfl)⟩ (Nat.le_of_ble_eq_true rfl) rfl dX12_copyShore_61 (fun S175 H locs eS175 hQ => ?_)
  have hI := invM_up_11 hI eS175 ⟨_, rfl, cp_b b174⟩
  have b177 : ∀ j, Bd ((cpF f172 3 4 0 3) j) (0) (11) := cp_b b174
  have c176 : S175 11 = .inl (g.2 0, 15, .inl (cpF f172 3 4 0 3)) := up_at eS175 rfl
  refine lv_aload_n hx hb dX12_copyShore_64 rfl (lv_at hl 0 rfl) ?_
  have c178 : S175 0 = .inr (12, [.int v115, .ref (ad 1), .ref (ad 2), .ref (ad 3), .ref (ad 4), .ref (ad 5), .int v116, .int v118, .int v120, .int v122, .int v123, .long w124, .int v125, .int v127, .int v128, .int v129, .ref (ad 6), .ref (ad 7), .ref (ad 8), .ref (ad 9), .ref (ad 10), .ref (ad 11), .ref (ad 12), .ref (ad 13), .ref (ad 14), .ref (ad 15), .int v130, .int v132, .ref (ad 16), .int v134, .int v136, .int v138, .int v140, .int v141, .ref (ad 17), .ref (ad 18), .int v142, .ref (ad 19)]) := (up_ne eS175 (by decide) c171)
  refine xget E hQ 0 (by decide) c178 rfl 22 (by decide) q1490 rfl dX12_copyShore_65 ?_
  refine lv_sipush (v := 160) hx hb dX12_copyShore_68 (by decide) ?_
  refine lv_iload_n hx hb dX12_copyShore_71 rfl (lv_at hl 1 rfl) ?_
  refine lv_iload_n hx hb dX12_copyShore_72 rfl (lv_at hl 2 rfl) ?_
  have c179 : S175 12 = .inl (g.2 0, 800, .inl f112) := (up_ne eS175 (by decide) (up_ne eS169 (by decide) (up_ne eS162 (by decide) (up_ne eS156 (by decide) (up_ne eS149 (by decide) (up_ne eS144 (by decide) c113))))))
  refine xcSv E hs hQ hml hl.1 (uCopyRow l g ad 20 hD S175 12 (by decide) 800 (by decide) f112 160 4 0 (by decide) (by decide) (by decide) c179) mX12_copyRow q1743 rfl ⟨(Nat.le_of_ble_eq_true rfl), (Nat.le_of_ble_eq_true rfl)⟩ ⟨(Nat.le_of_ble_eq_true rfl), (Nat.le_of_ble_eq_true rfl)⟩ (Nat.le_of_ble_eq_true rfl) rfl dX12_copyShore_73 (fun S180 H locs eS180 hQ => ?_)
  have hI := invM_up_12 hI eS180 ⟨_, rfl, ⟨cp_m (q := 40) b114.1 (by decide), cp_m (q := 40) b114.2 (by decide)⟩⟩
  have b182 : (∀ j, j % 4 = 1 → Bd ((cpF f112 160 4 0 160) j) (0) (7)) ∧ (∀ j, j % 4 = 2 → Bd ((cpF f112 160 4 0 160) j) (0) (400)) := ⟨cp_m (q := 40) b114.1 (by decide), cp_m (q := 40) b114.2 (by decide)⟩
  have c181 : S180 12 = .inl (g.2 0, 800, .inl (cpF f112 160 4 0 160)) := up_at eS180 rfl
  have q183 : elm (S 7) 40 = v4.toInt := (elm_of c2 40).trans (congrArg Int32.toInt (ee5))
  have c184 : S180 7 = .inl (g.2 0, 50, .inl (cpF f1 10 4 0 10)) := (up_ne eS180 (by decide) (up_ne eS175 (by decide) (up_ne eS169 (by decide) (up_ne eS162 (by decide) (up_ne eS156 (by decide) c150)))))
  have q185 : elm (S180 7) 0 = v4.toInt := (elm_of c184 0).trans (congrArg Int32.toInt (((show cpF f1 10 4 0 10 0 = f1 40 from rfl).trans (ee5))))
  have q186 : elm (S 7) 41 = v10.toInt := (elm_of c2 41).trans (congrArg Int32.toInt (ee11))
  have q187 : elm (S180 7) 1 = v10.toInt := (elm_of c184 1).trans (congrArg Int32.toInt (((show cpF f1 10 4 0 10 1 = f1 41 from rfl).trans (ee11))))
  have q188 : elm (S 7) 43 = v16.toInt := (elm_of c2 43).trans (congrArg Int32.toInt (ee17))
  have q189 : elm (S180 7) 3 = v16.toInt := (elm_of c184 3).trans (congrArg Int32.toInt (((show cpF f1 10 4 0 10 3 = f1 43 from rfl).trans (ee17))))
  have q190 : elm (S 7) 46 = v22.toInt := (elm_of c2 46).trans (congrArg Int32.toInt (ee23))
  have q191 : elm (S180 7) 6 = v22.toInt := (elm_of c184 6).trans (congrArg Int32.toInt (((show cpF f1 10 4 0 10 6 = f1 46 from rfl).trans (ee23))))
  have q192 : elm (S 7) 48 = v28.toInt := (elm_of c2 48).trans (congrArg Int32.toInt (ee29))
  have q193 : elm (S180 7) 8 = v28.toInt := (elm_of c184 8).trans (congrArg Int32.toInt (((show cpF f1 10 4 0 10 8 = f1 48 from rfl).trans (ee29))))
  have q194 : elm (S 7) 49 = v34.toInt := (elm_of c2 49).trans (congrArg Int32.toInt (ee35))
  have q195 : elm (S180 7) 9 = v34.toInt := (elm_of c184 9).trans (congrArg Int32.toInt (((show cpF f1 10 4 0 10 9 = f1 49 from rfl).trans (ee35))))
  have q196 : elm (S 7) 10 = v40.toInt := (elm_of c2 10).trans (congrArg Int32.toInt (ee41))
  have q197 : elm (S180 7) 10 = v40.toInt := (elm_of c184 10).trans (congrArg Int32.toInt (((show cpF f1 10 4 0 10 10 = f1 10 from rfl).trans (ee41))))
  have q198 : elm (S 7) 11 = v43.toInt := (elm_of c2 11).trans (congrArg Int32.toInt (ee44))
  have q199 : elm (S180 7) 11 = v43.toInt := (elm_of c184 11).trans (congrArg Int32.toInt (((show cpF f1 10 4 0 10 11 = f1 11 from rfl).trans (ee44))))
  have q200 : elm (S 7) 13 = v46.toInt := (elm_of c2 13).trans (congrArg Int32.toInt (ee47))
  have q201 : elm (S180 7) 13 = v46.toInt := (elm_of c184 13).trans (congrArg Int32.toInt (((show cpF f1 10 4 0 10 13 = f1 13 from rfl).trans (ee47))))
  have q202 : elm (S 7) 16 = v49.toInt := (elm_of c2 16).trans (congrArg Int32.toInt (ee50))
  have q203 : elm (S180 7) 16 = v49.toInt := (elm_of c184 16).trans (congrArg Int32.toInt (((show cpF f1 10 4 0 10 16 = f1 16 from rfl).trans (ee50))))
  have q204 : elm (S 7) 18 = v52.toInt := (elm_of c2 18).trans (congrArg Int32.toInt (ee53))
  have q205 : elm (S180 7) 18 = v52.toInt := (elm_of c184 18).trans (congrArg Int32.toInt (((show cpF f1 10 4 0 10 18 = f1 18 from rfl).trans (ee53))))
  have q206 : elm (S 7) 19 = v55.toInt := (elm_of c2 19).trans (congrArg Int32.toInt (ee56))
  have q207 : elm (S180 7) 19 = v55.toInt := (elm_of c184 19).trans (congrArg Int32.toInt (((show cpF f1 10 4 0 10 19 = f1 19 from rfl).trans (ee56))))
  have q208 : elm (S 7) 20 = v58.toInt := (elm_of c2 20).trans (congrArg Int32.toInt (ee59))
  have q209 : elm (S180 7) 20 = v58.toInt := (elm_of c184 20).trans (congrArg Int32.toInt (((show cpF f1 10 4 0 10 20 = f1 20 from rfl).trans (ee59))))
  have q210 : elm (S 7) 21 = v61.toInt := (elm_of c2 21).trans (congrArg Int32.toInt (ee62))
  have q211 : elm (S180 7) 21 = v61.toInt := (elm_of c184 21).trans (congrArg Int32.toInt (((show cpF f1 10 4 0 10 21 = f1 21 from rfl).trans (ee62))))
  have q212 : elm (S 7) 23 = v64.toInt := (elm_of c2 23).trans (congrArg Int32.toInt (ee65))
  have q213 : elm (S180 7) 23 = v64.toInt := (elm_of c184 23).trans (congrArg Int32.toInt (((show cpF f1 10 4 0 10 23 = f1 23 from rfl).trans (ee65))))
  have q214 : elm (S 7) 26 = v67.toInt := (elm_of c2 26).trans (congrArg Int32.toInt (ee68))
  have q215 : elm (S180 7) 26 = v67.toInt := (elm_of c184 26).trans (congrArg Int32.toInt (((show cpF f1 10 4 0 10 26 = f1 26 from rfl).trans (ee68))))
  have q216 : elm (S 7) 28 = v70.toInt := (elm_of c2 28).trans (congrArg Int32.toInt (ee71))
  have q217 : elm (S180 7) 28 = v70.toInt := (elm_of c184 28).trans (congrArg Int32.toInt (((show cpF f1 10 4 0 10 28 = f1 28 from rfl).trans (ee71))))
  have q218 : elm (S 7) 29 = v73.toInt := (elm_of c2 29).trans (congrArg Int32.toInt (ee74))
  have q219 : elm (S180 7) 29 = v73.toInt := (elm_of c184 29).trans (congrArg Int32.toInt (((show cpF f1 10 4 0 10 29 = f1 29 from rfl).trans (ee74))))
  have q220 : elm (S 7) 30 = v76.toInt := (elm_of c2 30).trans (congrArg Int32.toInt (ee77))
  have q221 : elm (S180 7) 30 = v76.toInt := (elm_of c184 30).trans (congrArg Int32.toInt (((show cpF f1 10 4 0 10 30 = f1 30 from rfl).trans (ee77))))
  have q222 : elm (S 7) 31 = v79.toInt := (elm_of c2 31).trans (congrArg Int32.toInt (ee80))
  have q223 : elm (S180 7) 31 = v79.toInt := (elm_of c184 31).trans (congrArg Int32.toInt (((show cpF f1 10 4 0 10 31 = f1 31 from rfl).trans (ee80))))
  have q224 : elm (S 7) 33 = v82.toInt := (elm_of c2 33).trans (congrArg Int32.toInt (ee83))
  have q225 : elm (S180 7) 33 = v82.toInt := (elm_of c184 33).trans (congrArg Int32.toInt (((show cpF f1 10 4 0 10 33 = f1 33 from rfl).trans (ee83))))
  have q226 : elm (S 7) 36 = v85.toInt := (elm_of c2 36).trans (congrArg Int32.toInt (ee86))
  have q227 : elm (S180 7) 36 = v85.toInt := (elm_of c184 36).trans (congrArg Int32.toInt (((show cpF f1 10 4 0 10 36 = f1 36 from rfl).trans (ee86))))
  have q228 : elm (S 7) 38 = v88.toInt := (elm_of c2 38).trans (congrArg Int32.toInt (ee89))
  have q229 : elm (S180 7) 38 = v88.toInt := (elm_of c184 38).trans (congrArg Int32.toInt (((show cpF f1 10 4 0 10 38 = f1 38 from rfl).trans (ee89))))
  have q230 : elm (S 7) 39 = v91.toInt := (elm_of c2 39).trans (congrArg Int32.toInt (ee92))
  have q231 : elm (S180 7) 39 = v91.toInt := (elm_of c184 39).trans (congrArg Int32.toInt (((show cpF f1 10 4 0 10 39 = f1 39 from rfl).trans (ee92))))
  have q232 : elm (S 6) 4 = v97.toInt := (elm_of c95 4).trans (congrArg Int32.toInt (ee98))
  have c233 : S180 6 = .inl (g.2 0, 5, .inl (cpF f94 1 4 0 1)) := (up_ne eS180 (by decide) (up_ne eS175 (by decide) (up_ne eS169 (by decide) (up_ne eS162 (by decide) (up_ne eS156 (by decide) (up_ne eS149 (by decide) c145))))))
  have q234 : elm (S180 6) 0 = v97.toInt := (elm_of c233 0).trans (congrArg Int32.toInt (((show cpF f94 1 4 0 1 0 = f94 4 from rfl).trans (ee98))))
  have q235 : elm (S 6) 1 = v103.toInt := (elm_of c95 1).trans (congrArg Int32.toInt (ee104))
  have q236 : elm (S180 6) 1 = v103.toInt := (elm_of c233 1).trans (congrArg Int32.toInt (((show cpF f94 1 4 0 1 1 = f94 1 from rfl).trans (ee104))))
  have q237 : elm (S 6) 2 = v106.toInt := (elm_of c95 2).trans (congrArg Int32.toInt (ee107))
  have q238 : elm (S180 6) 2 = v106.toInt := (elm_of c233 2).trans (congrArg Int32.toInt (((show cpF f94 1 4 0 1 2 = f94 2 from rfl).trans (ee107))))
  have q239 : elm (S 6) 3 = v109.toInt := (elm_of c95 3).trans (congrArg Int32.toInt (ee110))
  have q240 : elm (S180 6) 3 = v109.toInt := (elm_of c233 3).trans (congrArg Int32.toInt (((show cpF f94 1 4 0 1 3 = f94 3 from rfl).trans (ee110))))
  exact xrv E hr hlk hQ (⟨hI, (up_o (up_o (up_o (up_o (up_o (up_o (up_o o_refl eS144 (by decide)) eS149 (by decide)) eS156 (by decide)) eS162 (by decide)) eS169 (by decide)) eS175 (by decide)) eS180 (by decide)), ⟨by omega, by omega⟩, ⟨by omega, by omega⟩, ⟨by omega, by omega⟩, ⟨by omega, by omega⟩, ⟨by omega, by omega⟩, ⟨by omega, by omega⟩, ⟨by omega, by omega⟩, ⟨by omega, by omega⟩, ⟨by omega, by omega⟩, ⟨by omega, by omega⟩, ⟨by omega, by omega⟩, ⟨by omega, by omega⟩, ⟨by omega, by omega⟩, ⟨by omega, by omega⟩, ⟨by omega, by omega⟩, ⟨by omega, by omega⟩, ⟨by omega, by omega⟩, ⟨by omega, by omega⟩, ⟨by omega, by omega⟩, ⟨by omega, by omega⟩, ⟨by omega, by omega⟩, ⟨by omega, by omega⟩, ⟨by omega, by omega⟩, ⟨by omega, by omega⟩, ⟨by omega, by omega⟩, ⟨by omega, by omega⟩, ⟨by omega, by omega⟩, ⟨by omega, by omega⟩, (at_cpb c2 c113 c184 c181 b3.2.2.2.2.2.2.2 hAT4), (at_cpo c2 c113 c184 c181 b3.2.2.2.2.2.2.2 (by decide) hAT1), (at_cpo c2 c113 c184 c181 b3.2.2.2.2.2.2.2 (by decide) hAT2), (at_cpo c2 c113 c184 c181 b3.2.2.2.2.2.2.2 (by decide) hAT3)⟩) dX12_copyShore_76
set_option maxHeartbeats 4000000 in
set_option maxRecDepth 100000 in
theorem gX12_copyShore_0_1 (l : Launch) (g : GG) (ad : Nat → Nat) (hD : Dj ad 20) (S : SS) (hI : InvM g ad S) (hAT0 : ATp (S 7) (S 12) 0) (hAT1 : ATp (S 7) (S 12) 1) (hAT2 : ATp (S 7) (S 12) 2) (hAT3 : ATp (S 7) (S 12) 3) : Met l yX12_copyShore (wG (.code yX12_copyShore cX12_copyShore 3 none)) (Rm 1) (XPre g ad 20 S [.ref (ad 0), .int 0, .int 1]) (va_Qv (fun S' => InvM g ad S' ∧ (∀ j, j ∉ ([6, 7, 8, 9, 10, 11, 12] : List Nat) → S' j = S j) ∧ (0 ≤ elm (S 7) 0 + (-1) * elm (S' 7) 10 ∧ 0 ≤ elm (S' 7) 10 + (-1) * elm (S 7) 0) ∧ (0 ≤ elm (S 7) 1 + (-1) * elm (S' 7) 11 ∧ 0 ≤ elm (S' 7) 11 + (-1) * elm (S 7) 1) ∧ (0 ≤ elm (S 7) 3 + (-1) * elm (S' 7) 13 ∧ 0 ≤ elm (S' 7) 13 + (-1) * elm (S 7) 3) ∧ (0 ≤ elm (S 7) 6 + (-1) * elm (S' 7) 16 ∧ 0 ≤ elm (S' 7) 16 + (-1) * elm (S 7) 6) ∧ (0 ≤ elm (S 7) 8 + (-1) * elm (S' 7) 18 ∧ 0 ≤ elm (S' 7) 18 + (-1) * elm (S 7) 8) ∧ (0 ≤ elm (S 7) 9 + (-1) * elm (S' 7) 19 ∧ 0 ≤ elm (S' 7) 19 + (-1) * elm (S 7) 9) ∧ (0 ≤ elm (S 7) 0 + (-1) * elm (S' 7) 0 ∧ 0 ≤ elm (S' 7) 0 + (-1) * elm (S 7) 0) ∧ (0 ≤ elm (S 7) 1 + (-1) * elm (S' 7) 1 ∧ 0 ≤ elm (S' 7) 1 + (-1) * elm (S 7) 1) ∧ (0 ≤ elm (S 7) 3 + (-1) * elm (S' 7) 3 ∧ 0 ≤ elm (S' 7) 3 + (-1) * elm (S 7) 3) ∧ (0 ≤ elm (S 7) 6 + (-1) * elm (S' 7) 6 ∧ 0 ≤ elm (S' 7) 6 + (-1) * elm (S 7) 6) ∧ (0 ≤ elm (S 7) 8 + (-1) * elm (S' 7) 8 ∧ 0 ≤ elm (S' 7) 8 + (-1) * elm (S 7) 8) ∧ (0 ≤ elm (S 7) 9 + (-1) * elm (S' 7) 9 ∧ 0 ≤ elm (S' 7) 9 + (-1) * elm (S 7) 9) ∧ (0 ≤ elm (S 7) 20 + (-1) * elm (S' 7) 20 ∧ 0 ≤ elm (S' 7) 20 + (-1) * elm (S 7) 20) ∧ (0 ≤ elm (S 7) 21 + (-1) * elm (S' 7) 21 ∧ 0 ≤ elm (S' 7) 21 + (-1) * elm (S 7) 21) ∧ (0 ≤ elm (S 7) 23 + (-1) * elm (S' 7) 23 ∧ 0 ≤ elm (S' 7) 23 + (-1) * elm (S 7) 23) ∧ (0 ≤ elm (S 7) 26 + (-1) * elm (S' 7) 26 ∧ 0 ≤ elm (S' 7) 26 + (-1) * elm (S 7) 26) ∧ (0 ≤ elm (S 7) 28 + (-1) * elm (S' 7) 28 ∧ 0 ≤ elm (S' 7) 28 + (-1) * elm (S 7) 28) ∧ (0 ≤ elm (S 7) 29 + (-1) * elm (S' 7) 29 ∧ 0 ≤ elm (S' 7) 29 + (-1) * elm (S 7) 29) ∧ (0 ≤ elm (S 7) 30 + (-1) * elm (S' 7) 30 ∧ 0 ≤ elm (S' 7) 30 + (-1) * elm (S 7) 30) ∧ (0 ≤ elm (S 7) 31 + (-1) * elm (S' 7) 31 ∧ 0 ≤ elm (S' 7) 31 + (-1) * elm (S 7) 31) ∧ (0 ≤ elm (S 7) 33 + (-1) * elm (S' 7) 33 ∧ 0 ≤ elm (S' 7) 33 + (-1) * elm (S 7) 33) ∧ (0 ≤ elm (S 7) 36 + (-1) * elm (S' 7) 36 ∧ 0 ≤ elm (S' 7) 36 + (-1) * elm (S 7) 36) ∧ (0 ≤ elm (S 7) 38 + (-1) * elm (S' 7) 38 ∧ 0 ≤ elm (S' 7) 38 + (-1) * elm (S 7) 38) ∧ (0 ≤ elm (S 7) 39 + (-1) * elm (S' 7) 39 ∧ 0 ≤ elm (S' 7) 39 + (-1) * elm (S 7) 39) ∧ (0 ≤ elm (S 6) 0 + (-1) * elm (S' 6) 1 ∧ 0 ≤ elm (S' 6) 1 + (-1) * elm (S 6) 0) ∧ (0 ≤ elm (S 6) 0 + (-1) * elm (S' 6) 0 ∧ 0 ≤ elm (S' 6) 0 + (-1) * elm (S 6) 0) ∧ (0 ≤ elm (S 6) 2 + (-1) * elm (S' 6) 2 ∧ 0 ≤ elm (S' 6) 2 + (-1) * elm (S 6) 2) ∧ (0 ≤ elm (S 6) 3 + (-1) * elm (S' 6) 3 ∧ 0 ≤ elm (S' 6) 3 + (-1) * elm (S 6) 3) ∧ (ATp (S' 7) (S' 12) 0) ∧ (ATp (S' 7) (S' 12) 1) ∧ (ATp (S' 7) (S' 12) 2) ∧ (ATp (S' 7) (S' 12) 3)) (QB g ad 20) (FA ad 20)) 0 0 (FA ad 20) := by
  refine xmet cX12_copyShore "EbbWreckModel" (by decide) rfl (Nat.le_of_ble_eq_true rfl) (fun p e s m below meth c E hr hlk hml hQ ls hl => ?_)
  have hx := E.1
  have hb := E.2.1
  have hs : Sp ad 20 (FA ad 20) := Sp.fa hD
  have hl : lv_has ls 3 [(0, .ref (ad 0)), (1, .int 0), (2, .int 1)] := hl
  obtain ⟨f1, c2, b3⟩ := invM_7 hI
  obtain ⟨v4, ee5⟩ : ∃ z : Int32, f1 0 = z := ⟨_, rfl⟩
  have b6 : Bd v4 (0) (12) := (by rw [← ee5]; exact b3.1 0 (by decide))
  obtain ⟨v7, ee8⟩ : ∃ z : Int32, f1 10 = z := ⟨_, rfl⟩
  have b9 : Bd v7 (0) (12) := (by rw [← ee8]; exact b3.1 10 (by decide))
  obtain ⟨v10, ee11⟩ : ∃ z : Int32, f1 1 = z := ⟨_, rfl⟩
  have b12 : Bd v10 (0) (12) := (by rw [← ee11]; exact b3.2.1 1 (by decide))
  obtain ⟨v13, ee14⟩ : ∃ z : Int32, f1 11 = z := ⟨_, rfl⟩
  have b15 : Bd v13 (0) (12) := (by rw [← ee14]; exact b3.2.1 11 (by decide))
  obtain ⟨v16, ee17⟩ : ∃ z : Int32, f1 3 = z := ⟨_, rfl⟩
  have b18 : Bd v16 (0) (12) := (by rw [← ee17]; exact b3.2.2.2.1 3 (by decide))
  obtain ⟨v19, ee20⟩ : ∃ z : Int32, f1 13 = z := ⟨_, rfl⟩
  have b21 : Bd v19 (0) (12) := (by rw [← ee20]; exact b3.2.2.2.1 13 (by decide))
  obtain ⟨v22, ee23⟩ : ∃ z : Int32, f1 6 = z := ⟨_, rfl⟩
  have b24 : Bd v22 (0) (8) := (by rw [← ee23]; exact b3.2.2.2.2.1 6 (by decide))
  obtain ⟨v25, ee26⟩ : ∃ z : Int32, f1 16 = z := ⟨_, rfl⟩
  have b27 : Bd v25 (0) (8) := (by rw [← ee26]; exact b3.2.2.2.2.1 16 (by decide))
  obtain ⟨v28, ee29⟩ : ∃ z : Int32, f1 8 = z := ⟨_, rfl⟩
  have b30 : Bd v28 (0) (3) := (by rw [← ee29]; exact b3.2.2.2.2.2.2.1 8 (by decide))
  obtain ⟨v31, ee32⟩ : ∃ z : Int32, f1 18 = z := ⟨_, rfl⟩
  have b33 : Bd v31 (0) (3) := (by rw [← ee32]; exact b3.2.2.2.2.2.2.1 18 (by decide))
  obtain ⟨v34, ee35⟩ : ∃ z : Int32, f1 9 = z := ⟨_, rfl⟩
  have b36 : Bd v34 (0) (40) := (by rw [← ee35]; exact b3.2.2.2.2.2.2.2 9 (by decide))
  obtain ⟨v37, ee38⟩ : ∃ z : Int32, f1 19 = z := ⟨_, rfl⟩
  have b39 : Bd v37 (0) (40) := (by rw [← ee38]; exact b3.2.2.2.2.2.2.2 19 (by decide))
  obtain ⟨v40, ee41⟩ : ∃ z : Int32, f1 20 = z := ⟨_, rfl⟩
  have b42 : Bd v40 (0) (12) := (by rw [← ee41]; exact b3.1 20 (by decide))
  obtain ⟨v43, ee44⟩ : ∃ z : Int32, f1 21 = z := ⟨_, rfl⟩
  have b45 : Bd v43 (0) (12) := (by rw [← ee44]; exact b3.2.1 21 (by decide))
  obtain ⟨v46, ee47⟩ : ∃ z : Int32, f1 23 = z := ⟨_, rfl⟩
  have b48 : Bd v46 (0) (12) := (by rw [← ee47]; exact b3.2.2.2.1 23 (by decide))
  obtain ⟨v49, ee50⟩ : ∃ z : Int32, f1 26 = z := ⟨_, rfl⟩
  have b51 : Bd v49 (0) (8) := (by rw [← ee50]; exact b3.2.2.2.2.1 26 (by decide))
  obtain ⟨v52, ee53⟩ : ∃ z : Int32, f1 28 = z := ⟨_, rfl⟩
  have b54 : Bd v52 (0) (3) := (by rw [← ee53]; exact b3.2.2.2.2.2.2.1 28 (by decide))
  obtain ⟨v55, ee56⟩ : ∃ z : Int32, f1 29 = z := ⟨_, rfl⟩
  have b57 : Bd v55 (0) (40) := (by rw [← ee56]; exact b3.2.2.2.2.2.2.2 29 (by decide))
  obtain ⟨v58, ee59⟩ : ∃ z : Int32, f1 30 = z := ⟨_, rfl⟩
  have b60 : Bd v58 (0) (12) := (by rw [← ee59]; exact b3.1 30 (by decide))
  obtain ⟨v61, ee62⟩ : ∃ z : Int32, f1 31 = z := ⟨_, rfl⟩
  have b63 : Bd v61 (0) (12) := (by rw [← ee62]; exact b3.2.1 31 (by decide))
  obtain ⟨v64, ee65⟩ : ∃ z : Int32, f1 33 = z := ⟨_, rfl⟩
  have b66 : Bd v64 (0) (12) := (by rw [← ee65]; exact b3.2.2.2.1 33 (by decide))
  obtain ⟨v67, ee68⟩ : ∃ z : Int32, f1 36 = z := ⟨_, rfl⟩
  have b69 : Bd v67 (0) (8) := (by rw [← ee68]; exact b3.2.2.2.2.1 36 (by decide))
  obtain ⟨v70, ee71⟩ : ∃ z : Int32, f1 38 = z := ⟨_, rfl⟩
  have b72 : Bd v70 (0) (3) := (by rw [← ee71]; exact b3.2.2.2.2.2.2.1 38 (by decide))
  obtain ⟨v73, ee74⟩ : ∃ z : Int32, f1 39 = z := ⟨_, rfl⟩
  have b75 : Bd v73 (0) (40) := (by rw [← ee74]; exact b3.2.2.2.2.2.2.2 39 (by decide))
  obtain ⟨f76, c77, b78⟩ := invM_6 hI
  obtain ⟨v79, ee80⟩ : ∃ z : Int32, f76 0 = z := ⟨_, rfl⟩
  have b81 : Bd v79 (0) (40000) := (by rw [← ee80]; exact b78 0)
  obtain ⟨v82, ee83⟩ : ∃ z : Int32, f76 1 = z := ⟨_, rfl⟩
  have b84 : Bd v82 (0) (40000) := (by rw [← ee83]; exact b78 1)
  obtain ⟨v85, ee86⟩ : ∃ z : Int32, f76 2 = z := ⟨_, rfl⟩
  have b87 : Bd v85 (0) (40000) := (by rw [← ee86]; exact b78 2)
  obtain ⟨v88, ee89⟩ : ∃ z : Int32, f76 3 = z := ⟨_, rfl⟩
  have b90 : Bd v88 (0) (40000) := (by rw [← ee89]; exact b78 3)
  obtain ⟨f91, c92, b93⟩ := invM_12 hI
  refine lv_aload_n hx hb dX12_copyShore_0 rfl (lv_at hl 0 rfl) ?_
  obtain ⟨v94, v95, v97, v99, v101, v102, w103, v104, v106, v107, v108, v109, v111, v113, v115, v117, v119, v120, v121, c122, b96, b98, b100, b105, b110, b112, b114, b116, b118⟩ := invM_0 hI
  have c122 : S 0 = .inr (12, [.int v94, .ref (ad 1), .ref (ad 2), .ref (ad 3), .ref (ad 4), .ref (ad 5), .int v95, .int v97, .int v99, .int v101, .int v102, .long w103, .int v104, .int v106, .int v107, .int v108, .ref (ad 6), .ref (ad 7), .ref (ad 8), .ref (ad 9), .ref (ad 10), .ref (ad 11), .ref (ad 12), .ref (ad 13), .ref (ad 14), .ref (ad 15), .int v109, .int v111, .ref (ad 16), .int v113, .int v115, .int v117, .int v119, .int v120, .ref (ad 17), .ref (ad 18), .int v121, .ref (ad 19)]) := c122
  refine xget E hQ 0 (by decide) c122 rfl 16 (by decide) q1484 rfl dX12_copyShore_1 ?_
  refine lv_iconst (v := 1) hx hb dX12_copyShore_4 (by decide) ?_
  refine lv_iload_n hx hb dX12_copyShore_5 rfl (lv_at hl 1 rfl) ?_
  refine lv_iload_n hx hb dX12_copyShore_6 rfl (lv_at hl 2 rfl) ?_
  refine xcSv E hs hQ hml hl.1 (uCopyRow l g ad 20 hD S 6 (by decide) 5 (by decide) f76 1 0 1 (by decide) (by decide) (by decide) c77) mX12_copyRow q1743 rfl ⟨(Nat.le_of_ble_eq_true rfl), (Nat.le_of_ble_eq_true rfl)⟩ ⟨(Nat.le_of_ble_eq_true rfl), (Nat.le_of_ble_eq_true rfl)⟩ (Nat.le_of_ble_eq_true rfl) rfl dX12_copyShore_7 (fun S123 H locs eS123 hQ => ?_)
  have hI := invM_up_6 hI eS123 ⟨_, rfl, cp_b b78⟩
  have b125 : ∀ j, Bd ((cpF f76 1 0 1 1) j) (0) (40000) := cp_b b78
  have c124 : S123 6 = .inl (g.2 0, 5, .inl (cpF f76 1 0 1 1)) := up_at eS123 rfl
  refine lv_aload_n hx hb dX12_copyShore_10 rfl (lv_at hl 0 rfl) ?_
  have c126 : S123 0 = .inr (12, [.int v94, .ref (ad 1), .ref (ad 2), .ref (ad 3), .ref (ad 4), .ref (ad 5), .int v95, .int v97, .int v99, .int v101, .int v102, .long w103, .int v104, .int v106, .int v107, .int v108, .ref (ad 6), .ref (ad 7), .ref (ad 8), .ref (ad 9), .ref (ad 10), .ref (ad 11), .ref (ad 12), .ref (ad 13), .ref (ad 14), .ref (ad 15), .int v109, .int v111, .ref (ad 16), .int v113, .int v115, .int v117, .int v119, .int v120, .ref (ad 17), .ref (ad 18), .int v121, .ref (ad 19)]) := (up_ne eS123 (by decide) c122)
  refine xget E hQ 0 (by decide) c126 rfl 17 (by decide) q1485 rfl dX12_copyShore_11 ?_
  refine lv_bipush (v := 10) hx hb dX12_copyShore_14 (by decide) ?_
  refine lv_iload_n hx hb dX12_copyShore_16 rfl (lv_at hl 1 rfl) ?_
  refine lv_iload_n hx hb dX12_copyShore_17 rfl (lv_at hl 2 rfl) ?_
  have c127 : S123 7 = .inl (g.2 0, 50, .inl f1) := (up_ne eS123 (by decide) c2)
  refine xcSv E hs hQ hml hl.1 (uCopyRow l g ad 20 hD S123 7 (by decide) 50 (by decide) f1 10 0 1 (by decide) (by decide) (by decide) c127) mX12_copyRow q1743 rfl ⟨(Nat.le_of_ble_eq_true rfl), (Nat.le_of_ble_eq_true rfl)⟩ ⟨(Nat.le_of_ble_eq_true rfl), (Nat.le_of_ble_eq_true rfl)⟩ (Nat.le_of_ble_eq_true rfl) rfl dX12_copyShore_18 (fun S128 H locs eS128 hQ => ?_)
  have hI := invM_up_7 hI eS128 ⟨_, rfl, ⟨cp_m (q := 1) b3.1 (by decide), cp_m (q := 1) b3.2.1 (by decide), cp_m (q := 1) b3.2.2.1 (by decide), cp_m (q := 1) b3.2.2.2.1 (by decide), cp_m (q := 1) b3.2.2.2.2.1 (by decide), cp_m (q := 1) b3.2.2.2.2.2.1 (by decide), cp_m (q := 1) b3.2.2.2.2.2.2.1 (by decide), cp_m (q := 1) b3.2.2.2.2.2.2.2 (by decide)⟩⟩
  have b130 : (∀ j, j % 10 = 0 → Bd ((cpF f1 10 0 1 10) j) (0) (12)) ∧ (∀ j, j % 10 = 1 → Bd ((cpF f1 10 0 1 10) j) (0) (12)) ∧ (∀ j, j % 10 = 2 → Bd ((cpF f1 10 0 1 10) j) (0) (6)) ∧ (∀ j, j % 10 = 3 → Bd ((cpF f1 10 0 1 10) j) (0) (12)) ∧ (∀ j, j % 10 = 6 → Bd ((cpF f1 10 0 1 10) j) (0) (8)) ∧ (∀ j, j % 10 = 7 → Bd ((cpF f1 10 0 1 10) j) (0) (6)) ∧ (∀ j, j % 10 = 8 → Bd ((cpF f1 10 0 1 10) j) (0) (3)) ∧ (∀ j, j % 10 = 9 → Bd ((cpF f1 10 0 1 10) j) (0) (40)) := ⟨cp_m (q := 1) b3.1 (by decide), cp_m (q := 1) b3.2.1 (by decide), cp_m (q := 1) b3.2.2.1 (by decide), cp_m (q := 1) b3.2.2.2.1 (by decide), cp_m (q := 1) b3.2.2.2.2.1 (by decide), cp_m (q := 1) b3.2.2.2.2.2.1 (by decide), cp_m (q := 1) b3.2.2.2.2.2.2.1 (by decide), cp_m (q := 1) b3.2.2.2.2.2.2.2 (by decide)⟩
  have c129 : S128 7 = .inl (g.2 0, 50, .inl (cpF f1 10 0 1 10)) := up_at eS128 rfl
  refine lv_aload_n hx hb dX12_copyShore_21 rfl (lv_at hl 0 rfl) ?_
  have c131 : S128 0 = .inr (12, [.int v94, .ref (ad 1), .ref (ad 2), .ref (ad 3), .ref (ad 4), .ref (ad 5), .int v95, .int v97, .int v99, .int v101, .int v102, .long w103, .int v104, .int v106, .int v107, .int v108, .ref (ad 6), .ref (ad 7), .ref (ad 8), .ref (ad 9), .ref (ad 10), .ref (ad 11), .ref (ad 12), .ref (ad 13), .ref (ad 14), .ref (ad 15), .int v109, .int v111, .ref (ad 16), .int v113, .int v115, .int v117, .int v119, .int v120, .ref (ad 17), .ref (ad 18), .int v121, .ref (ad 19)]) := (up_ne eS128 (by decide) c126)
  refine xget E hQ 0 (by decide) c131 rfl 18 (by decide) q1486 rfl dX12_copyShore_22 ?_
  refine lv_bipush (v := 24) hx hb dX12_copyShore_25 (by decide) ?_
  refine lv_iload_n hx hb dX12_copyShore_27 rfl (lv_at hl 1 rfl) ?_
  refine lv_iload_n hx hb dX12_copyShore_28 rfl (lv_at hl 2 rfl) ?_
  obtain ⟨f132, c133⟩ := invM_8 hI
  refine xcSv E hs hQ hml hl.1 (uCopyRow l g ad 20 hD S128 8 (by decide) 120 (by decide) f132 24 0 1 (by decide) (by decide) (by decide) c133) mX12_copyRow q1743 rfl ⟨(Nat.le_of_ble_eq_true rfl), (Nat.le_of_ble_eq_true rfl)⟩ ⟨(Nat.le_of_ble_eq_true rfl), (Nat.le_of_ble_eq_true rfl)⟩ (Nat.le_of_ble_eq_true rfl) rfl dX12_copyShore_29 (fun S135 H locs eS135 hQ => ?_)
  have hI := invM_up_8 hI eS135 ⟨_, rfl⟩
  have c136 : S135 8 = .inl (g.2 0, 120, .inl (cpF f132 24 0 1 24)) := up_at eS135 rfl
  refine lv_aload_n hx hb dX12_copyShore_32 rfl (lv_at hl 0 rfl) ?_
  have c137 : S135 0 = .inr (12, [.int v94, .ref (ad 1), .ref (ad 2), .ref (ad 3), .ref (ad 4), .ref (ad 5), .int v95, .int v97, .int v99, .int v101, .int v102, .long w103, .int v104, .int v106, .int v107, .int v108, .ref (ad 6), .ref (ad 7), .ref (ad 8), .ref (ad 9), .ref (ad 10), .ref (ad 11), .ref (ad 12), .ref (ad 13), .ref (ad 14), .ref (ad 15), .int v109, .int v111, .ref (ad 16), .int v113, .int v115, .int v117, .int v119, .int v120, .ref (ad 17), .ref (ad 18), .int v121, .ref (ad 19)]) := (up_ne eS135 (by decide) c131)
  refine xget E hQ 0 (by decide) c137 rfl 19 (by decide) q1487 rfl dX12_copyShore_33 ?_
  refine lv_bipush (v := 24) hx hb dX12_copyShore_36 (by decide) ?_
  refine lv_iload_n hx hb dX12_copyShore_38 rfl (lv_at hl 1 rfl) ?_
  refine lv_iload_n hx hb dX12_copyShore_39 rfl (lv_at hl 2 rfl) ?_
  obtain ⟨f138, c139, b140⟩ := invM_9 hI
  refine xcSv E hs hQ hml hl.1 (uCopyRow l g ad 20 hD S135 9 (by decide) 120 (by decide) f138 24 0 1 (by decide) (by decide) (by decide) c139) mX12_copyRow q1743 rfl ⟨(Nat.le_of_ble_eq_true rfl), (Nat.le_of_ble_eq_true rfl)⟩ ⟨(Nat.le_of_ble_eq_true rfl), (Nat.le_of_ble_eq_true rfl)⟩ (Nat.le_of_ble_eq_true rfl) rfl dX12_copyShore_40 (fun S141 H locs eS141 hQ => ?_)
  have hI := invM_up_9 hI eS141 ⟨_, rfl, ⟨cp_m (q := 8) b140.1 (by decide), cp_m (q := 8) b140.2 (by decide)⟩⟩
  have b143 : (∀ j, j % 3 = 1 → Bd ((cpF f138 24 0 1 24) j) (0) (11)) ∧ (∀ j, j % 3 = 2 → Bd ((cpF f138 24 0 1 24) j) (0) (99)) := ⟨cp_m (q := 8) b140.1 (by decide), cp_m (q := 8) b140.2 (by decide)⟩
  have c142 : S141 9 = .inl (g.2 0, 120, .inl (cpF f138 24 0 1 24)) := up_at eS141 rfl
  refine lv_aload_n hx hb dX12_copyShore_43 rfl (lv_at hl 0 rfl) ?_
  have c144 : S141 0 = .inr (12, [.int v94, .ref (ad 1), .ref (ad 2), .ref (ad 3), .ref (ad 4), .ref (ad 5), .int v95, .int v97, .int v99, .int v101, .int v102, .long w103, .int v104, .int v106, .int v107, .int v108, .ref (ad 6), .ref (ad 7), .ref (ad 8), .ref (ad 9), .ref (ad 10), .ref (ad 11), .ref (ad 12), .ref (ad 13), .ref (ad 14), .ref (ad 15), .int v109, .int v111, .ref (ad 16), .int v113, .int v115, .int v117, .int v119, .int v120, .ref (ad 17), .ref (ad 18), .int v121, .ref (ad 19)]) := (up_ne eS141 (by decide) c137)
  refine xget E hQ 0 (by decide) c144 rfl 20 (by decide) q1488 rfl dX12_copyShore_44 ?_
  refine lv_bipush (v := 24) hx hb dX12_copyShore_47 (by decide) ?_
  refine lv_iload_n hx hb dX12_copyShore_49 rfl (lv_at hl 1 rfl) ?_
  refine lv_iload_n hx hb dX12_copyShore_50 rfl (lv_at hl 2 rfl) ?_
  obtain ⟨f145, c146⟩ := invM_10 hI
  refine xcSv E hs hQ hml hl.1 (uCopyRow l g ad 20 hD S141 10 (by decide) 120 (by decide) f145 24 0 1 (by decide) (by decide) (by decide) c146) mX12_copyRow q1743 rfl ⟨(Nat.le_of_ble_eq_true rfl), (Nat.le_of_ble_eq_true rfl)⟩ ⟨(Nat.le_of_ble_eq_true rfl), (Nat.le_of_ble_eq_true rfl)⟩ (Nat.le_of_ble_eq_true rfl) rfl dX12_copyShore_51 (fun S148 H locs eS148 hQ => ?_)
  have hI := invM_up_10 hI eS148 ⟨_, rfl⟩
  have c149 : S148 10 = .inl (g.2 0, 120, .inl (cpF f145 24 0 1 24)) := up_at eS148 rfl
  refine lv_aload_n hx hb dX12_copyShore_54 rfl (lv_at hl 0 rfl) ?_
  have c150 : S148 0 = .inr (12, [.int v94, .ref (ad 1), .ref (ad 2), .ref (ad 3), .ref (ad 4), .ref (ad 5), .int v95, .int v97, .int v99, .int v101, .int v102, .long w103, .int v104, .int v106, .int v107, .int v108, .ref (ad 6), .ref (ad 7), .ref (ad 8), .ref (ad 9), .ref (ad 10), .ref (ad 11), .ref (ad 12), .ref (ad 13), .ref (ad 14), .ref (ad 15), .int v109, .int v111, .ref (ad 16), .int v113, .int v115, .int v117, .int v119, .int v120, .ref (ad 17), .ref (ad 18), .int v121, .ref (ad 19)]) := (up_ne eS148 (by decide) c144)
  refine xget E hQ 0 (by decide) c150 rfl 21 (by decide) q1489 rfl dX12_copyShore_55 ?_
  refine lv_iconst (v := 3) hx hb dX12_copyShore_58 (by decide) ?_
  refine lv_iload_n hx hb dX12_copyShore_59 rfl (lv_at hl 1 rfl) ?_
  refine lv_iload_n hx hb dX12_copyShore_60 rfl (lv_at hl 2 rfl) ?_
  obtain ⟨f151, c152, b153⟩ := invM_11 hI
  refine xcSv E hs hQ hml hl.1 (uCopyRow l g ad 20 hD S148 11 (by decide) 15 (by decide) f151 3 0 1 (by decide) (by decide) (by decide) c152) mX12_copyRow q1743 rfl ⟨(Nat.le_of_ble_eq_true rfl), (Nat.le_of_ble_eq_true rfl)⟩ ⟨(Nat.le_of_ble_eq_true rfl), (Nat.le_of_ble_eq_true rfl)⟩ (Nat.le_of_ble_eq_true rfl) rfl dX12_copyShore_61 (fun S154 H locs eS154 hQ => ?_)
  have hI := invM_up_11 hI eS154 ⟨_, rfl, cp_b b153⟩
  have b156 : ∀ j, Bd ((cpF f151 3 0 1 3) j) (0) (11) := cp_b b153
  have c155 : S154 11 = .inl (g.2 0, 15, .inl (cpF f151 3 0 1 3)) := up_at eS154 rfl
  refine lv_aload_n hx hb dX12_copyShore_64 rfl (lv_at hl 0 rfl) ?_
  have c157 : S154 0 = .inr (12, [.int v94, .ref (ad 1), .ref (ad 2), .ref (ad 3), .ref (ad 4), .ref (ad 5), .int v95, .int v97, .int v99, .int v101, .int v102, .long w103, .int v104, .int v106, .int v107, .int v108, .ref (ad 6), .ref (ad 7), .ref (ad 8), .ref (ad 9), .ref (ad 10), .ref (ad 11), .ref (ad 12), .ref (ad 13), .ref (ad 14), .ref (ad 15), .int v109, .int v111, .ref (ad 16), .int v113, .int v115, .int v117, .int v119, .int v120, .ref (ad 17), .ref (ad 18), .int v121, .ref (ad 19)]) := (up_ne eS154 (by decide) c150)
  refine xget E hQ 0 (by decide) c157 rfl 22 (by decide) q1490 rfl dX12_copyShore_65 ?_
  refine lv_sipush (v := 160) hx hb dX12_copyShore_68 (by decide) ?_
  refine lv_iload_n hx hb dX12_copyShore_71 rfl (lv_at hl 1 rfl) ?_
  refine lv_iload_n hx hb dX12_copyShore_72 rfl (lv_at hl 2 rfl) ?_
  have c158 : S154 12 = .inl (g.2 0, 800, .inl f91) := (up_ne eS154 (by decide) (up_ne eS148 (by decide) (up_ne eS141 (by decide) (up_ne eS135 (by decide) (up_ne eS128 (by decide) (up_ne eS123 (by decide) c92))))))
  refine xcSv E hs hQ hml hl.1 (uCopyRow l g ad 20 hD S154 12 (by decide) 800 (by decide) f91 160 0 1 (by decide) (by decide) (by decide) c158) mX12_copyRow q1743 rfl ⟨(Nat.le_of_ble_eq_true rfl), (Nat.le_of_ble_eq_true rfl)⟩ ⟨(Nat.le_of_ble_eq_true rfl), (Nat.le_of_ble_eq_true rfl)⟩ (Nat.le_of_ble_eq_true rfl) rfl dX12_copyShore_73 (fun S159 H locs eS159 hQ => ?_)
  have hI := invM_up_12 hI eS159 ⟨_, rfl, ⟨cp_m (q := 40) b93.1 (by decide), cp_m (q := 40) b93.2 (by decide)⟩⟩
  have b161 : (∀ j, j % 4 = 1 → Bd ((cpF f91 160 0 1 160) j) (0) (7)) ∧ (∀ j, j % 4 = 2 → Bd ((cpF f91 160 0 1 160) j) (0) (400)) := ⟨cp_m (q := 40) b93.1 (by decide), cp_m (q := 40) b93.2 (by decide)⟩
  have c160 : S159 12 = .inl (g.2 0, 800, .inl (cpF f91 160 0 1 160)) := up_at eS159 rfl
  have q162 : elm (S 7) 0 = v4.toInt := (elm_of c2 0).trans (congrArg Int32.toInt (ee5))
  have c163 : S159 7 = .inl (g.2 0, 50, .inl (cpF f1 10 0 1 10)) := (up_ne eS159 (by decide) (up_ne eS154 (by decide) (up_ne eS148 (by decide) (up_ne eS141 (by decide) (up_ne eS135 (by decide) c129)))))
  have q164 : elm (S159 7) 10 = v4.toInt := (elm_of c163 10).trans (congrArg Int32.toInt (((show cpF f1 10 0 1 10 10 = f1 0 from rfl).trans (ee5))))
  have q165 : elm (S 7) 1 = v10.toInt := (elm_of c2 1).trans (congrArg Int32.toInt (ee11))
  have q166 : elm (S159 7) 11 = v10.toInt := (elm_of c163 11).trans (congrArg Int32.toInt (((show cpF f1 10 0 1 10 11 = f1 1 from rfl).trans (ee11))))
  have q167 : elm (S 7) 3 = v16.toInt := (elm_of c2 3).trans (congrArg Int32.toInt (ee17))
  have q168 : elm (S159 7) 13 = v16.toInt := (elm_of c163 13).trans (congrArg Int32.toInt (((show cpF f1 10 0 1 10 13 = f1 3 from rfl).trans (ee17))))
  have q169 : elm (S 7) 6 = v22.toInt := (elm_of c2 6).trans (congrArg Int32.toInt (ee23))
  have q170 : elm (S159 7) 16 = v22.toInt := (elm_of c163 16).trans (congrArg Int32.toInt (((show cpF f1 10 0 1 10 16 = f1 6 from rfl).trans (ee23))))
  have q171 : elm (S 7) 8 = v28.toInt := (elm_of c2 8).trans (congrArg Int32.toInt (ee29))
  have q172 : elm (S159 7) 18 = v28.toInt := (elm_of c163 18).trans (congrArg Int32.toInt (((show cpF f1 10 0 1 10 18 = f1 8 from rfl).trans (ee29))))
  have q173 : elm (S 7) 9 = v34.toInt := (elm_of c2 9).trans (congrArg Int32.toInt (ee35))
  have q174 : elm (S159 7) 19 = v34.toInt := (elm_of c163 19).trans (congrArg Int32.toInt (((show cpF f1 10 0 1 10 19 = f1 9 from rfl).trans (ee35))))
  have q175 : elm (S159 7) 0 = v4.toInt := (elm_of c163 0).trans (congrArg Int32.toInt (((show cpF f1 10 0 1 10 0 = f1 0 from rfl).trans (ee5))))
  have q176 : elm (S159 7) 1 = v10.toInt := (elm_of c163 1).trans (congrArg Int32.toInt (((show cpF f1 10 0 1 10 1 = f1 1 from rfl).trans (ee11))))
  have q177 : elm (S159 7) 3 = v16.toInt := (elm_of c163 3).trans (congrArg Int32.toInt (((show cpF f1 10 0 1 10 3 = f1 3 from rfl).trans (ee17))))
  have q178 : elm (S159 7) 6 = v22.toInt := (elm_of c163 6).trans (congrArg Int32.toInt (((show cpF f1 10 0 1 10 6 = f1 6 from rfl).trans (ee23))))
  have q179 : elm (S159 7) 8 = v28.toInt := (elm_of c163 8).trans (congrArg Int32.toInt (((show cpF f1 10 0 1 10 8 = f1 8 from rfl).trans (ee29))))
  have q180 : elm (S159 7) 9 = v34.toInt := (elm_of c163 9).trans (congrArg Int32.toInt (((show cpF f1 10 0 1 10 9 = f1 9 from rfl).trans (ee35))))
  have q181 : elm (S 7) 20 = v40.toInt := (elm_of c2 20).trans (congrArg Int32.toInt (ee41))
  have q182 : elm (S159 7) 20 = v40.toInt := (elm_of c163 20).trans (congrArg Int32.toInt (((show cpF f1 10 0 1 10 20 = f1 20 from rfl).trans (ee41))))
  have q183 : elm (S 7) 21 = v43.toInt := (elm_of c2 21).trans (congrArg Int32.toInt (ee44))
  have q184 : elm (S159 7) 21 = v43.toInt := (elm_of c163 21).trans (congrArg Int32.toInt (((show cpF f1 10 0 1 10 21 = f1 21 from rfl).trans (ee44))))
  have q185 : elm (S 7) 23 = v46.toInt := (elm_of c2 23).trans (congrArg Int32.toInt (ee47))
  have q186 : elm (S159 7) 23 = v46.toInt := (elm_of c163 23).trans (congrArg Int32.toInt (((show cpF f1 10 0 1 10 23 = f1 23 from rfl).trans (ee47))))
  have q187 : elm (S 7) 26 = v49.toInt := (elm_of c2 26).trans (congrArg Int32.toInt (ee50))
  have q188 : elm (S159 7) 26 = v49.toInt := (elm_of c163 26).trans (congrArg Int32.toInt (((show cpF f1 10 0 1 10 26 = f1 26 from rfl).trans (ee50))))
  have q189 : elm (S 7) 28 = v52.toInt := (elm_of c2 28).trans (congrArg Int32.toInt (ee53))
  have q190 : elm (S159 7) 28 = v52.toInt := (elm_of c163 28).trans (congrArg Int32.toInt (((show cpF f1 10 0 1 10 28 = f1 28 from rfl).trans (ee53))))
  have q191 : elm (S 7) 29 = v55.toInt := (elm_of c2 29).trans (congrArg Int32.toInt (ee56))
  have q192 : elm (S159 7) 29 = v55.toInt := (elm_of c163 29).trans (congrArg Int32.toInt (((show cpF f1 10 0 1 10 29 = f1 29 from rfl).trans (ee56))))
  have q193 : elm (S 7) 30 = v58.toInt := (elm_of c2 30).trans (congrArg Int32.toInt (ee59))
  have q194 : elm (S159 7) 30 = v58.toInt := (elm_of c163 30).trans (congrArg Int32.toInt (((show cpF f1 10 0 1 10 30 = f1 30 from rfl).trans (ee59))))
  have q195 : elm (S 7) 31 = v61.toInt := (elm_of c2 31).trans (congrArg Int32.toInt (ee62))
  have q196 : elm (S159 7) 31 = v61.toInt := (elm_of c163 31).trans (congrArg Int32.toInt (((show cpF f1 10 0 1 10 31 = f1 31 from rfl).trans (ee62))))
  have q197 : elm (S 7) 33 = v64.toInt := (elm_of c2 33).trans (congrArg Int32.toInt (ee65))
  have q198 : elm (S159 7) 33 = v64.toInt := (elm_of c163 33).trans (congrArg Int32.toInt (((show cpF f1 10 0 1 10 33 = f1 33 from rfl).trans (ee65))))
  have q199 : elm (S 7) 36 = v67.toInt := (elm_of c2 36).trans (congrArg Int32.toInt (ee68))
  have q200 : elm (S159 7) 36 = v67.toInt := (elm_of c163 36).trans (congrArg Int32.toInt (((show cpF f1 10 0 1 10 36 = f1 36 from rfl).trans (ee68))))
  have q201 : elm (S 7) 38 = v70.toInt := (elm_of c2 38).trans (congrArg Int32.toInt (ee71))
  have q202 : elm (S159 7) 38 = v70.toInt := (elm_of c163 38).trans (congrArg Int32.toInt (((show cpF f1 10 0 1 10 38 = f1 38 from rfl).trans (ee71))))
  have q203 : elm (S 7) 39 = v73.toInt := (elm_of c2 39).trans (congrArg Int32.toInt (ee74))
  have q204 : elm (S159 7) 39 = v73.toInt := (elm_of c163 39).trans (congrArg Int32.toInt (((show cpF f1 10 0 1 10 39 = f1 39 from rfl).trans (ee74))))
  have q205 : elm (S 6) 0 = v79.toInt := (elm_of c77 0).trans (congrArg Int32.toInt (ee80))
  have c206 : S159 6 = .inl (g.2 0, 5, .inl (cpF f76 1 0 1 1)) := (up_ne eS159 (by decide) (up_ne eS154 (by decide) (up_ne eS148 (by decide) (up_ne eS141 (by decide) (up_ne eS135 (by decide) (up_ne eS128 (by decide) c124))))))
  have q207 : elm (S159 6) 1 = v79.toInt := (elm_of c206 1).trans (congrArg Int32.toInt (((show cpF f76 1 0 1 1 1 = f76 0 from rfl).trans (ee80))))
  have q208 : elm (S159 6) 0 = v79.toInt := (elm_of c206 0).trans (congrArg Int32.toInt (((show cpF f76 1 0 1 1 0 = f76 0 from rfl).trans (ee80))))
  have q209 : elm (S 6) 2 = v85.toInt := (elm_of c77 2).trans (congrArg Int32.toInt (ee86))
  have q210 : elm (S159 6) 2 = v85.toInt := (elm_of c206 2).trans (congrArg Int32.toInt (((show cpF f76 1 0 1 1 2 = f76 2 from rfl).trans (ee86))))
  have q211 : elm (S 6) 3 = v88.toInt := (elm_of c77 3).trans (congrArg Int32.toInt (ee89))
  have q212 : elm (S159 6) 3 = v88.toInt := (elm_of c206 3).trans (congrArg Int32.toInt (((show cpF f76 1 0 1 1 3 = f76 3 from rfl).trans (ee89))))
  exact xrv E hr hlk hQ (⟨hI, (up_o (up_o (up_o (up_o (up_o (up_o (up_o o_refl eS123 (by decide)) eS128 (by decide)) eS135 (by decide)) eS141 (by decide)) eS148 (by decide)) eS154 (by decide)) eS159 (by decide)), ⟨by omega, by omega⟩, ⟨by omega, by omega⟩, ⟨by omega, by omega⟩, ⟨by omega, by omega⟩, ⟨by omega, by omega⟩, ⟨by omega, by omega⟩, ⟨by omega, by omega⟩, ⟨by omega, by omega⟩, ⟨by omega, by omega⟩, ⟨by omega, by omega⟩, ⟨by omega, by omega⟩, ⟨by omega, by omega⟩, ⟨by omega, by omega⟩, ⟨by omega, by omega⟩, ⟨by omega, by omega⟩, ⟨by omega, by omega⟩, ⟨by omega, by omega⟩, ⟨by omega, by omega⟩, ⟨by omega, by omega⟩, ⟨by omega, by omega⟩, ⟨by omega, by omega⟩, ⟨by omega, by omega⟩, ⟨by omega, by omega⟩, ⟨by omega, by omega⟩, ⟨by omega, by omega⟩, ⟨by omega, by omega⟩, ⟨by omega, by omega⟩, ⟨by omega, by omega⟩, (at_cpo c2 c92 c163 c160 b3.2.2.2.2.2.2.2 (by decide) hAT0), (at_cpb c2 c92 c163 c160 b3.2.2.2.2.2.2.2 hAT0), (at_cpo c2 c92 c163 c160 b3.2.2.2.2.2.2.2 (by decide) hAT2), (at_cpo c2 c92 c163 c160 b3.2.2.2.2.2.2.2 (by decide) hAT3)⟩) dX12_copyShore_76
set_option maxHeartbeats 4000000 in
set_option maxRecDepth 100000 in
theorem gX12_copyShore_0_2 (l : Launch) (g : GG) (ad : Nat → Nat) (hD : Dj ad 20) (S : SS) (hI : InvM g ad S) (hAT0 : ATp (S 7) (S 12) 0) (hAT1 : ATp (S 7) (S 12) 1) (hAT2 : ATp (S 7) (S 12) 2) (hAT3 : ATp (S 7) (S 12) 3) : Met l yX12_copyShore (wG (.code yX12_copyShore cX12_copyShore 3 none)) (Rm 1) (XPre g ad 20 S [.ref (ad 0), .int 0, .int 2]) (va_Qv (fun S' => InvM g ad S' ∧ (∀ j, j ∉ ([6, 7, 8, 9, 10, 11, 12] : List Nat) → S' j = S j) ∧ (0 ≤ elm (S 7) 0 + (-1) * elm (S' 7) 20 ∧ 0 ≤ elm (S' 7) 20 + (-1) * elm (S 7) 0) ∧ (0 ≤ elm (S 7) 1 + (-1) * elm (S' 7) 21 ∧ 0 ≤ elm (S' 7) 21 + (-1) * elm (S 7) 1) ∧ (0 ≤ elm (S 7) 3 + (-1) * elm (S' 7) 23 ∧ 0 ≤ elm (S' 7) 23 + (-1) * elm (S 7) 3) ∧ (0 ≤ elm (S 7) 6 + (-1) * elm (S' 7) 26 ∧ 0 ≤ elm (S' 7) 26 + (-1) * elm (S 7) 6) ∧ (0 ≤ elm (S 7) 8 + (-1) * elm (S' 7) 28 ∧ 0 ≤ elm (S' 7) 28 + (-1) * elm (S 7) 8) ∧ (0 ≤ elm (S 7) 9 + (-1) * elm (S' 7) 29 ∧ 0 ≤ elm (S' 7) 29 + (-1) * elm (S 7) 9) ∧ (0 ≤ elm (S 7) 0 + (-1) * elm (S' 7) 0 ∧ 0 ≤ elm (S' 7) 0 + (-1) * elm (S 7) 0) ∧ (0 ≤ elm (S 7) 1 + (-1) * elm (S' 7) 1 ∧ 0 ≤ elm (S' 7) 1 + (-1) * elm (S 7) 1) ∧ (0 ≤ elm (S 7) 3 + (-1) * elm (S' 7) 3 ∧ 0 ≤ elm (S' 7) 3 + (-1) * elm (S 7) 3) ∧ (0 ≤ elm (S 7) 6 + (-1) * elm (S' 7) 6 ∧ 0 ≤ elm (S' 7) 6 + (-1) * elm (S 7) 6) ∧ (0 ≤ elm (S 7) 8 + (-1) * elm (S' 7) 8 ∧ 0 ≤ elm (S' 7) 8 + (-1) * elm (S 7) 8) ∧ (0 ≤ elm (S 7) 9 + (-1) * elm (S' 7) 9 ∧ 0 ≤ elm (S' 7) 9 + (-1) * elm (S 7) 9) ∧ (0 ≤ elm (S 7) 10 + (-1) * elm (S' 7) 10 ∧ 0 ≤ elm (S' 7) 10 + (-1) * elm (S 7) 10) ∧ (0 ≤ elm (S 7) 11 + (-1) * elm (S' 7) 11 ∧ 0 ≤ elm (S' 7) 11 + (-1) * elm (S 7) 11) ∧ (0 ≤ elm (S 7) 13 + (-1) * elm (S' 7) 13 ∧ 0 ≤ elm (S' 7) 13 + (-1) * elm (S 7) 13) ∧ (0 ≤ elm (S 7) 16 + (-1) * elm (S' 7) 16 ∧ 0 ≤ elm (S' 7) 16 + (-1) * elm (S 7) 16) ∧ (0 ≤ elm (S 7) 18 + (-1) * elm (S' 7) 18 ∧ 0 ≤ elm (S' 7) 18 + (-1) * elm (S 7) 18) ∧ (0 ≤ elm (S 7) 19 + (-1) * elm (S' 7) 19 ∧ 0 ≤ elm (S' 7) 19 + (-1) * elm (S 7) 19) ∧ (0 ≤ elm (S 7) 30 + (-1) * elm (S' 7) 30 ∧ 0 ≤ elm (S' 7) 30 + (-1) * elm (S 7) 30) ∧ (0 ≤ elm (S 7) 31 + (-1) * elm (S' 7) 31 ∧ 0 ≤ elm (S' 7) 31 + (-1) * elm (S 7) 31) ∧ (0 ≤ elm (S 7) 33 + (-1) * elm (S' 7) 33 ∧ 0 ≤ elm (S' 7) 33 + (-1) * elm (S 7) 33) ∧ (0 ≤ elm (S 7) 36 + (-1) * elm (S' 7) 36 ∧ 0 ≤ elm (S' 7) 36 + (-1) * elm (S 7) 36) ∧ (0 ≤ elm (S 7) 38 + (-1) * elm (S' 7) 38 ∧ 0 ≤ elm (S' 7) 38 + (-1) * elm (S 7) 38) ∧ (0 ≤ elm (S 7) 39 + (-1) * elm (S' 7) 39 ∧ 0 ≤ elm (S' 7) 39 + (-1) * elm (S 7) 39) ∧ (0 ≤ elm (S 6) 0 + (-1) * elm (S' 6) 2 ∧ 0 ≤ elm (S' 6) 2 + (-1) * elm (S 6) 0) ∧ (0 ≤ elm (S 6) 0 + (-1) * elm (S' 6) 0 ∧ 0 ≤ elm (S' 6) 0 + (-1) * elm (S 6) 0) ∧ (0 ≤ elm (S 6) 1 + (-1) * elm (S' 6) 1 ∧ 0 ≤ elm (S' 6) 1 + (-1) * elm (S 6) 1) ∧ (0 ≤ elm (S 6) 3 + (-1) * elm (S' 6) 3 ∧ 0 ≤ elm (S' 6) 3 + (-1) * elm (S 6) 3) ∧ (ATp (S' 7) (S' 12) 0) ∧ (ATp (S' 7) (S' 12) 1) ∧ (ATp (S' 7) (S' 12) 2) ∧ (ATp (S' 7) (S' 12) 3)) (QB g ad 20) (FA ad 20)) 0 0 (FA ad 20) := by
  refine xmet cX12_copyShore "EbbWreckModel" (by decide) rfl (Nat.le_of_ble_eq_true rfl) (fun p e s m below meth c E hr hlk hml hQ ls hl => ?_)
  have hx := E.1
  have hb := E.2.1
  have hs : Sp ad 20 (FA ad 20) := Sp.fa hD
  have hl : lv_has ls 3 [(0, .ref (ad 0)), (1, .int 0), (2, .int 2)] := hl
  obtain ⟨f1, c2, b3⟩ := invM_7 hI
  obtain ⟨v4, ee5⟩ : ∃ z : Int32, f1 0 = z := ⟨_, rfl⟩
  have b6 : Bd v4 (0) (12) := (by rw [← ee5]; exact b3.1 0 (by decide))
  obtain ⟨v7, ee8⟩ : ∃ z : Int32, f1 20 = z := ⟨_, rfl⟩
  have b9 : Bd v7 (0) (12) := (by rw [← ee8]; exact b3.1 20 (by decide))
  obtain ⟨v10, ee11⟩ : ∃ z : Int32, f1 1 = z := ⟨_, rfl⟩
  have b12 : Bd v10 (0) (12) := (by rw [← ee11]; exact b3.2.1 1 (by decide))
  obtain ⟨v13, ee14⟩ : ∃ z : Int32, f1 21 = z := ⟨_, rfl⟩
  have b15 : Bd v13 (0) (12) := (by rw [← ee14]; exact b3.2.1 21 (by decide))
  obtain ⟨v16, ee17⟩ : ∃ z : Int32, f1 3 = z := ⟨_, rfl⟩
  have b18 : Bd v16 (0) (12) := (by rw [← ee17]; exact b3.2.2.2.1 3 (by decide))
  obtain ⟨v19, ee20⟩ : ∃ z : Int32, f1 23 = z := ⟨_, rfl⟩
  have b21 : Bd v19 (0) (12) := (by rw [← ee20]; exact b3.2.2.2.1 23 (by decide))
  obtain ⟨v22, ee23⟩ : ∃ z : Int32, f1 6 = z := ⟨_, rfl⟩
  have b24 : Bd v22 (0) (8) := (by rw [← ee23]; exact b3.2.2.2.2.1 6 (by decide))
  obtain ⟨v25, ee26⟩ : ∃ z : Int32, f1 26 = z := ⟨_, rfl⟩
  have b27 : Bd v25 (0) (8) := (by rw [← ee26]; exact b3.2.2.2.2.1 26 (by decide))
  obtain ⟨v28, ee29⟩ : ∃ z : Int32, f1 8 = z := ⟨_, rfl⟩
  have b30 : Bd v28 (0) (3) := (by rw [← ee29]; exact b3.2.2.2.2.2.2.1 8 (by decide))
  obtain ⟨v31, ee32⟩ : ∃ z : Int32, f1 28 = z := ⟨_, rfl⟩
  have b33 : Bd v31 (0) (3) := (by rw [← ee32]; exact b3.2.2.2.2.2.2.1 28 (by decide))
  obtain ⟨v34, ee35⟩ : ∃ z : Int32, f1 9 = z := ⟨_, rfl⟩
  have b36 : Bd v34 (0) (40) := (by rw [← ee35]; exact b3.2.2.2.2.2.2.2 9 (by decide))
  obtain ⟨v37, ee38⟩ : ∃ z : Int32, f1 29 = z := ⟨_, rfl⟩
  have b39 : Bd v37 (0) (40) := (by rw [← ee38]; exact b3.2.2.2.2.2.2.2 29 (by decide))
  obtain ⟨v40, ee41⟩ : ∃ z : Int32, f1 10 = z := ⟨_, rfl⟩
  have b42 : Bd v40 (0) (12) := (by rw [← ee41]; exact b3.1 10 (by decide))
  obtain ⟨v43, ee44⟩ : ∃ z : Int32, f1 11 = z := ⟨_, rfl⟩
  have b45 : Bd v43 (0) (12) := (by rw [← ee44]; exact b3.2.1 11 (by decide))
  obtain ⟨v46, ee47⟩ : ∃ z : Int32, f1 13 = z := ⟨_, rfl⟩
  have b48 : Bd v46 (0) (12) := (by rw [← ee47]; exact b3.2.2.2.1 13 (by decide))
  obtain ⟨v49, ee50⟩ : ∃ z : Int32, f1 16 = z := ⟨_, rfl⟩
  have b51 : Bd v49 (0) (8) := (by rw [← ee50]; exact b3.2.2.2.2.1 16 (by decide))
  obtain ⟨v52, ee53⟩ : ∃ z : Int32, f1 18 = z := ⟨_, rfl⟩
  have b54 : Bd v52 (0) (3) := (by rw [← ee53]; exact b3.2.2.2.2.2.2.1 18 (by decide))
  obtain ⟨v55, ee56⟩ : ∃ z : Int32, f1 19 = z := ⟨_, rfl⟩
  have b57 : Bd v55 (0) (40) := (by rw [← ee56]; exact b3.2.2.2.2.2.2.2 19 (by decide))
  obtain ⟨v58, ee59⟩ : ∃ z : Int32, f1 30 = z := ⟨_, rfl⟩
  have b60 : Bd v58 (0) (12) := (by rw [← ee59]; exact b3.1 30 (by decide))
  obtain ⟨v61, ee62⟩ : ∃ z : Int32, f1 31 = z := ⟨_, rfl⟩
  have b63 : Bd v61 (0) (12) := (by rw [← ee62]; exact b3.2.1 31 (by decide))
  obtain ⟨v64, ee65⟩ : ∃ z : Int32, f1 33 = z := ⟨_, rfl⟩
  have b66 : Bd v64 (0) (12) := (by rw [← ee65]; exact b3.2.2.2.1 33 (by decide))
  obtain ⟨v67, ee68⟩ : ∃ z : Int32, f1 36 = z := ⟨_, rfl⟩
  have b69 : Bd v67 (0) (8) := (by rw [← ee68]; exact b3.2.2.2.2.1 36 (by decide))
  obtain ⟨v70, ee71⟩ : ∃ z : Int32, f1 38 = z := ⟨_, rfl⟩
  have b72 : Bd v70 (0) (3) := (by rw [← ee71]; exact b3.2.2.2.2.2.2.1 38 (by decide))
  obtain ⟨v73, ee74⟩ : ∃ z : Int32, f1 39 = z := ⟨_, rfl⟩
  have b75 : Bd v73 (0) (40) := (by rw [← ee74]; exact b3.2.2.2.2.2.2.2 39 (by decide))
  obtain ⟨f76, c77, b78⟩ := invM_6 hI
  obtain ⟨v79, ee80⟩ : ∃ z : Int32, f76 0 = z := ⟨_, rfl⟩
  have b81 : Bd v79 (0) (40000) := (by rw [← ee80]; exact b78 0)
  obtain ⟨v82, ee83⟩ : ∃ z : Int32, f76 2 = z := ⟨_, rfl⟩
  have b84 : Bd v82 (0) (40000) := (by rw [← ee83]; exact b78 2)
  obtain ⟨v85, ee86⟩ : ∃ z : Int32, f76 1 = z := ⟨_, rfl⟩
  have b87 : Bd v85 (0) (40000) := (by rw [← ee86]; exact b78 1)
  obtain ⟨v88, ee89⟩ : ∃ z : Int32, f76 3 = z := ⟨_, rfl⟩
  have b90 : Bd v88 (0) (40000) := (by rw [← ee89]; exact b78 3)
  obtain ⟨f91, c92, b93⟩ := invM_12 hI
  refine lv_aload_n hx hb dX12_copyShore_0 rfl (lv_at hl 0 rfl) ?_
  obtain ⟨v94, v95, v97, v99, v101, v102, w103, v104, v106, v107, v108, v109, v111, v113, v115, v117, v119, v120, v121, c122, b96, b98, b100, b105, b110, b112, b114, b116, b118⟩ := invM_0 hI
  have c122 : S 0 = .inr (12, [.int v94, .ref (ad 1), .ref (ad 2), .ref (ad 3), .ref (ad 4), .ref (ad 5), .int v95, .int v97, .int v99, .int v101, .int v102, .long w103, .int v104, .int v106, .int v107, .int v108, .ref (ad 6), .ref (ad 7), .ref (ad 8), .ref (ad 9), .ref (ad 10), .ref (ad 11), .ref (ad 12), .ref (ad 13), .ref (ad 14), .ref (ad 15), .int v109, .int v111, .ref (ad 16), .int v113, .int v115, .int v117, .int v119, .int v120, .ref (ad 17), .ref (ad 18), .int v121, .ref (ad 19)]) := c122
  refine xget E hQ 0 (by decide) c122 rfl 16 (by decide) q1484 rfl dX12_copyShore_1 ?_
  refine lv_iconst (v := 1) hx hb dX12_copyShore_4 (by decide) ?_
  refine lv_iload_n hx hb dX12_copyShore_5 rfl (lv_at hl 1 rfl) ?_
  refine lv_iload_n hx hb dX12_copyShore_6 rfl (lv_at hl 2 rfl) ?_
  refine xcSv E hs hQ hml hl.1 (uCopyRow l g ad 20 hD S 6 (by decide) 5 (by decide) f76 1 0 2 (by decide) (by decide) (by decide) c77) mX12_copyRow q1743 rfl ⟨(Nat.le_of_ble_eq_true rfl), (Nat.le_of_ble_eq_true rfl)⟩ ⟨(Nat.le_of_ble_eq_true rfl), (Nat.le_of_ble_eq_true rfl)⟩ (Nat.le_of_ble_eq_true rfl) rfl dX12_copyShore_7 (fun S123 H locs eS123 hQ => ?_)
  have hI := invM_up_6 hI eS123 ⟨_, rfl, cp_b b78⟩
  have b125 : ∀ j, Bd ((cpF f76 1 0 2 1) j) (0) (40000) := cp_b b78
  have c124 : S123 6 = .inl (g.2 0, 5, .inl (cpF f76 1 0 2 1)) := up_at eS123 rfl
  refine lv_aload_n hx hb dX12_copyShore_10 rfl (lv_at hl 0 rfl) ?_
  have c126 : S123 0 = .inr (12, [.int v94, .ref (ad 1), .ref (ad 2), .ref (ad 3), .ref (ad 4), .ref (ad 5), .int v95, .int v97, .int v99, .int v101, .int v102, .long w103, .int v104, .int v106, .int v107, .int v108, .ref (ad 6), .ref (ad 7), .ref (ad 8), .ref (ad 9), .ref (ad 10), .ref (ad 11), .ref (ad 12), .ref (ad 13), .ref (ad 14), .ref (ad 15), .int v109, .int v111, .ref (ad 16), .int v113, .int v115, .int v117, .int v119, .int v120, .ref (ad 17), .ref (ad 18), .int v121, .ref (ad 19)]) := (up_ne eS123 (by decide) c122)
  refine xget E hQ 0 (by decide) c126 rfl 17 (by decide) q1485 rfl dX12_copyShore_11 ?_
  refine lv_bipush (v := 10) hx hb dX12_copyShore_14 (by decide) ?_
  refine lv_iload_n hx hb dX12_copyShore_16 rfl (lv_at hl 1 rfl) ?_
  refine lv_iload_n hx hb dX12_copyShore_17 rfl (lv_at hl 2 rfl) ?_
  have c127 : S123 7 = .inl (g.2 0, 50, .inl f1) := (up_ne eS123 (by decide) c2)
  refine xcSv E hs hQ hml hl.1 (uCopyRow l g ad 20 hD S123 7 (by decide) 50 (by decide) f1 10 0 2 (by decide) (by decide) (by decide) c127) mX12_copyRow q1743 rfl ⟨(Nat.le_of_ble_eq_true rfl), (Nat.le_of_ble_eq_true rfl)⟩ ⟨(Nat.le_of_ble_eq_true rfl), (Nat.le_of_ble_eq_true rfl)⟩ (Nat.le_of_ble_eq_true rfl) rfl dX12_copyShore_18 (fun S128 H locs eS128 hQ => ?_)
  have hI := invM_up_7 hI eS128 ⟨_, rfl, ⟨cp_m (q := 1) b3.1 (by decide), cp_m (q := 1) b3.2.1 (by decide), cp_m (q := 1) b3.2.2.1 (by decide), cp_m (q := 1) b3.2.2.2.1 (by decide), cp_m (q := 1) b3.2.2.2.2.1 (by decide), cp_m (q := 1) b3.2.2.2.2.2.1 (by decide), cp_m (q := 1) b3.2.2.2.2.2.2.1 (by decide), cp_m (q := 1) b3.2.2.2.2.2.2.2 (by decide)⟩⟩
  have b130 : (∀ j, j % 10 = 0 → Bd ((cpF f1 10 0 2 10) j) (0) (12)) ∧ (∀ j, j % 10 = 1 → Bd ((cpF f1 10 0 2 10) j) (0) (12)) ∧ (∀ j, j % 10 = 2 → Bd ((cpF f1 10 0 2 10) j) (0) (6)) ∧ (∀ j, j % 10 = 3 → Bd ((cpF f1 10 0 2 10) j) (0) (12)) ∧ (∀ j, j % 10 = 6 → Bd ((cpF f1 10 0 2 10) j) (0) (8)) ∧ (∀ j, j % 10 = 7 → Bd ((cpF f1 10 0 2 10) j) (0) (6)) ∧ (∀ j, j % 10 = 8 → Bd ((cpF f1 10 0 2 10) j) (0) (3)) ∧ (∀ j, j % 10 = 9 → Bd ((cpF f1 10 0 2 10) j) (0) (40)) := ⟨cp_m (q := 1) b3.1 (by decide), cp_m (q := 1) b3.2.1 (by decide), cp_m (q := 1) b3.2.2.1 (by decide), cp_m (q := 1) b3.2.2.2.1 (by decide), cp_m (q := 1) b3.2.2.2.2.1 (by decide), cp_m (q := 1) b3.2.2.2.2.2.1 (by decide), cp_m (q := 1) b3.2.2.2.2.2.2.1 (by decide), cp_m (q := 1) b3.2.2.2.2.2.2.2 (by decide)⟩
  have c129 : S128 7 = .inl (g.2 0, 50, .inl (cpF f1 10 0 2 10)) := up_at eS128 rfl
  refine lv_aload_n hx hb dX12_copyShore_21 rfl (lv_at hl 0 rfl) ?_
  have c131 : S128 0 = .inr (12, [.int v94, .ref (ad 1), .ref (ad 2), .ref (ad 3), .ref (ad 4), .ref (ad 5), .int v95, .int v97, .int v99, .int v101, .int v102, .long w103, .int v104, .int v106, .int v107, .int v108, .ref (ad 6), .ref (ad 7), .ref (ad 8), .ref (ad 9), .ref (ad 10), .ref (ad 11), .ref (ad 12), .ref (ad 13), .ref (ad 14), .ref (ad 15), .int v109, .int v111, .ref (ad 16), .int v113, .int v115, .int v117, .int v119, .int v120, .ref (ad 17), .ref (ad 18), .int v121, .ref (ad 19)]) := (up_ne eS128 (by decide) c126)
  refine xget E hQ 0 (by decide) c131 rfl 18 (by decide) q1486 rfl dX12_copyShore_22 ?_
  refine lv_bipush (v := 24) hx hb dX12_copyShore_25 (by decide) ?_
  refine lv_iload_n hx hb dX12_copyShore_27 rfl (lv_at hl 1 rfl) ?_
  refine lv_iload_n hx hb dX12_copyShore_28 rfl (lv_at hl 2 rfl) ?_
  obtain ⟨f132, c133⟩ := invM_8 hI
  refine xcSv E hs hQ hml hl.1 (uCopyRow l g ad 20 hD S128 8 (by decide) 120 (by decide) f132 24 0 2 (by decide) (by decide) (by decide) c133) mX12_copyRow q1743 rfl ⟨(Nat.le_of_ble_eq_true rfl), (Nat.le_of_ble_eq_true rfl)⟩ ⟨(Nat.le_of_ble_eq_true rfl), (Nat.le_of_ble_eq_true rfl)⟩ (Nat.le_of_ble_eq_true rfl) rfl dX12_copyShore_29 (fun S135 H locs eS135 hQ => ?_)
  have hI := invM_up_8 hI eS135 ⟨_, rfl⟩
  have c136 : S135 8 = .inl (g.2 0, 120, .inl (cpF f132 24 0 2 24)) := up_at eS135 rfl
  refine lv_aload_n hx hb dX12_copyShore_32 rfl (lv_at hl 0 rfl) ?_
  have c137 : S135 0 = .inr (12, [.int v94, .ref (ad 1), .ref (ad 2), .ref (ad 3), .ref (ad 4), .ref (ad 5), .int v95, .int v97, .int v99, .int v101, .int v102, .long w103, .int v104, .int v106, .int v107, .int v108, .ref (ad 6), .ref (ad 7), .ref (ad 8), .ref (ad 9), .ref (ad 10), .ref (ad 11), .ref (ad 12), .ref (ad 13), .ref (ad 14), .ref (ad 15), .int v109, .int v111, .ref (ad 16), .int v113, .int v115, .int v117, .int v119, .int v120, .ref (ad 17), .ref (ad 18), .int v121, .ref (ad 19)]) := (up_ne eS135 (by decide) c131)
  refine xget E hQ 0 (by decide) c137 rfl 19 (by decide) q1487 rfl dX12_copyShore_33 ?_
  refine lv_bipush (v := 24) hx hb dX12_copyShore_36 (by decide) ?_
  refine lv_iload_n hx hb dX12_copyShore_38 rfl (lv_at hl 1 rfl) ?_
  refine lv_iload_n hx hb dX12_copyShore_39 rfl (lv_at hl 2 rfl) ?_
  obtain ⟨f138, c139, b140⟩ := invM_9 hI
  refine xcSv E hs hQ hml hl.1 (uCopyRow l g ad 20 hD S135 9 (by decide) 120 (by decide) f138 24 0 2 (by decide) (by decide) (by decide) c139) mX12_copyRow q1743 rfl ⟨(Nat.le_of_ble_eq_true rfl), (Nat.le_of_ble_eq_true rfl)⟩ ⟨(Nat.le_of_ble_eq_true rfl), (Nat.le_of_ble_eq_true rfl)⟩ (Nat.le_of_ble_eq_true rfl) rfl dX12_copyShore_40 (fun S141 H locs eS141 hQ => ?_)
  have hI := invM_up_9 hI eS141 ⟨_, rfl, ⟨cp_m (q := 8) b140.1 (by decide), cp_m (q := 8) b140.2 (by decide)⟩⟩
  have b143 : (∀ j, j % 3 = 1 → Bd ((cpF f138 24 0 2 24) j) (0) (11)) ∧ (∀ j, j % 3 = 2 → Bd ((cpF f138 24 0 2 24) j) (0) (99)) := ⟨cp_m (q := 8) b140.1 (by decide), cp_m (q := 8) b140.2 (by decide)⟩
  have c142 : S141 9 = .inl (g.2 0, 120, .inl (cpF f138 24 0 2 24)) := up_at eS141 rfl
  refine lv_aload_n hx hb dX12_copyShore_43 rfl (lv_at hl 0 rfl) ?_
  have c144 : S141 0 = .inr (12, [.int v94, .ref (ad 1), .ref (ad 2), .ref (ad 3), .ref (ad 4), .ref (ad 5), .int v95, .int v97, .int v99, .int v101, .int v102, .long w103, .int v104, .int v106, .int v107, .int v108, .ref (ad 6), .ref (ad 7), .ref (ad 8), .ref (ad 9), .ref (ad 10), .ref (ad 11), .ref (ad 12), .ref (ad 13), .ref (ad 14), .ref (ad 15), .int v109, .int v111, .ref (ad 16), .int v113, .int v115, .int v117, .int v119, .int v120, .ref (ad 17), .ref (ad 18), .int v121, .ref (ad 19)]) := (up_ne eS141 (by decide) c137)
  refine xget E hQ 0 (by decide) c144 rfl 20 (by decide) q1488 rfl dX12_copyShore_44 ?_
  refine lv_bipush (v := 24) hx hb dX12_copyShore_47 (by decide) ?_
  refine lv_iload_n hx hb dX12_copyShore_49 rfl (lv_at hl 1 rfl) ?_
  refine lv_iload_n hx hb dX12_copyShore_50 rfl (lv_at hl 2 rfl) ?_
  obtain ⟨f145, c146⟩ := invM_10 hI
  refine xcSv E hs hQ hml hl.1 (uCopyRow l g ad 20 hD S141 10 (by decide) 120 (by decide) f145 24 0 2 (by decide) (by decide) (by decide) c146) mX12_copyRow q1743 rfl ⟨(Nat.le_of_ble_eq_true rfl), (Nat.le_of_ble_eq_true rfl)⟩ ⟨(Nat.le_of_ble_eq_true rfl), (Nat.le_of_ble_eq_true rfl)⟩ (Nat.le_of_ble_eq_true rfl) rfl dX12_copyShore_51 (fun S148 H locs eS148 hQ => ?_)
  have hI := invM_up_10 hI eS148 ⟨_, rfl⟩
  have c149 : S148 10 = .inl (g.2 0, 120, .inl (cpF f145 24 0 2 24)) := up_at eS148 rfl
  refine lv_aload_n hx hb dX12_copyShore_54 rfl (lv_at hl 0 rfl) ?_
  have c150 : S148 0 = .inr (12, [.int v94, .ref (ad 1), .ref (ad 2), .ref (ad 3), .ref (ad 4), .ref (ad 5), .int v95, .int v97, .int v99, .int v101, .int v102, .long w103, .int v104, .int v106, .int v107, .int v108, .ref (ad 6), .ref (ad 7), .ref (ad 8), .ref (ad 9), .ref (ad 10), .ref (ad 11), .ref (ad 12), .ref (ad 13), .ref (ad 14), .ref (ad 15), .int v109, .int v111, .ref (ad 16), .int v113, .int v115, .int v117, .int v119, .int v120, .ref (ad 17), .ref (ad 18), .int v121, .ref (ad 19)]) := (up_ne eS148 (by decide) c144)
  refine xget E hQ 0 (by decide) c150 rfl 21 (by decide) q1489 rfl dX12_copyShore_55 ?_
  refine lv_iconst (v := 3) hx hb dX12_copyShore_58 (by decide) ?_
  refine lv_iload_n hx hb dX12_copyShore_59 rfl (lv_at hl 1 rfl) ?_
  refine lv_iload_n hx hb dX12_copyShore_60 rfl (lv_at hl 2 rfl) ?_
  obtain ⟨f151, c152, b153⟩ := invM_11 hI
  refine xcSv E hs hQ hml hl.1 (uCopyRow l g ad 20 hD S148 11 (by decide) 15 (by decide) f151 3 0 2 (by decide) (by decide) (by decide) c152) mX12_copyRow q1743 rfl ⟨(Nat.le_of_ble_eq_true rfl), (Nat.le_of_ble_eq_true rfl)⟩ ⟨(Nat.le_of_ble_eq_true rfl), (Nat.le_of_ble_eq_true rfl)⟩ (Nat.le_of_ble_eq_true rfl) rfl dX12_copyShore_61 (fun S154 H locs eS154 hQ => ?_)
  have hI := invM_up_11 hI eS154 ⟨_, rfl, cp_b b153⟩
  have b156 : ∀ j, Bd ((cpF f151 3 0 2 3) j) (0) (11) := cp_b b153
  have c155 : S154 11 = .inl (g.2 0, 15, .inl (cpF f151 3 0 2 3)) := up_at eS154 rfl
  refine lv_aload_n hx hb dX12_copyShore_64 rfl (lv_at hl 0 rfl) ?_
  have c157 : S154 0 = .inr (12, [.int v94, .ref (ad 1), .ref (ad 2), .ref (ad 3), .ref (ad 4), .ref (ad 5), .int v95, .int v97, .int v99, .int v101, .int v102, .long w103, .int v104, .int v106, .int v107, .int v108, .ref (ad 6), .ref (ad 7), .ref (ad 8), .ref (ad 9), .ref (ad 10), .ref (ad 11), .ref (ad 12), .ref (ad 13), .ref (ad 14), .ref (ad 15), .int v109, .int v111, .ref (ad 16), .int v113, .int v115, .int v117, .int v119, .int v120, .ref (ad 17), .ref (ad 18), .int v121, .ref (ad 19)]) := (up_ne eS154 (by decide) c150)
  refine xget E hQ 0 (by decide) c157 rfl 22 (by decide) q1490 rfl dX12_copyShore_65 ?_
  refine lv_sipush (v := 160) hx hb dX12_copyShore_68 (by decide) ?_
  refine lv_iload_n hx hb dX12_copyShore_71 rfl (lv_at hl 1 rfl) ?_
  refine lv_iload_n hx hb dX12_copyShore_72 rfl (lv_at hl 2 rfl) ?_
  have c158 : S154 12 = .inl (g.2 0, 800, .inl f91) := (up_ne eS154 (by decide) (up_ne eS148 (by decide) (up_ne eS141 (by decide) (up_ne eS135 (by decide) (up_ne eS128 (by decide) (up_ne eS123 (by decide) c92))))))
  refine xcSv E hs hQ hml hl.1 (uCopyRow l g ad 20 hD S154 12 (by decide) 800 (by decide) f91 160 0 2 (by decide) (by decide) (by decide) c158) mX12_copyRow q1743 rfl ⟨(Nat.le_of_ble_eq_true rfl), (Nat.le_of_ble_eq_true rfl)⟩ ⟨(Nat.le_of_ble_eq_true rfl), (Nat.le_of_ble_eq_true rfl)⟩ (Nat.le_of_ble_eq_true rfl) rfl dX12_copyShore_73 (fun S159 H locs eS159 hQ => ?_)
  have hI := invM_up_12 hI eS159 ⟨_, rfl, ⟨cp_m (q := 40) b93.1 (by decide), cp_m (q := 40) b93.2 (by decide)⟩⟩
  have b161 : (∀ j, j % 4 = 1 → Bd ((cpF f91 160 0 2 160) j) (0) (7)) ∧ (∀ j, j % 4 = 2 → Bd ((cpF f91 160 0 2 160) j) (0) (400)) := ⟨cp_m (q := 40) b93.1 (by decide), cp_m (q := 40) b93.2 (by decide)⟩
  have c160 : S159 12 = .inl (g.2 0, 800, .inl (cpF f91 160 0 2 160)) := up_at eS159 rfl
  have q162 : elm (S 7) 0 = v4.toInt := (elm_of c2 0).trans (congrArg Int32.toInt (ee5))
  have c163 : S159 7 = .inl (g.2 0, 50, .inl (cpF f1 10 0 2 10)) := (up_ne eS159 (by decide) (up_ne eS154 (by decide) (up_ne eS148 (by decide) (up_ne eS141 (by decide) (up_ne eS135 (by decide) c129)))))
  have q164 : elm (S159 7) 20 = v4.toInt := (elm_of c163 20).trans (congrArg Int32.toInt (((show cpF f1 10 0 2 10 20 = f1 0 from rfl).trans (ee5))))
  have q165 : elm (S 7) 1 = v10.toInt := (elm_of c2 1).trans (congrArg Int32.toInt (ee11))
  have q166 : elm (S159 7) 21 = v10.toInt := (elm_of c163 21).trans (congrArg Int32.toInt (((show cpF f1 10 0 2 10 21 = f1 1 from rfl).trans (ee11))))
  have q167 : elm (S 7) 3 = v16.toInt := (elm_of c2 3).trans (congrArg Int32.toInt (ee17))
  have q168 : elm (S159 7) 23 = v16.toInt := (elm_of c163 23).trans (congrArg Int32.toInt (((show cpF f1 10 0 2 10 23 = f1 3 from rfl).trans (ee17))))
  have q169 : elm (S 7) 6 = v22.toInt := (elm_of c2 6).trans (congrArg Int32.toInt (ee23))
  have q170 : elm (S159 7) 26 = v22.toInt := (elm_of c163 26).trans (congrArg Int32.toInt (((show cpF f1 10 0 2 10 26 = f1 6 from rfl).trans (ee23))))
  have q171 : elm (S 7) 8 = v28.toInt := (elm_of c2 8).trans (congrArg Int32.toInt (ee29))
  have q172 : elm (S159 7) 28 = v28.toInt := (elm_of c163 28).trans (congrArg Int32.toInt (((show cpF f1 10 0 2 10 28 = f1 8 from rfl).trans (ee29))))
  have q173 : elm (S 7) 9 = v34.toInt := (elm_of c2 9).trans (congrArg Int32.toInt (ee35))
  have q174 : elm (S159 7) 29 = v34.toInt := (elm_of c163 29).trans (congrArg Int32.toInt (((show cpF f1 10 0 2 10 29 = f1 9 from rfl).trans (ee35))))
  have q175 : elm (S159 7) 0 = v4.toInt := (elm_of c163 0).trans (congrArg Int32.toInt (((show cpF f1 10 0 2 10 0 = f1 0 from rfl).trans (ee5))))
  have q176 : elm (S159 7) 1 = v10.toInt := (elm_of c163 1).trans (congrArg Int32.toInt (((show cpF f1 10 0 2 10 1 = f1 1 from rfl).trans (ee11))))
  have q177 : elm (S159 7) 3 = v16.toInt := (elm_of c163 3).trans (congrArg Int32.toInt (((show cpF f1 10 0 2 10 3 = f1 3 from rfl).trans (ee17))))
  have q178 : elm (S159 7) 6 = v22.toInt := (elm_of c163 6).trans (congrArg Int32.toInt (((show cpF f1 10 0 2 10 6 = f1 6 from rfl).trans (ee23))))
  have q179 : elm (S159 7) 8 = v28.toInt := (elm_of c163 8).trans (congrArg Int32.toInt (((show cpF f1 10 0 2 10 8 = f1 8 from rfl).trans (ee29))))
  have q180 : elm (S159 7) 9 = v34.toInt := (elm_of c163 9).trans (congrArg Int32.toInt (((show cpF f1 10 0 2 10 9 = f1 9 from rfl).trans (ee35))))
  have q181 : elm (S 7) 10 = v40.toInt := (elm_of c2 10).trans (congrArg Int32.toInt (ee41))
  have q182 : elm (S159 7) 10 = v40.toInt := (elm_of c163 10).trans (congrArg Int32.toInt (((show cpF f1 10 0 2 10 10 = f1 10 from rfl).trans (ee41))))
  have q183 : elm (S 7) 11 = v43.toInt := (elm_of c2 11).trans (congrArg Int32.toInt (ee44))
  have q184 : elm (S159 7) 11 = v43.toInt := (elm_of c163 11).trans (congrArg Int32.toInt (((show cpF f1 10 0 2 10 11 = f1 11 from rfl).trans (ee44))))
  have q185 : elm (S 7) 13 = v46.toInt := (elm_of c2 13).trans (congrArg Int32.toInt (ee47))
  have q186 : elm (S159 7) 13 = v46.toInt := (elm_of c163 13).trans (congrArg Int32.toInt (((show cpF f1 10 0 2 10 13 = f1 13 from rfl).trans (ee47))))
  have q187 : elm (S 7) 16 = v49.toInt := (elm_of c2 16).trans (congrArg Int32.toInt (ee50))
  have q188 : elm (S159 7) 16 = v49.toInt := (elm_of c163 16).trans (congrArg Int32.toInt (((show cpF f1 10 0 2 10 16 = f1 16 from rfl).trans (ee50))))
  have q189 : elm (S 7) 18 = v52.toInt := (elm_of c2 18).trans (congrArg Int32.toInt (ee53))
  have q190 : elm (S159 7) 18 = v52.toInt := (elm_of c163 18).trans (congrArg Int32.toInt (((show cpF f1 10 0 2 10 18 = f1 18 from rfl).trans (ee53))))
  have q191 : elm (S 7) 19 = v55.toInt := (elm_of c2 19).trans (congrArg Int32.toInt (ee56))
  have q192 : elm (S159 7) 19 = v55.toInt := (elm_of c163 19).trans (congrArg Int32.toInt (((show cpF f1 10 0 2 10 19 = f1 19 from rfl).trans (ee56))))
  have q193 : elm (S 7) 30 = v58.toInt := (elm_of c2 30).trans (congrArg Int32.toInt (ee59))
  have q194 : elm (S159 7) 30 = v58.toInt := (elm_of c163 30).trans (congrArg Int32.toInt (((show cpF f1 10 0 2 10 30 = f1 30 from rfl).trans (ee59))))
  have q195 : elm (S 7) 31 = v61.toInt := (elm_of c2 31).trans (congrArg Int32.toInt (ee62))
  have q196 : elm (S159 7) 31 = v61.toInt := (elm_of c163 31).trans (congrArg Int32.toInt (((show cpF f1 10 0 2 10 31 = f1 31 from rfl).trans (ee62))))
  have q197 : elm (S 7) 33 = v64.toInt := (elm_of c2 33).trans (congrArg Int32.toInt (ee65))
  have q198 : elm (S159 7) 33 = v64.toInt := (elm_of c163 33).trans (congrArg Int32.toInt (((show cpF f1 10 0 2 10 33 = f1 33 from rfl).trans (ee65))))
  have q199 : elm (S 7) 36 = v67.toInt := (elm_of c2 36).trans (congrArg Int32.toInt (ee68))
  have q200 : elm (S159 7) 36 = v67.toInt := (elm_of c163 36).trans (congrArg Int32.toInt (((show cpF f1 10 0 2 10 36 = f1 36 from rfl).trans (ee68))))
  have q201 : elm (S 7) 38 = v70.toInt := (elm_of c2 38).trans (congrArg Int32.toInt (ee71))
  have q202 : elm (S159 7) 38 = v70.toInt := (elm_of c163 38).trans (congrArg Int32.toInt (((show cpF f1 10 0 2 10 38 = f1 38 from rfl).trans (ee71))))
  have q203 : elm (S 7) 39 = v73.toInt := (elm_of c2 39).trans (congrArg Int32.toInt (ee74))
  have q204 : elm (S159 7) 39 = v73.toInt := (elm_of c163 39).trans (congrArg Int32.toInt (((show cpF f1 10 0 2 10 39 = f1 39 from rfl).trans (ee74))))
  have q205 : elm (S 6) 0 = v79.toInt := (elm_of c77 0).trans (congrArg Int32.toInt (ee80))
  have c206 : S159 6 = .inl (g.2 0, 5, .inl (cpF f76 1 0 2 1)) := (up_ne eS159 (by decide) (up_ne eS154 (by decide) (up_ne eS148 (by decide) (up_ne eS141 (by decide) (up_ne eS135 (by decide) (up_ne eS128 (by decide) c124))))))
  have q207 : elm (S159 6) 2 = v79.toInt := (elm_of c206 2).trans (congrArg Int32.toInt (((show cpF f76 1 0 2 1 2 = f76 0 from rfl).trans (ee80))))
  have q208 : elm (S159 6) 0 = v79.toInt := (elm_of c206 0).trans (congrArg Int32.toInt (((show cpF f76 1 0 2 1 0 = f76 0 from rfl).trans (ee80))))
  have q209 : elm (S 6) 1 = v85.toInt := (elm_of c77 1).trans (congrArg Int32.toInt (ee86))
  have q210 : elm (S159 6) 1 = v85.toInt := (elm_of c206 1).trans (congrArg Int32.toInt (((show cpF f76 1 0 2 1 1 = f76 1 from rfl).trans (ee86))))
  have q211 : elm (S 6) 3 = v88.toInt := (elm_of c77 3).trans (congrArg Int32.toInt (ee89))
  have q212 : elm (S159 6) 3 = v88.toInt := (elm_of c206 3).trans (congrArg Int32.toInt (((show cpF f76 1 0 2 1 3 = f76 3 from rfl).trans (ee89))))
  exact xrv E hr hlk hQ (⟨hI, (up_o (up_o (up_o (up_o (up_o (up_o (up_o o_refl eS123 (by decide)) eS128 (by decide)) eS135 (by decide)) eS141 (by decide)) eS148 (by decide)) eS154 (by decide)) eS159 (by decide)), ⟨by omega, by omega⟩, ⟨by omega, by omega⟩, ⟨by omega, by omega⟩, ⟨by omega, by omega⟩, ⟨by omega, by omega⟩, ⟨by omega, by omega⟩, ⟨by omega, by omega⟩, ⟨by omega, by omega⟩, ⟨by omega, by omega⟩, ⟨by omega, by omega⟩, ⟨by omega, by omega⟩, ⟨by omega, by omega⟩, ⟨by omega, by omega⟩, ⟨by omega, by omega⟩, ⟨by omega, by omega⟩, ⟨by omega, by omega⟩, ⟨by omega, by omega⟩, ⟨by omega, by omega⟩, ⟨by omega, by omega⟩, ⟨by omega, by omega⟩, ⟨by omega, by omega⟩, ⟨by omega, by omega⟩, ⟨by omega, by omega⟩, ⟨by omega, by omega⟩, ⟨by omega, by omega⟩, ⟨by omega, by omega⟩, ⟨by omega, by omega⟩, ⟨by omega, by omega⟩, (at_cpo c2 c92 c163 c160 b3.2.2.2.2.2.2.2 (by decide) hAT0), (at_cpo c2 c92 c163 c160 b3.2.2.2.2.2.2.2 (by decide) hAT1), (at_cpb c2 c92 c163 c160 b3.2.2.2.2.2.2.2 hAT0), (at_cpo c2 c92 c163 c160 b3.2.2.2.2.2.2.2 (by decide) hAT3)⟩) dX12_copyShore_76
set_option maxHeartbeats 4000000 in
set_option maxRecDepth 100000 in
theorem gX12_copyShore_0_3 (l : Launch) (g : GG) (ad : Nat → Nat) (hD : Dj ad 20) (S : SS) (hI : InvM g ad S) (hAT0 : ATp (S 7) (S 12) 0) (hAT1 : ATp (S 7) (S 12) 1) (hAT2 : ATp (S 7) (S 12) 2) (hAT3 : ATp (S 7) (S 12) 3) : Met l yX12_copyShore (wG (.code yX12_copyShore cX12_copyShore 3 none)) (Rm 1) (XPre g ad 20 S [.ref (ad 0), .int 0, .int 3]) (va_Qv (fun S' => InvM g ad S' ∧ (∀ j, j ∉ ([6, 7, 8, 9, 10, 11, 12] : List Nat) → S' j = S j) ∧ (0 ≤ elm (S 7) 0 + (-1) * elm (S' 7) 30 ∧ 0 ≤ elm (S' 7) 30 + (-1) * elm (S 7) 0) ∧ (0 ≤ elm (S 7) 1 + (-1) * elm (S' 7) 31 ∧ 0 ≤ elm (S' 7) 31 + (-1) * elm (S 7) 1) ∧ (0 ≤ elm (S 7) 3 + (-1) * elm (S' 7) 33 ∧ 0 ≤ elm (S' 7) 33 + (-1) * elm (S 7) 3) ∧ (0 ≤ elm (S 7) 6 + (-1) * elm (S' 7) 36 ∧ 0 ≤ elm (S' 7) 36 + (-1) * elm (S 7) 6) ∧ (0 ≤ elm (S 7) 8 + (-1) * elm (S' 7) 38 ∧ 0 ≤ elm (S' 7) 38 + (-1) * elm (S 7) 8) ∧ (0 ≤ elm (S 7) 9 + (-1) * elm (S' 7) 39 ∧ 0 ≤ elm (S' 7) 39 + (-1) * elm (S 7) 9) ∧ (0 ≤ elm (S 7) 0 + (-1) * elm (S' 7) 0 ∧ 0 ≤ elm (S' 7) 0 + (-1) * elm (S 7) 0) ∧ (0 ≤ elm (S 7) 1 + (-1) * elm (S' 7) 1 ∧ 0 ≤ elm (S' 7) 1 + (-1) * elm (S 7) 1) ∧ (0 ≤ elm (S 7) 3 + (-1) * elm (S' 7) 3 ∧ 0 ≤ elm (S' 7) 3 + (-1) * elm (S 7) 3) ∧ (0 ≤ elm (S 7) 6 + (-1) * elm (S' 7) 6 ∧ 0 ≤ elm (S' 7) 6 + (-1) * elm (S 7) 6) ∧ (0 ≤ elm (S 7) 8 + (-1) * elm (S' 7) 8 ∧ 0 ≤ elm (S' 7) 8 + (-1) * elm (S 7) 8) ∧ (0 ≤ elm (S 7) 9 + (-1) * elm (S' 7) 9 ∧ 0 ≤ elm (S' 7) 9 + (-1) * elm (S 7) 9) ∧ (0 ≤ elm (S 7) 10 + (-1) * elm (S' 7) 10 ∧ 0 ≤ elm (S' 7) 10 + (-1) * elm (S 7) 10) ∧ (0 ≤ elm (S 7) 11 + (-1) * elm (S' 7) 11 ∧ 0 ≤ elm (S' 7) 11 + (-1) * elm (S 7) 11) ∧ (0 ≤ elm (S 7) 13 + (-1) * elm (S' 7) 13 ∧ 0 ≤ elm (S' 7) 13 + (-1) * elm (S 7) 13) ∧ (0 ≤ elm (S 7) 16 + (-1) * elm (S' 7) 16 ∧ 0 ≤ elm (S' 7) 16 + (-1) * elm (S 7) 16) ∧ (0 ≤ elm (S 7) 18 + (-1) * elm (S' 7) 18 ∧ 0 ≤ elm (S' 7) 18 + (-1) * elm (S 7) 18) ∧ (0 ≤ elm (S 7) 19 + (-1) * elm (S' 7) 19 ∧ 0 ≤ elm (S' 7) 19 + (-1) * elm (S 7) 19) ∧ (0 ≤ elm (S 7) 20 + (-1) * elm (S' 7) 20 ∧ 0 ≤ elm (S' 7) 20 + (-1) * elm (S 7) 20) ∧ (0 ≤ elm (S 7) 21 + (-1) * elm (S' 7) 21 ∧ 0 ≤ elm (S' 7) 21 + (-1) * elm (S 7) 21) ∧ (0 ≤ elm (S 7) 23 + (-1) * elm (S' 7) 23 ∧ 0 ≤ elm (S' 7) 23 + (-1) * elm (S 7) 23) ∧ (0 ≤ elm (S 7) 26 + (-1) * elm (S' 7) 26 ∧ 0 ≤ elm (S' 7) 26 + (-1) * elm (S 7) 26) ∧ (0 ≤ elm (S 7) 28 + (-1) * elm (S' 7) 28 ∧ 0 ≤ elm (S' 7) 28 + (-1) * elm (S 7) 28) ∧ (0 ≤ elm (S 7) 29 + (-1) * elm (S' 7) 29 ∧ 0 ≤ elm (S' 7) 29 + (-1) * elm (S 7) 29) ∧ (0 ≤ elm (S 6) 0 + (-1) * elm (S' 6) 3 ∧ 0 ≤ elm (S' 6) 3 + (-1) * elm (S 6) 0) ∧ (0 ≤ elm (S 6) 0 + (-1) * elm (S' 6) 0 ∧ 0 ≤ elm (S' 6) 0 + (-1) * elm (S 6) 0) ∧ (0 ≤ elm (S 6) 1 + (-1) * elm (S' 6) 1 ∧ 0 ≤ elm (S' 6) 1 + (-1) * elm (S 6) 1) ∧ (0 ≤ elm (S 6) 2 + (-1) * elm (S' 6) 2 ∧ 0 ≤ elm (S' 6) 2 + (-1) * elm (S 6) 2) ∧ (ATp (S' 7) (S' 12) 0) ∧ (ATp (S' 7) (S' 12) 1) ∧ (ATp (S' 7) (S' 12) 2) ∧ (ATp (S' 7) (S' 12) 3)) (QB g ad 20) (FA ad 20)) 0 0 (FA ad 20) := by
  refine xmet cX12_copyShore "EbbWreckModel" (by decide) rfl (Nat.le_of_ble_eq_true rfl) (fun p e s m below meth c E hr hlk hml hQ ls hl => ?_)
  have hx := E.1
  have hb := E.2.1
  have hs : Sp ad 20 (FA ad 20) := Sp.fa hD
  have hl : lv_has ls 3 [(0, .ref (ad 0)), (1, .int 0), (2, .int 3)] := hl
  obtain ⟨f1, c2, b3⟩ := invM_7 hI
  obtain ⟨v4, ee5⟩ : ∃ z : Int32, f1 0 = z := ⟨_, rfl⟩
  have b6 : Bd v4 (0) (12) := (by rw [← ee5]; exact b3.1 0 (by decide))
  obtain ⟨v7, ee8⟩ : ∃ z : Int32, f1 30 = z := ⟨_, rfl⟩
  have b9 : Bd v7 (0) (12) := (by rw [← ee8]; exact b3.1 30 (by decide))
  obtain ⟨v10, ee11⟩ : ∃ z : Int32, f1 1 = z := ⟨_, rfl⟩
  have b12 : Bd v10 (0) (12) := (by rw [← ee11]; exact b3.2.1 1 (by decide))
  obtain ⟨v13, ee14⟩ : ∃ z : Int32, f1 31 = z := ⟨_, rfl⟩
  have b15 : Bd v13 (0) (12) := (by rw [← ee14]; exact b3.2.1 31 (by decide))
  obtain ⟨v16, ee17⟩ : ∃ z : Int32, f1 3 = z := ⟨_, rfl⟩
  have b18 : Bd v16 (0) (12) := (by rw [← ee17]; exact b3.2.2.2.1 3 (by decide))
  obtain ⟨v19, ee20⟩ : ∃ z : Int32, f1 33 = z := ⟨_, rfl⟩
  have b21 : Bd v19 (0) (12) := (by rw [← ee20]; exact b3.2.2.2.1 33 (by decide))
  obtain ⟨v22, ee23⟩ : ∃ z : Int32, f1 6 = z := ⟨_, rfl⟩
  have b24 : Bd v22 (0) (8) := (by rw [← ee23]; exact b3.2.2.2.2.1 6 (by decide))
  obtain ⟨v25, ee26⟩ : ∃ z : Int32, f1 36 = z := ⟨_, rfl⟩
  have b27 : Bd v25 (0) (8) := (by rw [← ee26]; exact b3.2.2.2.2.1 36 (by decide))
  obtain ⟨v28, ee29⟩ : ∃ z : Int32, f1 8 = z := ⟨_, rfl⟩
  have b30 : Bd v28 (0) (3) := (by rw [← ee29]; exact b3.2.2.2.2.2.2.1 8 (by decide))
  obtain ⟨v31, ee32⟩ : ∃ z : Int32, f1 38 = z := ⟨_, rfl⟩
  have b33 : Bd v31 (0) (3) := (by rw [← ee32]; exact b3.2.2.2.2.2.2.1 38 (by decide))
  obtain ⟨v34, ee35⟩ : ∃ z : Int32, f1 9 = z := ⟨_, rfl⟩
  have b36 : Bd v34 (0) (40) := (by rw [← ee35]; exact b3.2.2.2.2.2.2.2 9 (by decide))
  obtain ⟨v37, ee38⟩ : ∃ z : Int32, f1 39 = z := ⟨_, rfl⟩
  have b39 : Bd v37 (0) (40) := (by rw [← ee38]; exact b3.2.2.2.2.2.2.2 39 (by decide))
  obtain ⟨v40, ee41⟩ : ∃ z : Int32, f1 10 = z := ⟨_, rfl⟩
  have b42 : Bd v40 (0) (12) := (by rw [← ee41]; exact b3.1 10 (by decide))
  obtain ⟨v43, ee44⟩ : ∃ z : Int32, f1 11 = z := ⟨_, rfl⟩
  have b45 : Bd v43 (0) (12) := (by rw [← ee44]; exact b3.2.1 11 (by decide))
  obtain ⟨v46, ee47⟩ : ∃ z : Int32, f1 13 = z := ⟨_, rfl⟩
  have b48 : Bd v46 (0) (12) := (by rw [← ee47]; exact b3.2.2.2.1 13 (by decide))
  obtain ⟨v49, ee50⟩ : ∃ z : Int32, f1 16 = z := ⟨_, rfl⟩
  have b51 : Bd v49 (0) (8) := (by rw [← ee50]; exact b3.2.2.2.2.1 16 (by decide))
  obtain ⟨v52, ee53⟩ : ∃ z : Int32, f1 18 = z := ⟨_, rfl⟩
  have b54 : Bd v52 (0) (3) := (by rw [← ee53]; exact b3.2.2.2.2.2.2.1 18 (by decide))
  obtain ⟨v55, ee56⟩ : ∃ z : Int32, f1 19 = z := ⟨_, rfl⟩
  have b57 : Bd v55 (0) (40) := (by rw [← ee56]; exact b3.2.2.2.2.2.2.2 19 (by decide))
  obtain ⟨v58, ee59⟩ : ∃ z : Int32, f1 20 = z := ⟨_, rfl⟩
  have b60 : Bd v58 (0) (12) := (by rw [← ee59]; exact b3.1 20 (by decide))
  obtain ⟨v61, ee62⟩ : ∃ z : Int32, f1 21 = z := ⟨_, rfl⟩
  have b63 : Bd v61 (0) (12) := (by rw [← ee62]; exact b3.2.1 21 (by decide))
  obtain ⟨v64, ee65⟩ : ∃ z : Int32, f1 23 = z := ⟨_, rfl⟩
  have b66 : Bd v64 (0) (12) := (by rw [← ee65]; exact b3.2.2.2.1 23 (by decide))
  obtain ⟨v67, ee68⟩ : ∃ z : Int32, f1 26 = z := ⟨_, rfl⟩
  have b69 : Bd v67 (0) (8) := (by rw [← ee68]; exact b3.2.2.2.2.1 26 (by decide))
  obtain ⟨v70, ee71⟩ : ∃ z : Int32, f1 28 = z := ⟨_, rfl⟩
  have b72 : Bd v70 (0) (3) := (by rw [← ee71]; exact b3.2.2.2.2.2.2.1 28 (by decide))
  obtain ⟨v73, ee74⟩ : ∃ z : Int32, f1 29 = z := ⟨_, rfl⟩
  have b75 : Bd v73 (0) (40) := (by rw [← ee74]; exact b3.2.2.2.2.2.2.2 29 (by decide))
  obtain ⟨f76, c77, b78⟩ := invM_6 hI
  obtain ⟨v79, ee80⟩ : ∃ z : Int32, f76 0 = z := ⟨_, rfl⟩
  have b81 : Bd v79 (0) (40000) := (by rw [← ee80]; exact b78 0)
  obtain ⟨v82, ee83⟩ : ∃ z : Int32, f76 3 = z := ⟨_, rfl⟩
  have b84 : Bd v82 (0) (40000) := (by rw [← ee83]; exact b78 3)
  obtain ⟨v85, ee86⟩ : ∃ z : Int32, f76 1 = z := ⟨_, rfl⟩
  have b87 : Bd v85 (0) (40000) := (by rw [← ee86]; exact b78 1)
  obtain ⟨v88, ee89⟩ : ∃ z : Int32, f76 2 = z := ⟨_, rfl⟩
  have b90 : Bd v88 (0) (40000) := (by rw [← ee89]; exact b78 2)
  obtain ⟨f91, c92, b93⟩ := invM_12 hI
  refine lv_aload_n hx hb dX12_copyShore_0 rfl (lv_at hl 0 rfl) ?_
  obtain ⟨v94, v95, v97, v99, v101, v102, w103, v104, v106, v107, v108, v109, v111, v113, v115, v117, v119, v120, v121, c122, b96, b98, b100, b105, b110, b112, b114, b116, b118⟩ := invM_0 hI
  have c122 : S 0 = .inr (12, [.int v94, .ref (ad 1), .ref (ad 2), .ref (ad 3), .ref (ad 4), .ref (ad 5), .int v95, .int v97, .int v99, .int v101, .int v102, .long w103, .int v104, .int v106, .int v107, .int v108, .ref (ad 6), .ref (ad 7), .ref (ad 8), .ref (ad 9), .ref (ad 10), .ref (ad 11), .ref (ad 12), .ref (ad 13), .ref (ad 14), .ref (ad 15), .int v109, .int v111, .ref (ad 16), .int v113, .int v115, .int v117, .int v119, .int v120, .ref (ad 17), .ref (ad 18), .int v121, .ref (ad 19)]) := c122
  refine xget E hQ 0 (by decide) c122 rfl 16 (by decide) q1484 rfl dX12_copyShore_1 ?_
  refine lv_iconst (v := 1) hx hb dX12_copyShore_4 (by decide) ?_
  refine lv_iload_n hx hb dX12_copyShore_5 rfl (lv_at hl 1 rfl) ?_
  refine lv_iload_n hx hb dX12_copyShore_6 rfl (lv_at hl 2 rfl) ?_
  refine xcSv E hs hQ hml hl.1 (uCopyRow l g ad 20 hD S 6 (by decide) 5 (by decide) f76 1 0 3 (by decide) (by decide) (by decide) c77) mX12_copyRow q1743 rfl ⟨(Nat.le_of_ble_eq_true rfl), (Nat.le_of_ble_eq_true rfl)⟩ ⟨(Nat.le_of_ble_eq_true rfl), (Nat.le_of_ble_eq_true rfl)⟩ (Nat.le_of_ble_eq_true rfl) rfl dX12_copyShore_7 (fun S123 H locs eS123 hQ => ?_)
  have hI := invM_up_6 hI eS123 ⟨_, rfl, cp_b b78⟩
  have b125 : ∀ j, Bd ((cpF f76 1 0 3 1) j) (0) (40000) := cp_b b78
  have c124 : S123 6 = .inl (g.2 0, 5, .inl (cpF f76 1 0 3 1)) := up_at eS123 rfl
  refine lv_aload_n hx hb dX12_copyShore_10 rfl (lv_at hl 0 rfl) ?_
  have c126 : S123 0 = .inr (12, [.int v94, .ref (ad 1), .ref (ad 2), .ref (ad 3), .ref (ad 4), .ref (ad 5), .int v95, .int v97, .int v99, .int v101, .int v102, .long w103, .int v104, .int v106, .int v107, .int v108, .ref (ad 6), .ref (ad 7), .ref (ad 8), .ref (ad 9), .ref (ad 10), .ref (ad 11), .ref (ad 12), .ref (ad 13), .ref (ad 14), .ref (ad 15), .int v109, .int v111, .ref (ad 16), .int v113, .int v115, .int v117, .int v119, .int v120, .ref (ad 17), .ref (ad 18), .int v121, .ref (ad 19)]) := (up_ne eS123 (by decide) c122)
  refine xget E hQ 0 (by decide) c126 rfl 17 (by decide) q1485 rfl dX12_copyShore_11 ?_
  refine lv_bipush (v := 10) hx hb dX12_copyShore_14 (by decide) ?_
  refine lv_iload_n hx hb dX12_copyShore_16 rfl (lv_at hl 1 rfl) ?_
  refine lv_iload_n hx hb dX12_copyShore_17 rfl (lv_at hl 2 rfl) ?_
  have c127 : S123 7 = .inl (g.2 0, 50, .inl f1) := (up_ne eS123 (by decide) c2)
  refine xcSv E hs hQ hml hl.1 (uCopyRow l g ad 20 hD S123 7 (by decide) 50 (by decide) f1 10 0 3 (by decide) (by decide) (by decide) c127) mX12_copyRow q1743 rfl ⟨(Nat.le_of_ble_eq_true rfl), (Nat.le_of_ble_eq_true rfl)⟩ ⟨(Nat.le_of_ble_eq_true rfl), (Nat.le_of_ble_eq_true rfl)⟩ (Nat.le_of_ble_eq_true rfl) rfl dX12_copyShore_18 (fun S128 H locs eS128 hQ => ?_)
  have hI := invM_up_7 hI eS128 ⟨_, rfl, ⟨cp_m (q := 1) b3.1 (by decide), cp_m (q := 1) b3.2.1 (by decide), cp_m (q := 1) b3.2.2.1 (by decide), cp_m (q := 1) b3.2.2.2.1 (by decide), cp_m (q := 1) b3.2.2.2.2.1 (by decide), cp_m (q := 1) b3.2.2.2.2.2.1 (by decide), cp_m (q := 1) b3.2.2.2.2.2.2.1 (by decide), cp_m (q := 1) b3.2.2.2.2.2.2.2 (by decide)⟩⟩
  have b130 : (∀ j, j % 10 = 0 → Bd ((cpF f1 10 0 3 10) j) (0) (12)) ∧ (∀ j, j % 10 = 1 → Bd ((cpF f1 10 0 3 10) j) (0) (12)) ∧ (∀ j, j % 10 = 2 → Bd ((cpF f1 10 0 3 10) j) (0) (6)) ∧ (∀ j, j % 10 = 3 → Bd ((cpF f1 10 0 3 10) j) (0) (12)) ∧ (∀ j, j % 10 = 6 → Bd ((cpF f1 10 0 3 10) j) (0) (8)) ∧ (∀ j, j % 10 = 7 → Bd ((cpF f1 10 0 3 10) j) (0) (6)) ∧ (∀ j, j % 10 = 8 → Bd ((cpF f1 10 0 3 10) j) (0) (3)) ∧ (∀ j, j % 10 = 9 → Bd ((cpF f1 10 0 3 10) j) (0) (40)) := ⟨cp_m (q := 1) b3.1 (by decide), cp_m (q := 1) b3.2.1 (by decide), cp_m (q := 1) b3.2.2.1 (by decide), cp_m (q := 1) b3.2.2.2.1 (by decide), cp_m (q := 1) b3.2.2.2.2.1 (by decide), cp_m (q := 1) b3.2.2.2.2.2.1 (by decide), cp_m (q := 1) b3.2.2.2.2.2.2.1 (by decide), cp_m (q := 1) b3.2.2.2.2.2.2.2 (by decide)⟩
  have c129 : S128 7 = .inl (g.2 0, 50, .inl (cpF f1 10 0 3 10)) := up_at eS128 rfl
  refine lv_aload_n hx hb dX12_copyShore_21 rfl (lv_at hl 0 rfl) ?_
  have c131 : S128 0 = .inr (12, [.int v94, .ref (ad 1), .ref (ad 2), .ref (ad 3), .ref (ad 4), .ref (ad 5), .int v95, .int v97, .int v99, .int v101, .int v102, .long w103, .int v104, .int v106, .int v107, .int v108, .ref (ad 6), .ref (ad 7), .ref (ad 8), .ref (ad 9), .ref (ad 10), .ref (ad 11), .ref (ad 12), .ref (ad 13), .ref (ad 14), .ref (ad 15), .int v109, .int v111, .ref (ad 16), .int v113, .int v115, .int v117, .int v119, .int v120, .ref (ad 17), .ref (ad 18), .int v121, .ref (ad 19)]) := (up_ne eS128 (by decide) c126)
  refine xget E hQ 0 (by decide) c131 rfl 18 (by decide) q1486 rfl dX12_copyShore_22 ?_
  refine lv_bipush (v := 24) hx hb dX12_copyShore_25 (by decide) ?_
  refine lv_iload_n hx hb dX12_copyShore_27 rfl (lv_at hl 1 rfl) ?_
  refine lv_iload_n hx hb dX12_copyShore_28 rfl (lv_at hl 2 rfl) ?_
  obtain ⟨f132, c133⟩ := invM_8 hI
  refine xcSv E hs hQ hml hl.1 (uCopyRow l g ad 20 hD S128 8 (by decide) 120 (by decide) f132 24 0 3 (by decide) (by decide) (by decide) c133) mX12_copyRow q1743 rfl ⟨(Nat.le_of_ble_eq_true rfl), (Nat.le_of_ble_eq_true rfl)⟩ ⟨(Nat.le_of_ble_eq_true rfl), (Nat.le_of_ble_eq_true rfl)⟩ (Nat.le_of_ble_eq_true rfl) rfl dX12_copyShore_29 (fun S135 H locs eS135 hQ => ?_)
  have hI := invM_up_8 hI eS135 ⟨_, rfl⟩
  have c136 : S135 8 = .inl (g.2 0, 120, .inl (cpF f132 24 0 3 24)) := up_at eS135 rfl
  refine lv_aload_n hx hb dX12_copyShore_32 rfl (lv_at hl 0 rfl) ?_
  have c137 : S135 0 = .inr (12, [.int v94, .ref (ad 1), .ref (ad 2), .ref (ad 3), .ref (ad 4), .ref (ad 5), .int v95, .int v97, .int v99, .int v101, .int v102, .long w103, .int v104, .int v106, .int v107, .int v108, .ref (ad 6), .ref (ad 7), .ref (ad 8), .ref (ad 9), .ref (ad 10), .ref (ad 11), .ref (ad 12), .ref (ad 13), .ref (ad 14), .ref (ad 15), .int v109, .int v111, .ref (ad 16), .int v113, .int v115, .int v117, .int v119, .int v120, .ref (ad 17), .ref (ad 18), .int v121, .ref (ad 19)]) := (up_ne eS135 (by decide) c131)
  refine xget E hQ 0 (by decide) c137 rfl 19 (by decide) q1487 rfl dX12_copyShore_33 ?_
  refine lv_bipush (v := 24) hx hb dX12_copyShore_36 (by decide) ?_
  refine lv_iload_n hx hb dX12_copyShore_38 rfl (lv_at hl 1 rfl) ?_
  refine lv_iload_n hx hb dX12_copyShore_39 rfl (lv_at hl 2 rfl) ?_
  obtain ⟨f138, c139, b140⟩ := invM_9 hI
  refine xcSv E hs hQ hml hl.1 (uCopyRow l g ad 20 hD S135 9 (by decide) 120 (by decide) f138 24 0 3 (by decide) (by decide) (by decide) c139) mX12_copyRow q1743 rfl ⟨(Nat.le_of_ble_eq_true rfl), (Nat.le_of_ble_eq_true rfl)⟩ ⟨(Nat.le_of_ble_eq_true rfl), (Nat.le_of_ble_eq_true rfl)⟩ (Nat.le_of_ble_eq_true rfl) rfl dX12_copyShore_40 (fun S141 H locs eS141 hQ => ?_)
  have hI := invM_up_9 hI eS141 ⟨_, rfl, ⟨cp_m (q := 8) b140.1 (by decide), cp_m (q := 8) b140.2 (by decide)⟩⟩
  have b143 : (∀ j, j % 3 = 1 → Bd ((cpF f138 24 0 3 24) j) (0) (11)) ∧ (∀ j, j % 3 = 2 → Bd ((cpF f138 24 0 3 24) j) (0) (99)) := ⟨cp_m (q := 8) b140.1 (by decide), cp_m (q := 8) b140.2 (by decide)⟩
  have c142 : S141 9 = .inl (g.2 0, 120, .inl (cpF f138 24 0 3 24)) := up_at eS141 rfl
  refine lv_aload_n hx hb dX12_copyShore_43 rfl (lv_at hl 0 rfl) ?_
  have c144 : S141 0 = .inr (12, [.int v94, .ref (ad 1), .ref (ad 2), .ref (ad 3), .ref (ad 4), .ref (ad 5), .int v95, .int v97, .int v99, .int v101, .int v102, .long w103, .int v104, .int v106, .int v107, .int v108, .ref (ad 6), .ref (ad 7), .ref (ad 8), .ref (ad 9), .ref (ad 10), .ref (ad 11), .ref (ad 12), .ref (ad 13), .ref (ad 14), .ref (ad 15), .int v109, .int v111, .ref (ad 16), .int v113, .int v115, .int v117, .int v119, .int v120, .ref (ad 17), .ref (ad 18), .int v121, .ref (ad 19)]) := (up_ne eS141 (by decide) c137)
  refine xget E hQ 0 (by decide) c144 rfl 20 (by decide) q1488 rfl dX12_copyShore_44 ?_
  refine lv_bipush (v := 24) hx hb dX12_copyShore_47 (by decide) ?_
  refine lv_iload_n hx hb dX12_copyShore_49 rfl (lv_at hl 1 rfl) ?_
  refine lv_iload_n hx hb dX12_copyShore_50 rfl (lv_at hl 2 rfl) ?_
  obtain ⟨f145, c146⟩ := invM_10 hI
  refine xcSv E hs hQ hml hl.1 (uCopyRow l g ad 20 hD S141 10 (by decide) 120 (by decide) f145 24 0 3 (by decide) (by decide) (by decide) c146) mX12_copyRow q1743 rfl ⟨(Nat.le_of_ble_eq_true rfl), (Nat.le_of_ble_eq_true rfl)⟩ ⟨(Nat.le_of_ble_eq_true rfl), (Nat.le_of_ble_eq_true rfl)⟩ (Nat.le_of_ble_eq_true rfl) rfl dX12_copyShore_51 (fun S148 H locs eS148 hQ => ?_)
  have hI := invM_up_10 hI eS148 ⟨_, rfl⟩
  have c149 : S148 10 = .inl (g.2 0, 120, .inl (cpF f145 24 0 3 24)) := up_at eS148 rfl
  refine lv_aload_n hx hb dX12_copyShore_54 rfl (lv_at hl 0 rfl) ?_
  have c150 : S148 0 = .inr (12, [.int v94, .ref (ad 1), .ref (ad 2), .ref (ad 3), .ref (ad 4), .ref (ad 5), .int v95, .int v97, .int v99, .int v101, .int v102, .long w103, .int v104, .int v106, .int v107, .int v108, .ref (ad 6), .ref (ad 7), .ref (ad 8), .ref (ad 9), .ref (ad 10), .ref (ad 11), .ref (ad 12), .ref (ad 13), .ref (ad 14), .ref (ad 15), .int v109, .int v111, .ref (ad 16), .int v113, .int v115, .int v117, .int v119, .int v120, .ref (ad 17), .ref (ad 18), .int v121, .ref (ad 19)]) := (up_ne eS148 (by decide) c144)
  refine xget E hQ 0 (by decide) c150 rfl 21 (by decide) q1489 rfl dX12_copyShore_55 ?_
  refine lv_iconst (v := 3) hx hb dX12_copyShore_58 (by decide) ?_
  refine lv_iload_n hx hb dX12_copyShore_59 rfl (lv_at hl 1 rfl) ?_
  refine lv_iload_n hx hb dX12_copyShore_60 rfl (lv_at hl 2 rfl) ?_
  obtain ⟨f151, c152, b153⟩ := invM_11 hI
  refine xcSv E hs hQ hml hl.1 (uCopyRow l g ad 20 hD S148 11 (by decide) 15 (by decide) f151 3 0 3 (by decide) (by decide) (by decide) c152) mX12_copyRow q1743 rfl ⟨(Nat.le_of_ble_eq_true rfl), (Nat.le_of_ble_eq_true rfl)⟩ ⟨(Nat.le_of_ble_eq_true rfl), (Nat.le_of_ble_eq_true rfl)⟩ (Nat.le_of_ble_eq_true rfl) rfl dX12_copyShore_61 (fun S154 H locs eS154 hQ => ?_)
  have hI := invM_up_11 hI eS154 ⟨_, rfl, cp_b b153⟩
  have b156 : ∀ j, Bd ((cpF f151 3 0 3 3) j) (0) (11) := cp_b b153
  have c155 : S154 11 = .inl (g.2 0, 15, .inl (cpF f151 3 0 3 3)) := up_at eS154 rfl
  refine lv_aload_n hx hb dX12_copyShore_64 rfl (lv_at hl 0 rfl) ?_
  have c157 : S154 0 = .inr (12, [.int v94, .ref (ad 1), .ref (ad 2), .ref (ad 3), .ref (ad 4), .ref (ad 5), .int v95, .int v97, .int v99, .int v101, .int v102, .long w103, .int v104, .int v106, .int v107, .int v108, .ref (ad 6), .ref (ad 7), .ref (ad 8), .ref (ad 9), .ref (ad 10), .ref (ad 11), .ref (ad 12), .ref (ad 13), .ref (ad 14), .ref (ad 15), .int v109, .int v111, .ref (ad 16), .int v113, .int v115, .int v117, .int v119, .int v120, .ref (ad 17), .ref (ad 18), .int v121, .ref (ad 19)]) := (up_ne eS154 (by decide) c150)
  refine xget E hQ 0 (by decide) c157 rfl 22 (by decide) q1490 rfl dX12_copyShore_65 ?_
  refine lv_sipush (v := 160) hx hb dX12_copyShore_68 (by decide) ?_
  refine lv_iload_n hx hb dX12_copyShore_71 rfl (lv_at hl 1 rfl) ?_
  refine lv_iload_n hx hb dX12_copyShore_72 rfl (lv_at hl 2 rfl) ?_
  have c158 : S154 12 = .inl (g.2 0, 800, .inl f91) := (up_ne eS154 (by decide) (up_ne eS148 (by decide) (up_ne eS141 (by decide) (up_ne eS135 (by decide) (up_ne eS128 (by decide) (up_ne eS123 (by decide) c92))))))
  refine xcSv E hs hQ hml hl.1 (uCopyRow l g ad 20 hD S154 12 (by decide) 800 (by decide) f91 160 0 3 (by decide) (by decide) (by decide) c158) mX12_copyRow q1743 rfl ⟨(Nat.le_of_ble_eq_true rfl), (Nat.le_of_ble_eq_true rfl)⟩ ⟨(Nat.le_of_ble_eq_true rfl), (Nat.le_of_ble_eq_true rfl)⟩ (Nat.le_of_ble_eq_true rfl) rfl dX12_copyShore_73 (fun S159 H locs eS159 hQ => ?_)
  have hI := invM_up_12 hI eS159 ⟨_, rfl, ⟨cp_m (q := 40) b93.1 (by decide), cp_m (q := 40) b93.2 (by decide)⟩⟩
  have b161 : (∀ j, j % 4 = 1 → Bd ((cpF f91 160 0 3 160) j) (0) (7)) ∧ (∀ j, j % 4 = 2 → Bd ((cpF f91 160 0 3 160) j) (0) (400)) := ⟨cp_m (q := 40) b93.1 (by decide), cp_m (q := 40) b93.2 (by decide)⟩
  have c160 : S159 12 = .inl (g.2 0, 800, .inl (cpF f91 160 0 3 160)) := up_at eS159 rfl
  have q162 : elm (S 7) 0 = v4.toInt := (elm_of c2 0).trans (congrArg Int32.toInt (ee5))
  have c163 : S159 7 = .inl (g.2 0, 50, .inl (cpF f1 10 0 3 10)) := (up_ne eS159 (by decide) (up_ne eS154 (by decide) (up_ne eS148 (by decide) (up_ne eS141 (by decide) (up_ne eS135 (by decide) c129)))))
  have q164 : elm (S159 7) 30 = v4.toInt := (elm_of c163 30).trans (congrArg Int32.toInt (((show cpF f1 10 0 3 10 30 = f1 0 from rfl).trans (ee5))))
  have q165 : elm (S 7) 1 = v10.toInt := (elm_of c2 1).trans (congrArg Int32.toInt (ee11))
  have q166 : elm (S159 7) 31 = v10.toInt := (elm_of c163 31).trans (congrArg Int32.toInt (((show cpF f1 10 0 3 10 31 = f1 1 from rfl).trans (ee11))))
  have q167 : elm (S 7) 3 = v16.toInt := (elm_of c2 3).trans (congrArg Int32.toInt (ee17))
  have q168 : elm (S159 7) 33 = v16.toInt := (elm_of c163 33).trans (congrArg Int32.toInt (((show cpF f1 10 0 3 10 33 = f1 3 from rfl).trans (ee17))))
  have q169 : elm (S 7) 6 = v22.toInt := (elm_of c2 6).trans (congrArg Int32.toInt (ee23))
  have q170 : elm (S159 7) 36 = v22.toInt := (elm_of c163 36).trans (congrArg Int32.toInt (((show cpF f1 10 0 3 10 36 = f1 6 from rfl).trans (ee23))))
  have q171 : elm (S 7) 8 = v28.toInt := (elm_of c2 8).trans (congrArg Int32.toInt (ee29))
  have q172 : elm (S159 7) 38 = v28.toInt := (elm_of c163 38).trans (congrArg Int32.toInt (((show cpF f1 10 0 3 10 38 = f1 8 from rfl).trans (ee29))))
  have q173 : elm (S 7) 9 = v34.toInt := (elm_of c2 9).trans (congrArg Int32.toInt (ee35))
  have q174 : elm (S159 7) 39 = v34.toInt := (elm_of c163 39).trans (congrArg Int32.toInt (((show cpF f1 10 0 3 10 39 = f1 9 from rfl).trans (ee35))))
  have q175 : elm (S159 7) 0 = v4.toInt := (elm_of c163 0).trans (congrArg Int32.toInt (((show cpF f1 10 0 3 10 0 = f1 0 from rfl).trans (ee5))))
  have q176 : elm (S159 7) 1 = v10.toInt := (elm_of c163 1).trans (congrArg Int32.toInt (((show cpF f1 10 0 3 10 1 = f1 1 from rfl).trans (ee11))))
  have q177 : elm (S159 7) 3 = v16.toInt := (elm_of c163 3).trans (congrArg Int32.toInt (((show cpF f1 10 0 3 10 3 = f1 3 from rfl).trans (ee17))))
  have q178 : elm (S159 7) 6 = v22.toInt := (elm_of c163 6).trans (congrArg Int32.toInt (((show cpF f1 10 0 3 10 6 = f1 6 from rfl).trans (ee23))))
  have q179 : elm (S159 7) 8 = v28.toInt := (elm_of c163 8).trans (congrArg Int32.toInt (((show cpF f1 10 0 3 10 8 = f1 8 from rfl).trans (ee29))))
  have q180 : elm (S159 7) 9 = v34.toInt := (elm_of c163 9).trans (congrArg Int32.toInt (((show cpF f1 10 0 3 10 9 = f1 9 from rfl).trans (ee35))))
  have q181 : elm (S 7) 10 = v40.toInt := (elm_of c2 10).trans (congrArg Int32.toInt (ee41))
  have q182 : elm (S159 7) 10 = v40.toInt := (elm_of c163 10).trans (congrArg Int32.toInt (((show cpF f1 10 0 3 10 10 = f1 10 from rfl).trans (ee41))))
  have q183 : elm (S 7) 11 = v43.toInt := (elm_of c2 11).trans (congrArg Int32.toInt (ee44))
  have q184 : elm (S159 7) 11 = v43.toInt := (elm_of c163 11).trans (congrArg Int32.toInt (((show cpF f1 10 0 3 10 11 = f1 11 from rfl).trans (ee44))))
  have q185 : elm (S 7) 13 = v46.toInt := (elm_of c2 13).trans (congrArg Int32.toInt (ee47))
  have q186 : elm (S159 7) 13 = v46.toInt := (elm_of c163 13).trans (congrArg Int32.toInt (((show cpF f1 10 0 3 10 13 = f1 13 from rfl).trans (ee47))))
  have q187 : elm (S 7) 16 = v49.toInt := (elm_of c2 16).trans (congrArg Int32.toInt (ee50))
  have q188 : elm (S159 7) 16 = v49.toInt := (elm_of c163 16).trans (congrArg Int32.toInt (((show cpF f1 10 0 3 10 16 = f1 16 from rfl).trans (ee50))))
  have q189 : elm (S 7) 18 = v52.toInt := (elm_of c2 18).trans (congrArg Int32.toInt (ee53))
  have q190 : elm (S159 7) 18 = v52.toInt := (elm_of c163 18).trans (congrArg Int32.toInt (((show cpF f1 10 0 3 10 18 = f1 18 from rfl).trans (ee53))))
  have q191 : elm (S 7) 19 = v55.toInt := (elm_of c2 19).trans (congrArg Int32.toInt (ee56))
  have q192 : elm (S159 7) 19 = v55.toInt := (elm_of c163 19).trans (congrArg Int32.toInt (((show cpF f1 10 0 3 10 19 = f1 19 from rfl).trans (ee56))))
  have q193 : elm (S 7) 20 = v58.toInt := (elm_of c2 20).trans (congrArg Int32.toInt (ee59))
  have q194 : elm (S159 7) 20 = v58.toInt := (elm_of c163 20).trans (congrArg Int32.toInt (((show cpF f1 10 0 3 10 20 = f1 20 from rfl).trans (ee59))))
  have q195 : elm (S 7) 21 = v61.toInt := (elm_of c2 21).trans (congrArg Int32.toInt (ee62))
  have q196 : elm (S159 7) 21 = v61.toInt := (elm_of c163 21).trans (congrArg Int32.toInt (((show cpF f1 10 0 3 10 21 = f1 21 from rfl).trans (ee62))))
  have q197 : elm (S 7) 23 = v64.toInt := (elm_of c2 23).trans (congrArg Int32.toInt (ee65))
  have q198 : elm (S159 7) 23 = v64.toInt := (elm_of c163 23).trans (congrArg Int32.toInt (((show cpF f1 10 0 3 10 23 = f1 23 from rfl).trans (ee65))))
  have q199 : elm (S 7) 26 = v67.toInt := (elm_of c2 26).trans (congrArg Int32.toInt (ee68))
  have q200 : elm (S159 7) 26 = v67.toInt := (elm_of c163 26).trans (congrArg Int32.toInt (((show cpF f1 10 0 3 10 26 = f1 26 from rfl).trans (ee68))))
  have q201 : elm (S 7) 28 = v70.toInt := (elm_of c2 28).trans (congrArg Int32.toInt (ee71))
  have q202 : elm (S159 7) 28 = v70.toInt := (elm_of c163 28).trans (congrArg Int32.toInt (((show cpF f1 10 0 3 10 28 = f1 28 from rfl).trans (ee71))))
  have q203 : elm (S 7) 29 = v73.toInt := (elm_of c2 29).trans (congrArg Int32.toInt (ee74))
  have q204 : elm (S159 7) 29 = v73.toInt := (elm_of c163 29).trans (congrArg Int32.toInt (((show cpF f1 10 0 3 10 29 = f1 29 from rfl).trans (ee74))))
  have q205 : elm (S 6) 0 = v79.toInt := (elm_of c77 0).trans (congrArg Int32.toInt (ee80))
  have c206 : S159 6 = .inl (g.2 0, 5, .inl (cpF f76 1 0 3 1)) := (up_ne eS159 (by decide) (up_ne eS154 (by decide) (up_ne eS148 (by decide) (up_ne eS141 (by decide) (up_ne eS135 (by decide) (up_ne eS128 (by decide) c124))))))
  have q207 : elm (S159 6) 3 = v79.toInt := (elm_of c206 3).trans (congrArg Int32.toInt (((show cpF f76 1 0 3 1 3 = f76 0 from rfl).trans (ee80))))
  have q208 : elm (S159 6) 0 = v79.toInt := (elm_of c206 0).trans (congrArg Int32.toInt (((show cpF f76 1 0 3 1 0 = f76 0 from rfl).trans (ee80))))
  have q209 : elm (S 6) 1 = v85.toInt := (elm_of c77 1).trans (congrArg Int32.toInt (ee86))
  have q210 : elm (S159 6) 1 = v85.toInt := (elm_of c206 1).trans (congrArg Int32.toInt (((show cpF f76 1 0 3 1 1 = f76 1 from rfl).trans (ee86))))
  have q211 : elm (S 6) 2 = v88.toInt := (elm_of c77 2).trans (congrArg Int32.toInt (ee89))
  have q212 : elm (S159 6) 2 = v88.toInt := (elm_of c206 2).trans (congrArg Int32.toInt (((show cpF f76 1 0 3 1 2 = f76 2 from rfl).trans (ee89))))
  exact xrv E hr hlk hQ (⟨hI, (up_o (up_o (up_o (up_o (up_o (up_o (up_o o_refl eS123 (by decide)) eS128 (by decide)) eS135 (by decide)) eS141 (by decide)) eS148 (by decide)) eS154 (by decide)) eS159 (by decide)), ⟨by omega, by omega⟩, ⟨by omega, by omega⟩, ⟨by omega, by omega⟩, ⟨by omega, by omega⟩, ⟨by omega, by omega⟩, ⟨by omega, by omega⟩, ⟨by omega, by omega⟩, ⟨by omega, by omega⟩, ⟨by omega, by omega⟩, ⟨by omega, by omega⟩, ⟨by omega, by omega⟩, ⟨by omega, by omega⟩, ⟨by omega, by omega⟩, ⟨by omega, by omega⟩, ⟨by omega, by omega⟩, ⟨by omega, by omega⟩, ⟨by omega, by omega⟩, ⟨by omega, by omega⟩, ⟨by omega, by omega⟩, ⟨by omega, by omega⟩, ⟨by omega, by omega⟩, ⟨by omega, by omega⟩, ⟨by omega, by omega⟩, ⟨by omega, by omega⟩, ⟨by omega, by omega⟩, ⟨by omega, by omega⟩, ⟨by omega, by omega⟩, ⟨by omega, by omega⟩, (at_cpo c2 c92 c163 c160 b3.2.2.2.2.2.2.2 (by decide) hAT0), (at_cpo c2 c92 c163 c160 b3.2.2.2.2.2.2.2 (by decide) hAT1), (at_cpo c2 c92 c163 c160 b3.2.2.2.2.2.2.2 (by decide) hAT2), (at_cpb c2 c92 c163 c160 b3.2.2.2.2.2.2.2 hAT0)⟩) dX12_copyShore_76
set_option maxHeartbeats 4000000 in
set_option maxRecDepth 100000 in
theorem gX12_copyShore_1_0 (l : Launch) (g : GG) (ad : Nat → Nat) (hD : Dj ad 20) (S : SS) (hI : InvM g ad S) (hAT0 : ATp (S 7) (S 12) 0) (hAT1 : ATp (S 7) (S 12) 1) (hAT2 : ATp (S 7) (S 12) 2) (hAT3 : ATp (S 7) (S 12) 3) : Met l yX12_copyShore (wG (.code yX12_copyShore cX12_copyShore 3 none)) (Rm 1) (XPre g ad 20 S [.ref (ad 0), .int 1, .int 0]) (va_Qv (fun S' => InvM g ad S' ∧ (∀ j, j ∉ ([6, 7, 8, 9, 10, 11, 12] : List Nat) → S' j = S j) ∧ (0 ≤ elm (S 7) 10 + (-1) * elm (S' 7) 0 ∧ 0 ≤ elm (S' 7) 0 + (-1) * elm (S 7) 10) ∧ (0 ≤ elm (S 7) 11 + (-1) * elm (S' 7) 1 ∧ 0 ≤ elm (S' 7) 1 + (-1) * elm (S 7) 11) ∧ (0 ≤ elm (S 7) 13 + (-1) * elm (S' 7) 3 ∧ 0 ≤ elm (S' 7) 3 + (-1) * elm (S 7) 13) ∧ (0 ≤ elm (S 7) 16 + (-1) * elm (S' 7) 6 ∧ 0 ≤ elm (S' 7) 6 + (-1) * elm (S 7) 16) ∧ (0 ≤ elm (S 7) 18 + (-1) * elm (S' 7) 8 ∧ 0 ≤ elm (S' 7) 8 + (-1) * elm (S 7) 18) ∧ (0 ≤ elm (S 7) 19 + (-1) * elm (S' 7) 9 ∧ 0 ≤ elm (S' 7) 9 + (-1) * elm (S 7) 19) ∧ (0 ≤ elm (S 7) 10 + (-1) * elm (S' 7) 10 ∧ 0 ≤ elm (S' 7) 10 + (-1) * elm (S 7) 10) ∧ (0 ≤ elm (S 7) 11 + (-1) * elm (S' 7) 11 ∧ 0 ≤ elm (S' 7) 11 + (-1) * elm (S 7) 11) ∧ (0 ≤ elm (S 7) 13 + (-1) * elm (S' 7) 13 ∧ 0 ≤ elm (S' 7) 13 + (-1) * elm (S 7) 13) ∧ (0 ≤ elm (S 7) 16 + (-1) * elm (S' 7) 16 ∧ 0 ≤ elm (S' 7) 16 + (-1) * elm (S 7) 16) ∧ (0 ≤ elm (S 7) 18 + (-1) * elm (S' 7) 18 ∧ 0 ≤ elm (S' 7) 18 + (-1) * elm (S 7) 18) ∧ (0 ≤ elm (S 7) 19 + (-1) * elm (S' 7) 19 ∧ 0 ≤ elm (S' 7) 19 + (-1) * elm (S 7) 19) ∧ (0 ≤ elm (S 7) 20 + (-1) * elm (S' 7) 20 ∧ 0 ≤ elm (S' 7) 20 + (-1) * elm (S 7) 20) ∧ (0 ≤ elm (S 7) 21 + (-1) * elm (S' 7) 21 ∧ 0 ≤ elm (S' 7) 21 + (-1) * elm (S 7) 21) ∧ (0 ≤ elm (S 7) 23 + (-1) * elm (S' 7) 23 ∧ 0 ≤ elm (S' 7) 23 + (-1) * elm (S 7) 23) ∧ (0 ≤ elm (S 7) 26 + (-1) * elm (S' 7) 26 ∧ 0 ≤ elm (S' 7) 26 + (-1) * elm (S 7) 26) ∧ (0 ≤ elm (S 7) 28 + (-1) * elm (S' 7) 28 ∧ 0 ≤ elm (S' 7) 28 + (-1) * elm (S 7) 28) ∧ (0 ≤ elm (S 7) 29 + (-1) * elm (S' 7) 29 ∧ 0 ≤ elm (S' 7) 29 + (-1) * elm (S 7) 29) ∧ (0 ≤ elm (S 7) 30 + (-1) * elm (S' 7) 30 ∧ 0 ≤ elm (S' 7) 30 + (-1) * elm (S 7) 30) ∧ (0 ≤ elm (S 7) 31 + (-1) * elm (S' 7) 31 ∧ 0 ≤ elm (S' 7) 31 + (-1) * elm (S 7) 31) ∧ (0 ≤ elm (S 7) 33 + (-1) * elm (S' 7) 33 ∧ 0 ≤ elm (S' 7) 33 + (-1) * elm (S 7) 33) ∧ (0 ≤ elm (S 7) 36 + (-1) * elm (S' 7) 36 ∧ 0 ≤ elm (S' 7) 36 + (-1) * elm (S 7) 36) ∧ (0 ≤ elm (S 7) 38 + (-1) * elm (S' 7) 38 ∧ 0 ≤ elm (S' 7) 38 + (-1) * elm (S 7) 38) ∧ (0 ≤ elm (S 7) 39 + (-1) * elm (S' 7) 39 ∧ 0 ≤ elm (S' 7) 39 + (-1) * elm (S 7) 39) ∧ (0 ≤ elm (S 6) 1 + (-1) * elm (S' 6) 0 ∧ 0 ≤ elm (S' 6) 0 + (-1) * elm (S 6) 1) ∧ (0 ≤ elm (S 6) 1 + (-1) * elm (S' 6) 1 ∧ 0 ≤ elm (S' 6) 1 + (-1) * elm (S 6) 1) ∧ (0 ≤ elm (S 6) 2 + (-1) * elm (S' 6) 2 ∧ 0 ≤ elm (S' 6) 2 + (-1) * elm (S 6) 2) ∧ (0 ≤ elm (S 6) 3 + (-1) * elm (S' 6) 3 ∧ 0 ≤ elm (S' 6) 3 + (-1) * elm (S 6) 3) ∧ (ATp (S' 7) (S' 12) 0) ∧ (ATp (S' 7) (S' 12) 1) ∧ (ATp (S' 7) (S' 12) 2) ∧ (ATp (S' 7) (S' 12) 3)) (QB g ad 20) (FA ad 20)) 0 0 (FA ad 20) := by
  refine xmet cX12_copyShore "EbbWreckModel" (by decide) rfl (Nat.le_of_ble_eq_true rfl) (fun p e s m below meth c E hr hlk hml hQ ls hl => ?_)
  have hx := E.1
  have hb := E.2.1
  have hs : Sp ad 20 (FA ad 20) := Sp.fa hD
  have hl : lv_has ls 3 [(0, .ref (ad 0)), (1, .int 1), (2, .int 0)] := hl
  obtain ⟨f1, c2, b3⟩ := invM_7 hI
  obtain ⟨v4, ee5⟩ : ∃ z : Int32, f1 10 = z := ⟨_, rfl⟩
  have b6 : Bd v4 (0) (12) := (by rw [← ee5]; exact b3.1 10 (by decide))
  obtain ⟨v7, ee8⟩ : ∃ z : Int32, f1 0 = z := ⟨_, rfl⟩
  have b9 : Bd v7 (0) (12) := (by rw [← ee8]; exact b3.1 0 (by decide))
  obtain ⟨v10, ee11⟩ : ∃ z : Int32, f1 11 = z := ⟨_, rfl⟩
  have b12 : Bd v10 (0) (12) := (by rw [← ee11]; exact b3.2.1 11 (by decide))
  obtain ⟨v13, ee14⟩ : ∃ z : Int32, f1 1 = z := ⟨_, rfl⟩
  have b15 : Bd v13 (0) (12) := (by rw [← ee14]; exact b3.2.1 1 (by decide))
  obtain ⟨v16, ee17⟩ : ∃ z : Int32, f1 13 = z := ⟨_, rfl⟩
  have b18 : Bd v16 (0) (12) := (by rw [← ee17]; exact b3.2.2.2.1 13 (by decide))
  obtain ⟨v19, ee20⟩ : ∃ z : Int32, f1 3 = z := ⟨_, rfl⟩
  have b21 : Bd v19 (0) (12) := (by rw [← ee20]; exact b3.2.2.2.1 3 (by decide))
  obtain ⟨v22, ee23⟩ : ∃ z : Int32, f1 16 = z := ⟨_, rfl⟩
  have b24 : Bd v22 (0) (8) := (by rw [← ee23]; exact b3.2.2.2.2.1 16 (by decide))
  obtain ⟨v25, ee26⟩ : ∃ z : Int32, f1 6 = z := ⟨_, rfl⟩
  have b27 : Bd v25 (0) (8) := (by rw [← ee26]; exact b3.2.2.2.2.1 6 (by decide))
  obtain ⟨v28, ee29⟩ : ∃ z : Int32, f1 18 = z := ⟨_, rfl⟩
  have b30 : Bd v28 (0) (3) := (by rw [← ee29]; exact b3.2.2.2.2.2.2.1 18 (by decide))
  obtain ⟨v31, ee32⟩ : ∃ z : Int32, f1 8 = z := ⟨_, rfl⟩
  have b33 : Bd v31 (0) (3) := (by rw [← ee32]; exact b3.2.2.2.2.2.2.1 8 (by decide))
  obtain ⟨v34, ee35⟩ : ∃ z : Int32, f1 19 = z := ⟨_, rfl⟩
  have b36 : Bd v34 (0) (40) := (by rw [← ee35]; exact b3.2.2.2.2.2.2.2 19 (by decide))
  obtain ⟨v37, ee38⟩ : ∃ z : Int32, f1 9 = z := ⟨_, rfl⟩
  have b39 : Bd v37 (0) (40) := (by rw [← ee38]; exact b3.2.2.2.2.2.2.2 9 (by decide))
  obtain ⟨v40, ee41⟩ : ∃ z : Int32, f1 20 = z := ⟨_, rfl⟩
  have b42 : Bd v40 (0) (12) := (by rw [← ee41]; exact b3.1 20 (by decide))
  obtain ⟨v43, ee44⟩ : ∃ z : Int32, f1 21 = z := ⟨_, rfl⟩
  have b45 : Bd v43 (0) (12) := (by rw [← ee44]; exact b3.2.1 21 (by decide))
  obtain ⟨v46, ee47⟩ : ∃ z : Int32, f1 23 = z := ⟨_, rfl⟩
  have b48 : Bd v46 (0) (12) := (by rw [← ee47]; exact b3.2.2.2.1 23 (by decide))
  obtain ⟨v49, ee50⟩ : ∃ z : Int32, f1 26 = z := ⟨_, rfl⟩
  have b51 : Bd v49 (0) (8) := (by rw [← ee50]; exact b3.2.2.2.2.1 26 (by decide))
  obtain ⟨v52, ee53⟩ : ∃ z : Int32, f1 28 = z := ⟨_, rfl⟩
  have b54 : Bd v52 (0) (3) := (by rw [← ee53]; exact b3.2.2.2.2.2.2.1 28 (by decide))
  obtain ⟨v55, ee56⟩ : ∃ z : Int32, f1 29 = z := ⟨_, rfl⟩
  have b57 : Bd v55 (0) (40) := (by rw [← ee56]; exact b3.2.2.2.2.2.2.2 29 (by decide))
  obtain ⟨v58, ee59⟩ : ∃ z : Int32, f1 30 = z := ⟨_, rfl⟩
  have b60 : Bd v58 (0) (12) := (by rw [← ee59]; exact b3.1 30 (by decide))
  obtain ⟨v61, ee62⟩ : ∃ z : Int32, f1 31 = z := ⟨_, rfl⟩
  have b63 : Bd v61 (0) (12) := (by rw [← ee62]; exact b3.2.1 31 (by decide))
  obtain ⟨v64, ee65⟩ : ∃ z : Int32, f1 33 = z := ⟨_, rfl⟩
  have b66 : Bd v64 (0) (12) := (by rw [← ee65]; exact b3.2.2.2.1 33 (by decide))
  obtain ⟨v67, ee68⟩ : ∃ z : Int32, f1 36 = z := ⟨_, rfl⟩
  have b69 : Bd v67 (0) (8) := (by rw [← ee68]; exact b3.2.2.2.2.1 36 (by decide))
  obtain ⟨v70, ee71⟩ : ∃ z : Int32, f1 38 = z := ⟨_, rfl⟩
  have b72 : Bd v70 (0) (3) := (by rw [← ee71]; exact b3.2.2.2.2.2.2.1 38 (by decide))
  obtain ⟨v73, ee74⟩ : ∃ z : Int32, f1 39 = z := ⟨_, rfl⟩
  have b75 : Bd v73 (0) (40) := (by rw [← ee74]; exact b3.2.2.2.2.2.2.2 39 (by decide))
  obtain ⟨f76, c77, b78⟩ := invM_6 hI
  obtain ⟨v79, ee80⟩ : ∃ z : Int32, f76 1 = z := ⟨_, rfl⟩
  have b81 : Bd v79 (0) (40000) := (by rw [← ee80]; exact b78 1)
  obtain ⟨v82, ee83⟩ : ∃ z : Int32, f76 0 = z := ⟨_, rfl⟩
  have b84 : Bd v82 (0) (40000) := (by rw [← ee83]; exact b78 0)
  obtain ⟨v85, ee86⟩ : ∃ z : Int32, f76 2 = z := ⟨_, rfl⟩
  have b87 : Bd v85 (0) (40000) := (by rw [← ee86]; exact b78 2)
  obtain ⟨v88, ee89⟩ : ∃ z : Int32, f76 3 = z := ⟨_, rfl⟩
  have b90 : Bd v88 (0) (40000) := (by rw [← ee89]; exact b78 3)
  obtain ⟨f91, c92, b93⟩ := invM_12 hI
  refine lv_aload_n hx hb dX12_copyShore_0 rfl (lv_at hl 0 rfl) ?_
  obtain ⟨v94, v95, v97, v99, v101, v102, w103, v104, v106, v107, v108, v109, v111, v113, v115, v117, v119, v120, v121, c122, b96, b98, b100, b105, b110, b112, b114, b116, b118⟩ := invM_0 hI
  have c122 : S 0 = .inr (12, [.int v94, .ref (ad 1), .ref (ad 2), .ref (ad 3), .ref (ad 4), .ref (ad 5), .int v95, .int v97, .int v99, .int v101, .int v102, .long w103, .int v104, .int v106, .int v107, .int v108, .ref (ad 6), .ref (ad 7), .ref (ad 8), .ref (ad 9), .ref (ad 10), .ref (ad 11), .ref (ad 12), .ref (ad 13), .ref (ad 14), .ref (ad 15), .int v109, .int v111, .ref (ad 16), .int v113, .int v115, .int v117, .int v119, .int v120, .ref (ad 17), .ref (ad 18), .int v121, .ref (ad 19)]) := c122
  refine xget E hQ 0 (by decide) c122 rfl 16 (by decide) q1484 rfl dX12_copyShore_1 ?_
  refine lv_iconst (v := 1) hx hb dX12_copyShore_4 (by decide) ?_
  refine lv_iload_n hx hb dX12_copyShore_5 rfl (lv_at hl 1 rfl) ?_
  refine lv_iload_n hx hb dX12_copyShore_6 rfl (lv_at hl 2 rfl) ?_
  refine xcSv E hs hQ hml hl.1 (uCopyRow l g ad 20 hD S 6 (by decide) 5 (by decide) f76 1 1 0 (by decide) (by decide) (by decide) c77) mX12_copyRow q1743 rfl ⟨(Nat.le_of_ble_eq_true rfl), (Nat.le_of_ble_eq_true rfl)⟩ ⟨(Nat.le_of_ble_eq_true rfl), (Nat.le_of_ble_eq_true rfl)⟩ (Nat.le_of_ble_eq_true rfl) rfl dX12_copyShore_7 (fun S123 H locs eS123 hQ => ?_)
  have hI := invM_up_6 hI eS123 ⟨_, rfl, cp_b b78⟩
  have b125 : ∀ j, Bd ((cpF f76 1 1 0 1) j) (0) (40000) := cp_b b78
  have c124 : S123 6 = .inl (g.2 0, 5, .inl (cpF f76 1 1 0 1)) := up_at eS123 rfl
  refine lv_aload_n hx hb dX12_copyShore_10 rfl (lv_at hl 0 rfl) ?_
  have c126 : S123 0 = .inr (12, [.int v94, .ref (ad 1), .ref (ad 2), .ref (ad 3), .ref (ad 4), .ref (ad 5), .int v95, .int v97, .int v99, .int v101, .int v102, .long w103, .int v104, .int v106, .int v107, .int v108, .ref (ad 6), .ref (ad 7), .ref (ad 8), .ref (ad 9), .ref (ad 10), .ref (ad 11), .ref (ad 12), .ref (ad 13), .ref (ad 14), .ref (ad 15), .int v109, .int v111, .ref (ad 16), .int v113, .int v115, .int v117, .int v119, .int v120, .ref (ad 17), .ref (ad 18), .int v121, .ref (ad 19)]) := (up_ne eS123 (by decide) c122)
  refine xget E hQ 0 (by decide) c126 rfl 17 (by decide) q1485 rfl dX12_copyShore_11 ?_
  refine lv_bipush (v := 10) hx hb dX12_copyShore_14 (by decide) ?_
  refine lv_iload_n hx hb dX12_copyShore_16 rfl (lv_at hl 1 rfl) ?_
  refine lv_iload_n hx hb dX12_copyShore_17 rfl (lv_at hl 2 rfl) ?_
  have c127 : S123 7 = .inl (g.2 0, 50, .inl f1) := (up_ne eS123 (by decide) c2)
  refine xcSv E hs hQ hml hl.1 (uCopyRow l g ad 20 hD S123 7 (by decide) 50 (by decide) f1 10 1 0 (by decide) (by decide) (by decide) c127) mX12_copyRow q1743 rfl ⟨(Nat.le_of_ble_eq_true rfl), (Nat.le_of_ble_eq_true rfl)⟩ ⟨(Nat.le_of_ble_eq_true rfl), (Nat.le_of_ble_eq_true rfl)⟩ (Nat.le_of_ble_eq_true rfl) rfl dX12_copyShore_18 (fun S128 H locs eS128 hQ => ?_)
  have hI := invM_up_7 hI eS128 ⟨_, rfl, ⟨cp_m (q := 1) b3.1 (by decide), cp_m (q := 1) b3.2.1 (by decide), cp_m (q := 1) b3.2.2.1 (by decide), cp_m (q := 1) b3.2.2.2.1 (by decide), cp_m (q := 1) b3.2.2.2.2.1 (by decide), cp_m (q := 1) b3.2.2.2.2.2.1 (by decide), cp_m (q := 1) b3.2.2.2.2.2.2.1 (by decide), cp_m (q := 1) b3.2.2.2.2.2.2.2 (by decide)⟩⟩
  have b130 : (∀ j, j % 10 = 0 → Bd ((cpF f1 10 1 0 10) j) (0) (12)) ∧ (∀ j, j % 10 = 1 → Bd ((cpF f1 10 1 0 10) j) (0) (12)) ∧ (∀ j, j % 10 = 2 → Bd ((cpF f1 10 1 0 10) j) (0) (6)) ∧ (∀ j, j % 10 = 3 → Bd ((cpF f1 10 1 0 10) j) (0) (12)) ∧ (∀ j, j % 10 = 6 → Bd ((cpF f1 10 1 0 10) j) (0) (8)) ∧ (∀ j, j % 10 = 7 → Bd ((cpF f1 10 1 0 10) j) (0) (6)) ∧ (∀ j, j % 10 = 8 → Bd ((cpF f1 10 1 0 10) j) (0) (3)) ∧ (∀ j, j % 10 = 9 → Bd ((cpF f1 10 1 0 10) j) (0) (40)) := ⟨cp_m (q := 1) b3.1 (by decide), cp_m (q := 1) b3.2.1 (by decide), cp_m (q := 1) b3.2.2.1 (by decide), cp_m (q := 1) b3.2.2.2.1 (by decide), cp_m (q := 1) b3.2.2.2.2.1 (by decide), cp_m (q := 1) b3.2.2.2.2.2.1 (by decide), cp_m (q := 1) b3.2.2.2.2.2.2.1 (by decide), cp_m (q := 1) b3.2.2.2.2.2.2.2 (by decide)⟩
  have c129 : S128 7 = .inl (g.2 0, 50, .inl (cpF f1 10 1 0 10)) := up_at eS128 rfl
  refine lv_aload_n hx hb dX12_copyShore_21 rfl (lv_at hl 0 rfl) ?_
  have c131 : S128 0 = .inr (12, [.int v94, .ref (ad 1), .ref (ad 2), .ref (ad 3), .ref (ad 4), .ref (ad 5), .int v95, .int v97, .int v99, .int v101, .int v102, .long w103, .int v104, .int v106, .int v107, .int v108, .ref (ad 6), .ref (ad 7), .ref (ad 8), .ref (ad 9), .ref (ad 10), .ref (ad 11), .ref (ad 12), .ref (ad 13), .ref (ad 14), .ref (ad 15), .int v109, .int v111, .ref (ad 16), .int v113, .int v115, .int v117, .int v119, .int v120, .ref (ad 17), .ref (ad 18), .int v121, .ref (ad 19)]) := (up_ne eS128 (by decide) c126)
  refine xget E hQ 0 (by decide) c131 rfl 18 (by decide) q1486 rfl dX12_copyShore_22 ?_
  refine lv_bipush (v := 24) hx hb dX12_copyShore_25 (by decide) ?_
  refine lv_iload_n hx hb dX12_copyShore_27 rfl (lv_at hl 1 rfl) ?_
  refine lv_iload_n hx hb dX12_copyShore_28 rfl (lv_at hl 2 rfl) ?_
  obtain ⟨f132, c133⟩ := invM_8 hI
  refine xcSv E hs hQ hml hl.1 (uCopyRow l g ad 20 hD S128 8 (by decide) 120 (by decide) f132 24 1 0 (by decide) (by decide) (by decide) c133) mX12_copyRow q1743 rfl ⟨(Nat.le_of_ble_eq_true rfl), (Nat.le_of_ble_eq_true rfl)⟩ ⟨(Nat.le_of_ble_eq_true rfl), (Nat.le_of_ble_eq_true rfl)⟩ (Nat.le_of_ble_eq_true rfl) rfl dX12_copyShore_29 (fun S135 H locs eS135 hQ => ?_)
  have hI := invM_up_8 hI eS135 ⟨_, rfl⟩
  have c136 : S135 8 = .inl (g.2 0, 120, .inl (cpF f132 24 1 0 24)) := up_at eS135 rfl
  refine lv_aload_n hx hb dX12_copyShore_32 rfl (lv_at hl 0 rfl) ?_
  have c137 : S135 0 = .inr (12, [.int v94, .ref (ad 1), .ref (ad 2), .ref (ad 3), .ref (ad 4), .ref (ad 5), .int v95, .int v97, .int v99, .int v101, .int v102, .long w103, .int v104, .int v106, .int v107, .int v108, .ref (ad 6), .ref (ad 7), .ref (ad 8), .ref (ad 9), .ref (ad 10), .ref (ad 11), .ref (ad 12), .ref (ad 13), .ref (ad 14), .ref (ad 15), .int v109, .int v111, .ref (ad 16), .int v113, .int v115, .int v117, .int v119, .int v120, .ref (ad 17), .ref (ad 18), .int v121, .ref (ad 19)]) := (up_ne eS135 (by decide) c131)
  refine xget E hQ 0 (by decide) c137 rfl 19 (by decide) q1487 rfl dX12_copyShore_33 ?_
  refine lv_bipush (v := 24) hx hb dX12_copyShore_36 (by decide) ?_
  refine lv_iload_n hx hb dX12_copyShore_38 rfl (lv_at hl 1 rfl) ?_
  refine lv_iload_n hx hb dX12_copyShore_39 rfl (lv_at hl 2 rfl) ?_
  obtain ⟨f138, c139, b140⟩ := invM_9 hI
  refine xcSv E hs hQ hml hl.1 (uCopyRow l g ad 20 hD S135 9 (by decide) 120 (by decide) f138 24 1 0 (by decide) (by decide) (by decide) c139) mX12_copyRow q1743 rfl ⟨(Nat.le_of_ble_eq_true rfl), (Nat.le_of_ble_eq_true rfl)⟩ ⟨(Nat.le_of_ble_eq_true rfl), (Nat.le_of_ble_eq_true rfl)⟩ (Nat.le_of_ble_eq_true rfl) rfl dX12_copyShore_40 (fun S141 H locs eS141 hQ => ?_)
  have hI := invM_up_9 hI eS141 ⟨_, rfl, ⟨cp_m (q := 8) b140.1 (by decide), cp_m (q := 8) b140.2 (by decide)⟩⟩
  have b143 : (∀ j, j % 3 = 1 → Bd ((cpF f138 24 1 0 24) j) (0) (11)) ∧ (∀ j, j % 3 = 2 → Bd ((cpF f138 24 1 0 24) j) (0) (99)) := ⟨cp_m (q := 8) b140.1 (by decide), cp_m (q := 8) b140.2 (by decide)⟩
  have c142 : S141 9 = .inl (g.2 0, 120, .inl (cpF f138 24 1 0 24)) := up_at eS141 rfl
  refine lv_aload_n hx hb dX12_copyShore_43 rfl (lv_at hl 0 rfl) ?_
  have c144 : S141 0 = .inr (12, [.int v94, .ref (ad 1), .ref (ad 2), .ref (ad 3), .ref (ad 4), .ref (ad 5), .int v95, .int v97, .int v99, .int v101, .int v102, .long w103, .int v104, .int v106, .int v107, .int v108, .ref (ad 6), .ref (ad 7), .ref (ad 8), .ref (ad 9), .ref (ad 10), .ref (ad 11), .ref (ad 12), .ref (ad 13), .ref (ad 14), .ref (ad 15), .int v109, .int v111, .ref (ad 16), .int v113, .int v115, .int v117, .int v119, .int v120, .ref (ad 17), .ref (ad 18), .int v121, .ref (ad 19)]) := (up_ne eS141 (by decide) c137)
  refine xget E hQ 0 (by decide) c144 rfl 20 (by decide) q1488 rfl dX12_copyShore_44 ?_
  refine lv_bipush (v := 24) hx hb dX12_copyShore_47 (by decide) ?_
  refine lv_iload_n hx hb dX12_copyShore_49 rfl (lv_at hl 1 rfl) ?_
  refine lv_iload_n hx hb dX12_copyShore_50 rfl (lv_at hl 2 rfl) ?_
  obtain ⟨f145, c146⟩ := invM_10 hI
  refine xcSv E hs hQ hml hl.1 (uCopyRow l g ad 20 hD S141 10 (by decide) 120 (by decide) f145 24 1 0 (by decide) (by decide) (by decide) c146) mX12_copyRow q1743 rfl ⟨(Nat.le_of_ble_eq_true rfl), (Nat.le_of_ble_eq_true rfl)⟩ ⟨(Nat.le_of_ble_eq_true rfl), (Nat.le_of_ble_eq_true rfl)⟩ (Nat.le_of_ble_eq_true rfl) rfl dX12_copyShore_51 (fun S148 H locs eS148 hQ => ?_)
  have hI := invM_up_10 hI eS148 ⟨_, rfl⟩
  have c149 : S148 10 = .inl (g.2 0, 120, .inl (cpF f145 24 1 0 24)) := up_at eS148 rfl
  refine lv_aload_n hx hb dX12_copyShore_54 rfl (lv_at hl 0 rfl) ?_
  have c150 : S148 0 = .inr (12, [.int v94, .ref (ad 1), .ref (ad 2), .ref (ad 3), .ref (ad 4), .ref (ad 5), .int v95, .int v97, .int v99, .int v101, .int v102, .long w103, .int v104, .int v106, .int v107, .int v108, .ref (ad 6), .ref (ad 7), .ref (ad 8), .ref (ad 9), .ref (ad 10), .ref (ad 11), .ref (ad 12), .ref (ad 13), .ref (ad 14), .ref (ad 15), .int v109, .int v111, .ref (ad 16), .int v113, .int v115, .int v117, .int v119, .int v120, .ref (ad 17), .ref (ad 18), .int v121, .ref (ad 19)]) := (up_ne eS148 (by decide) c144)
  refine xget E hQ 0 (by decide) c150 rfl 21 (by decide) q1489 rfl dX12_copyShore_55 ?_
  refine lv_iconst (v := 3) hx hb dX12_copyShore_58 (by decide) ?_
  refine lv_iload_n hx hb dX12_copyShore_59 rfl (lv_at hl 1 rfl) ?_
  refine lv_iload_n hx hb dX12_copyShore_60 rfl (lv_at hl 2 rfl) ?_
  obtain ⟨f151, c152, b153⟩ := invM_11 hI
  refine xcSv E hs hQ hml hl.1 (uCopyRow l g ad 20 hD S148 11 (by decide) 15 (by decide) f151 3 1 0 (by decide) (by decide) (by decide) c152) mX12_copyRow q1743 rfl ⟨(Nat.le_of_ble_eq_true rfl), (Nat.le_of_ble_eq_true rfl)⟩ ⟨(Nat.le_of_ble_eq_true rfl), (Nat.le_of_ble_eq_true rfl)⟩ (Nat.le_of_ble_eq_true rfl) rfl dX12_copyShore_61 (fun S154 H locs eS154 hQ => ?_)
  have hI := invM_up_11 hI eS154 ⟨_, rfl, cp_b b153⟩
  have b156 : ∀ j, Bd ((cpF f151 3 1 0 3) j) (0) (11) := cp_b b153
  have c155 : S154 11 = .inl (g.2 0, 15, .inl (cpF f151 3 1 0 3)) := up_at eS154 rfl
  refine lv_aload_n hx hb dX12_copyShore_64 rfl (lv_at hl 0 rfl) ?_
  have c157 : S154 0 = .inr (12, [.int v94, .ref (ad 1), .ref (ad 2), .ref (ad 3), .ref (ad 4), .ref (ad 5), .int v95, .int v97, .int v99, .int v101, .int v102, .long w103, .int v104, .int v106, .int v107, .int v108, .ref (ad 6), .ref (ad 7), .ref (ad 8), .ref (ad 9), .ref (ad 10), .ref (ad 11), .ref (ad 12), .ref (ad 13), .ref (ad 14), .ref (ad 15), .int v109, .int v111, .ref (ad 16), .int v113, .int v115, .int v117, .int v119, .int v120, .ref (ad 17), .ref (ad 18), .int v121, .ref (ad 19)]) := (up_ne eS154 (by decide) c150)
  refine xget E hQ 0 (by decide) c157 rfl 22 (by decide) q1490 rfl dX12_copyShore_65 ?_
  refine lv_sipush (v := 160) hx hb dX12_copyShore_68 (by decide) ?_
  refine lv_iload_n hx hb dX12_copyShore_71 rfl (lv_at hl 1 rfl) ?_
  refine lv_iload_n hx hb dX12_copyShore_72 rfl (lv_at hl 2 rfl) ?_
  have c158 : S154 12 = .inl (g.2 0, 800, .inl f91) := (up_ne eS154 (by decide) (up_ne eS148 (by decide) (up_ne eS141 (by decide) (up_ne eS135 (by decide) (up_ne eS128 (by decide) (up_ne eS123 (by decide) c92))))))
  refine xcSv E hs hQ hml hl.1 (uCopyRow l g ad 20 hD S154 12 (by decide) 800 (by decide) f91 160 1 0 (by decide) (by decide) (by decide) c158) mX12_copyRow q1743 rfl ⟨(Nat.le_of_ble_eq_true rfl), (Nat.le_of_ble_eq_true rfl)⟩ ⟨(Nat.le_of_ble_eq_true rfl), (Nat.le_of_ble_eq_true rfl)⟩ (Nat.le_of_ble_eq_true rfl) rfl dX12_copyShore_73 (fun S159 H locs eS159 hQ => ?_)
  have hI := invM_up_12 hI eS159 ⟨_, rfl, ⟨cp_m (q := 40) b93.1 (by decide), cp_m (q := 40) b93.2 (by decide)⟩⟩
  have b161 : (∀ j, j % 4 = 1 → Bd ((cpF f91 160 1 0 160) j) (0) (7)) ∧ (∀ j, j % 4 = 2 → Bd ((cpF f91 160 1 0 160) j) (0) (400)) := ⟨cp_m (q := 40) b93.1 (by decide), cp_m (q := 40) b93.2 (by decide)⟩
  have c160 : S159 12 = .inl (g.2 0, 800, .inl (cpF f91 160 1 0 160)) := up_at eS159 rfl
  have q162 : elm (S 7) 10 = v4.toInt := (elm_of c2 10).trans (congrArg Int32.toInt (ee5))
  have c163 : S159 7 = .inl (g.2 0, 50, .inl (cpF f1 10 1 0 10)) := (up_ne eS159 (by decide) (up_ne eS154 (by decide) (up_ne eS148 (by decide) (up_ne eS141 (by decide) (up_ne eS135 (by decide) c129)))))
  have q164 : elm (S159 7) 0 = v4.toInt := (elm_of c163 0).trans (congrArg Int32.toInt (((show cpF f1 10 1 0 10 0 = f1 10 from rfl).trans (ee5))))
  have q165 : elm (S 7) 11 = v10.toInt := (elm_of c2 11).trans (congrArg Int32.toInt (ee11))
  have q166 : elm (S159 7) 1 = v10.toInt := (elm_of c163 1).trans (congrArg Int32.toInt (((show cpF f1 10 1 0 10 1 = f1 11 from rfl).trans (ee11))))
  have q167 : elm (S 7) 13 = v16.toInt := (elm_of c2 13).trans (congrArg Int32.toInt (ee17))
  have q168 : elm (S159 7) 3 = v16.toInt := (elm_of c163 3).trans (congrArg Int32.toInt (((show cpF f1 10 1 0 10 3 = f1 13 from rfl).trans (ee17))))
  have q169 : elm (S 7) 16 = v22.toInt := (elm_of c2 16).trans (congrArg Int32.toInt (ee23))
  have q170 : elm (S159 7) 6 = v22.toInt := (elm_of c163 6).trans (congrArg Int32.toInt (((show cpF f1 10 1 0 10 6 = f1 16 from rfl).trans (ee23))))
  have q171 : elm (S 7) 18 = v28.toInt := (elm_of c2 18).trans (congrArg Int32.toInt (ee29))
  have q172 : elm (S159 7) 8 = v28.toInt := (elm_of c163 8).trans (congrArg Int32.toInt (((show cpF f1 10 1 0 10 8 = f1 18 from rfl).trans (ee29))))
  have q173 : elm (S 7) 19 = v34.toInt := (elm_of c2 19).trans (congrArg Int32.toInt (ee35))
  have q174 : elm (S159 7) 9 = v34.toInt := (elm_of c163 9).trans (congrArg Int32.toInt (((show cpF f1 10 1 0 10 9 = f1 19 from rfl).trans (ee35))))
  have q175 : elm (S159 7) 10 = v4.toInt := (elm_of c163 10).trans (congrArg Int32.toInt (((show cpF f1 10 1 0 10 10 = f1 10 from rfl).trans (ee5))))
  have q176 : elm (S159 7) 11 = v10.toInt := (elm_of c163 11).trans (congrArg Int32.toInt (((show cpF f1 10 1 0 10 11 = f1 11 from rfl).trans (ee11))))
  have q177 : elm (S159 7) 13 = v16.toInt := (elm_of c163 13).trans (congrArg Int32.toInt (((show cpF f1 10 1 0 10 13 = f1 13 from rfl).trans (ee17))))
  have q178 : elm (S159 7) 16 = v22.toInt := (elm_of c163 16).trans (congrArg Int32.toInt (((show cpF f1 10 1 0 10 16 = f1 16 from rfl).trans (ee23))))
  have q179 : elm (S159 7) 18 = v28.toInt := (elm_of c163 18).trans (congrArg Int32.toInt (((show cpF f1 10 1 0 10 18 = f1 18 from rfl).trans (ee29))))
  have q180 : elm (S159 7) 19 = v34.toInt := (elm_of c163 19).trans (congrArg Int32.toInt (((show cpF f1 10 1 0 10 19 = f1 19 from rfl).trans (ee35))))
  have q181 : elm (S 7) 20 = v40.toInt := (elm_of c2 20).trans (congrArg Int32.toInt (ee41))
  have q182 : elm (S159 7) 20 = v40.toInt := (elm_of c163 20).trans (congrArg Int32.toInt (((show cpF f1 10 1 0 10 20 = f1 20 from rfl).trans (ee41))))
  have q183 : elm (S 7) 21 = v43.toInt := (elm_of c2 21).trans (congrArg Int32.toInt (ee44))
  have q184 : elm (S159 7) 21 = v43.toInt := (elm_of c163 21).trans (congrArg Int32.toInt (((show cpF f1 10 1 0 10 21 = f1 21 from rfl).trans (ee44))))
  have q185 : elm (S 7) 23 = v46.toInt := (elm_of c2 23).trans (congrArg Int32.toInt (ee47))
  have q186 : elm (S159 7) 23 = v46.toInt := (elm_of c163 23).trans (congrArg Int32.toInt (((show cpF f1 10 1 0 10 23 = f1 23 from rfl).trans (ee47))))
  have q187 : elm (S 7) 26 = v49.toInt := (elm_of c2 26).trans (congrArg Int32.toInt (ee50))
  have q188 : elm (S159 7) 26 = v49.toInt := (elm_of c163 26).trans (congrArg Int32.toInt (((show cpF f1 10 1 0 10 26 = f1 26 from rfl).trans (ee50))))
  have q189 : elm (S 7) 28 = v52.toInt := (elm_of c2 28).trans (congrArg Int32.toInt (ee53))
  have q190 : elm (S159 7) 28 = v52.toInt := (elm_of c163 28).trans (congrArg Int32.toInt (((show cpF f1 10 1 0 10 28 = f1 28 from rfl).trans (ee53))))
  have q191 : elm (S 7) 29 = v55.toInt := (elm_of c2 29).trans (congrArg Int32.toInt (ee56))
  have q192 : elm (S159 7) 29 = v55.toInt := (elm_of c163 29).trans (congrArg Int32.toInt (((show cpF f1 10 1 0 10 29 = f1 29 from rfl).trans (ee56))))
  have q193 : elm (S 7) 30 = v58.toInt := (elm_of c2 30).trans (congrArg Int32.toInt (ee59))
  have q194 : elm (S159 7) 30 = v58.toInt := (elm_of c163 30).trans (congrArg Int32.toInt (((show cpF f1 10 1 0 10 30 = f1 30 from rfl).trans (ee59))))
  have q195 : elm (S 7) 31 = v61.toInt := (elm_of c2 31).trans (congrArg Int32.toInt (ee62))
  have q196 : elm (S159 7) 31 = v61.toInt := (elm_of c163 31).trans (congrArg Int32.toInt (((show cpF f1 10 1 0 10 31 = f1 31 from rfl).trans (ee62))))
  have q197 : elm (S 7) 33 = v64.toInt := (elm_of c2 33).trans (congrArg Int32.toInt (ee65))
  have q198 : elm (S159 7) 33 = v64.toInt := (elm_of c163 33).trans (congrArg Int32.toInt (((show cpF f1 10 1 0 10 33 = f1 33 from rfl).trans (ee65))))
  have q199 : elm (S 7) 36 = v67.toInt := (elm_of c2 36).trans (congrArg Int32.toInt (ee68))
  have q200 : elm (S159 7) 36 = v67.toInt := (elm_of c163 36).trans (congrArg Int32.toInt (((show cpF f1 10 1 0 10 36 = f1 36 from rfl).trans (ee68))))
  have q201 : elm (S 7) 38 = v70.toInt := (elm_of c2 38).trans (congrArg Int32.toInt (ee71))
  have q202 : elm (S159 7) 38 = v70.toInt := (elm_of c163 38).trans (congrArg Int32.toInt (((show cpF f1 10 1 0 10 38 = f1 38 from rfl).trans (ee71))))
  have q203 : elm (S 7) 39 = v73.toInt := (elm_of c2 39).trans (congrArg Int32.toInt (ee74))
  have q204 : elm (S159 7) 39 = v73.toInt := (elm_of c163 39).trans (congrArg Int32.toInt (((show cpF f1 10 1 0 10 39 = f1 39 from rfl).trans (ee74))))
  have q205 : elm (S 6) 1 = v79.toInt := (elm_of c77 1).trans (congrArg Int32.toInt (ee80))
  have c206 : S159 6 = .inl (g.2 0, 5, .inl (cpF f76 1 1 0 1)) := (up_ne eS159 (by decide) (up_ne eS154 (by decide) (up_ne eS148 (by decide) (up_ne eS141 (by decide) (up_ne eS135 (by decide) (up_ne eS128 (by decide) c124))))))
  have q207 : elm (S159 6) 0 = v79.toInt := (elm_of c206 0).trans (congrArg Int32.toInt (((show cpF f76 1 1 0 1 0 = f76 1 from rfl).trans (ee80))))
  have q208 : elm (S159 6) 1 = v79.toInt := (elm_of c206 1).trans (congrArg Int32.toInt (((show cpF f76 1 1 0 1 1 = f76 1 from rfl).trans (ee80))))
  have q209 : elm (S 6) 2 = v85.toInt := (elm_of c77 2).trans (congrArg Int32.toInt (ee86))
  have q210 : elm (S159 6) 2 = v85.toInt := (elm_of c206 2).trans (congrArg Int32.toInt (((show cpF f76 1 1 0 1 2 = f76 2 from rfl).trans (ee86))))
  have q211 : elm (S 6) 3 = v88.toInt := (elm_of c77 3).trans (congrArg Int32.toInt (ee89))
  have q212 : elm (S159 6) 3 = v88.toInt := (elm_of c206 3).trans (congrArg Int32.toInt (((show cpF f76 1 1 0 1 3 = f76 3 from rfl).trans (ee89))))
  exact xrv E hr hlk hQ (⟨hI, (up_o (up_o (up_o (up_o (up_o (up_o (up_o o_refl eS123 (by decide)) eS128 (by decide)) eS135 (by decide)) eS141 (by decide)) eS148 (by decide)) eS154 (by decide)) eS159 (by decide)), ⟨by omega, by omega⟩, ⟨by omega, by omega⟩, ⟨by omega, by omega⟩, ⟨by omega, by omega⟩, ⟨by omega, by omega⟩, ⟨by omega, by omega⟩, ⟨by omega, by omega⟩, ⟨by omega, by omega⟩, ⟨by omega, by omega⟩, ⟨by omega, by omega⟩, ⟨by omega, by omega⟩, ⟨by omega, by omega⟩, ⟨by omega, by omega⟩, ⟨by omega, by omega⟩, ⟨by omega, by omega⟩, ⟨by omega, by omega⟩, ⟨by omega, by omega⟩, ⟨by omega, by omega⟩, ⟨by omega, by omega⟩, ⟨by omega, by omega⟩, ⟨by omega, by omega⟩, ⟨by omega, by omega⟩, ⟨by omega, by omega⟩, ⟨by omega, by omega⟩, ⟨by omega, by omega⟩, ⟨by omega, by omega⟩, ⟨by omega, by omega⟩, ⟨by omega, by omega⟩, (at_cpb c2 c92 c163 c160 b3.2.2.2.2.2.2.2 hAT1), (at_cpo c2 c92 c163 c160 b3.2.2.2.2.2.2.2 (by decide) hAT1), (at_cpo c2 c92 c163 c160 b3.2.2.2.2.2.2.2 (by decide) hAT2), (at_cpo c2 c92 c163 c160 b3.2.2.2.2.2.2.2 (by decide) hAT3)⟩) dX12_copyShore_76
set_option maxHeartbeats 4000000 in
set_option maxRecDepth 100000 in
theorem gX12_copyShore_2_0 (l : Launch) (g : GG) (ad : Nat → Nat) (hD : Dj ad 20) (S : SS) (hI : InvM g ad S) (hAT0 : ATp (S 7) (S 12) 0) (hAT1 : ATp (S 7) (S 12) 1) (hAT2 : ATp (S 7) (S 12) 2) (hAT3 : ATp (S 7) (S 12) 3) : Met l yX12_copyShore (wG (.code yX12_copyShore cX12_copyShore 3 none)) (Rm 1) (XPre g ad 20 S [.ref (ad 0), .int 2, .int 0]) (va_Qv (fun S' => InvM g ad S' ∧ (∀ j, j ∉ ([6, 7, 8, 9, 10, 11, 12] : List Nat) → S' j = S j) ∧ (0 ≤ elm (S 7) 20 + (-1) * elm (S' 7) 0 ∧ 0 ≤ elm (S' 7) 0 + (-1) * elm (S 7) 20) ∧ (0 ≤ elm (S 7) 21 + (-1) * elm (S' 7) 1 ∧ 0 ≤ elm (S' 7) 1 + (-1) * elm (S 7) 21) ∧ (0 ≤ elm (S 7) 23 + (-1) * elm (S' 7) 3 ∧ 0 ≤ elm (S' 7) 3 + (-1) * elm (S 7) 23) ∧ (0 ≤ elm (S 7) 26 + (-1) * elm (S' 7) 6 ∧ 0 ≤ elm (S' 7) 6 + (-1) * elm (S 7) 26) ∧ (0 ≤ elm (S 7) 28 + (-1) * elm (S' 7) 8 ∧ 0 ≤ elm (S' 7) 8 + (-1) * elm (S 7) 28) ∧ (0 ≤ elm (S 7) 29 + (-1) * elm (S' 7) 9 ∧ 0 ≤ elm (S' 7) 9 + (-1) * elm (S 7) 29) ∧ (0 ≤ elm (S 7) 10 + (-1) * elm (S' 7) 10 ∧ 0 ≤ elm (S' 7) 10 + (-1) * elm (S 7) 10) ∧ (0 ≤ elm (S 7) 11 + (-1) * elm (S' 7) 11 ∧ 0 ≤ elm (S' 7) 11 + (-1) * elm (S 7) 11) ∧ (0 ≤ elm (S 7) 13 + (-1) * elm (S' 7) 13 ∧ 0 ≤ elm (S' 7) 13 + (-1) * elm (S 7) 13) ∧ (0 ≤ elm (S 7) 16 + (-1) * elm (S' 7) 16 ∧ 0 ≤ elm (S' 7) 16 + (-1) * elm (S 7) 16) ∧ (0 ≤ elm (S 7) 18 + (-1) * elm (S' 7) 18 ∧ 0 ≤ elm (S' 7) 18 + (-1) * elm (S 7) 18) ∧ (0 ≤ elm (S 7) 19 + (-1) * elm (S' 7) 19 ∧ 0 ≤ elm (S' 7) 19 + (-1) * elm (S 7) 19) ∧ (0 ≤ elm (S 7) 20 + (-1) * elm (S' 7) 20 ∧ 0 ≤ elm (S' 7) 20 + (-1) * elm (S 7) 20) ∧ (0 ≤ elm (S 7) 21 + (-1) * elm (S' 7) 21 ∧ 0 ≤ elm (S' 7) 21 + (-1) * elm (S 7) 21) ∧ (0 ≤ elm (S 7) 23 + (-1) * elm (S' 7) 23 ∧ 0 ≤ elm (S' 7) 23 + (-1) * elm (S 7) 23) ∧ (0 ≤ elm (S 7) 26 + (-1) * elm (S' 7) 26 ∧ 0 ≤ elm (S' 7) 26 + (-1) * elm (S 7) 26) ∧ (0 ≤ elm (S 7) 28 + (-1) * elm (S' 7) 28 ∧ 0 ≤ elm (S' 7) 28 + (-1) * elm (S 7) 28) ∧ (0 ≤ elm (S 7) 29 + (-1) * elm (S' 7) 29 ∧ 0 ≤ elm (S' 7) 29 + (-1) * elm (S 7) 29) ∧ (0 ≤ elm (S 7) 30 + (-1) * elm (S' 7) 30 ∧ 0 ≤ elm (S' 7) 30 + (-1) * elm (S 7) 30) ∧ (0 ≤ elm (S 7) 31 + (-1) * elm (S' 7) 31 ∧ 0 ≤ elm (S' 7) 31 + (-1) * elm (S 7) 31) ∧ (0 ≤ elm (S 7) 33 + (-1) * elm (S' 7) 33 ∧ 0 ≤ elm (S' 7) 33 + (-1) * elm (S 7) 33) ∧ (0 ≤ elm (S 7) 36 + (-1) * elm (S' 7) 36 ∧ 0 ≤ elm (S' 7) 36 + (-1) * elm (S 7) 36) ∧ (0 ≤ elm (S 7) 38 + (-1) * elm (S' 7) 38 ∧ 0 ≤ elm (S' 7) 38 + (-1) * elm (S 7) 38) ∧ (0 ≤ elm (S 7) 39 + (-1) * elm (S' 7) 39 ∧ 0 ≤ elm (S' 7) 39 + (-1) * elm (S 7) 39) ∧ (0 ≤ elm (S 6) 2 + (-1) * elm (S' 6) 0 ∧ 0 ≤ elm (S' 6) 0 + (-1) * elm (S 6) 2) ∧ (0 ≤ elm (S 6) 1 + (-1) * elm (S' 6) 1 ∧ 0 ≤ elm (S' 6) 1 + (-1) * elm (S 6) 1) ∧ (0 ≤ elm (S 6) 2 + (-1) * elm (S' 6) 2 ∧ 0 ≤ elm (S' 6) 2 + (-1) * elm (S 6) 2) ∧ (0 ≤ elm (S 6) 3 + (-1) * elm (S' 6) 3 ∧ 0 ≤ elm (S' 6) 3 + (-1) * elm (S 6) 3) ∧ (ATp (S' 7) (S' 12) 0) ∧ (ATp (S' 7) (S' 12) 1) ∧ (ATp (S' 7) (S' 12) 2) ∧ (ATp (S' 7) (S' 12) 3)) (QB g ad 20) (FA ad 20)) 0 0 (FA ad 20) := by
  refine xmet cX12_copyShore "EbbWreckModel" (by decide) rfl (Nat.le_of_ble_eq_true rfl) (fun p e s m below meth c E hr hlk hml hQ ls hl => ?_)
  have hx := E.1
  have hb := E.2.1
  have hs : Sp ad 20 (FA ad 20) := Sp.fa hD
  have hl : lv_has ls 3 [(0, .ref (ad 0)), (1, .int 2), (2, .int 0)] := hl
  obtain ⟨f1, c2, b3⟩ := invM_7 hI
  obtain ⟨v4, ee5⟩ : ∃ z : Int32, f1 20 = z := ⟨_, rfl⟩
  have b6 : Bd v4 (0) (12) := (by rw [← ee5]; exact b3.1 20 (by decide))
  obtain ⟨v7, ee8⟩ : ∃ z : Int32, f1 0 = z := ⟨_, rfl⟩
  have b9 : Bd v7 (0) (12) := (by rw [← ee8]; exact b3.1 0 (by decide))
  obtain ⟨v10, ee11⟩ : ∃ z : Int32, f1 21 = z := ⟨_, rfl⟩
  have b12 : Bd v10 (0) (12) := (by rw [← ee11]; exact b3.2.1 21 (by decide))
  obtain ⟨v13, ee14⟩ : ∃ z : Int32, f1 1 = z := ⟨_, rfl⟩
  have b15 : Bd v13 (0) (12) := (by rw [← ee14]; exact b3.2.1 1 (by decide))
  obtain ⟨v16, ee17⟩ : ∃ z : Int32, f1 23 = z := ⟨_, rfl⟩
  have b18 : Bd v16 (0) (12) := (by rw [← ee17]; exact b3.2.2.2.1 23 (by decide))
  obtain ⟨v19, ee20⟩ : ∃ z : Int32, f1 3 = z := ⟨_, rfl⟩
  have b21 : Bd v19 (0) (12) := (by rw [← ee20]; exact b3.2.2.2.1 3 (by decide))
  obtain ⟨v22, ee23⟩ : ∃ z : Int32, f1 26 = z := ⟨_, rfl⟩
  have b24 : Bd v22 (0) (8) := (by rw [← ee23]; exact b3.2.2.2.2.1 26 (by decide))
  obtain ⟨v25, ee26⟩ : ∃ z : Int32, f1 6 = z := ⟨_, rfl⟩
  have b27 : Bd v25 (0) (8) := (by rw [← ee26]; exact b3.2.2.2.2.1 6 (by decide))
  obtain ⟨v28, ee29⟩ : ∃ z : Int32, f1 28 = z := ⟨_, rfl⟩
  have b30 : Bd v28 (0) (3) := (by rw [← ee29]; exact b3.2.2.2.2.2.2.1 28 (by decide))
  obtain ⟨v31, ee32⟩ : ∃ z : Int32, f1 8 = z := ⟨_, rfl⟩
  have b33 : Bd v31 (0) (3) := (by rw [← ee32]; exact b3.2.2.2.2.2.2.1 8 (by decide))
  obtain ⟨v34, ee35⟩ : ∃ z : Int32, f1 29 = z := ⟨_, rfl⟩
  have b36 : Bd v34 (0) (40) := (by rw [← ee35]; exact b3.2.2.2.2.2.2.2 29 (by decide))
  obtain ⟨v37, ee38⟩ : ∃ z : Int32, f1 9 = z := ⟨_, rfl⟩
  have b39 : Bd v37 (0) (40) := (by rw [← ee38]; exact b3.2.2.2.2.2.2.2 9 (by decide))
  obtain ⟨v40, ee41⟩ : ∃ z : Int32, f1 10 = z := ⟨_, rfl⟩
  have b42 : Bd v40 (0) (12) := (by rw [← ee41]; exact b3.1 10 (by decide))
  obtain ⟨v43, ee44⟩ : ∃ z : Int32, f1 11 = z := ⟨_, rfl⟩
  have b45 : Bd v43 (0) (12) := (by rw [← ee44]; exact b3.2.1 11 (by decide))
  obtain ⟨v46, ee47⟩ : ∃ z : Int32, f1 13 = z := ⟨_, rfl⟩
  have b48 : Bd v46 (0) (12) := (by rw [← ee47]; exact b3.2.2.2.1 13 (by decide))
  obtain ⟨v49, ee50⟩ : ∃ z : Int32, f1 16 = z := ⟨_, rfl⟩
  have b51 : Bd v49 (0) (8) := (by rw [← ee50]; exact b3.2.2.2.2.1 16 (by decide))
  obtain ⟨v52, ee53⟩ : ∃ z : Int32, f1 18 = z := ⟨_, rfl⟩
  have b54 : Bd v52 (0) (3) := (by rw [← ee53]; exact b3.2.2.2.2.2.2.1 18 (by decide))
  obtain ⟨v55, ee56⟩ : ∃ z : Int32, f1 19 = z := ⟨_, rfl⟩
  have b57 : Bd v55 (0) (40) := (by rw [← ee56]; exact b3.2.2.2.2.2.2.2 19 (by decide))
  obtain ⟨v58, ee59⟩ : ∃ z : Int32, f1 30 = z := ⟨_, rfl⟩
  have b60 : Bd v58 (0) (12) := (by rw [← ee59]; exact b3.1 30 (by decide))
  obtain ⟨v61, ee62⟩ : ∃ z : Int32, f1 31 = z := ⟨_, rfl⟩
  have b63 : Bd v61 (0) (12) := (by rw [← ee62]; exact b3.2.1 31 (by decide))
  obtain ⟨v64, ee65⟩ : ∃ z : Int32, f1 33 = z := ⟨_, rfl⟩
  have b66 : Bd v64 (0) (12) := (by rw [← ee65]; exact b3.2.2.2.1 33 (by decide))
  obtain ⟨v67, ee68⟩ : ∃ z : Int32, f1 36 = z := ⟨_, rfl⟩
  have b69 : Bd v67 (0) (8) := (by rw [← ee68]; exact b3.2.2.2.2.1 36 (by decide))
  obtain ⟨v70, ee71⟩ : ∃ z : Int32, f1 38 = z := ⟨_, rfl⟩
  have b72 : Bd v70 (0) (3) := (by rw [← ee71]; exact b3.2.2.2.2.2.2.1 38 (by decide))
  obtain ⟨v73, ee74⟩ : ∃ z : Int32, f1 39 = z := ⟨_, rfl⟩
  have b75 : Bd v73 (0) (40) := (by rw [← ee74]; exact b3.2.2.2.2.2.2.2 39 (by decide))
  obtain ⟨f76, c77, b78⟩ := invM_6 hI
  obtain ⟨v79, ee80⟩ : ∃ z : Int32, f76 2 = z := ⟨_, rfl⟩
  have b81 : Bd v79 (0) (40000) := (by rw [← ee80]; exact b78 2)
  obtain ⟨v82, ee83⟩ : ∃ z : Int32, f76 0 = z := ⟨_, rfl⟩
  have b84 : Bd v82 (0) (40000) := (by rw [← ee83]; exact b78 0)
  obtain ⟨v85, ee86⟩ : ∃ z : Int32, f76 1 = z := ⟨_, rfl⟩
  have b87 : Bd v85 (0) (40000) := (by rw [← ee86]; exact b78 1)
  obtain ⟨v88, ee89⟩ : ∃ z : Int32, f76 3 = z := ⟨_, rfl⟩
  have b90 : Bd v88 (0) (40000) := (by rw [← ee89]; exact b78 3)
  obtain ⟨f91, c92, b93⟩ := invM_12 hI
  refine lv_aload_n hx hb dX12_copyShore_0 rfl (lv_at hl 0 rfl) ?_
  obtain ⟨v94, v95, v97, v99, v101, v102, w103, v104, v106, v107, v108, v109, v111, v113, v115, v117, v119, v120, v121, c122, b96, b98, b100, b105, b110, b112, b114, b116, b118⟩ := invM_0 hI
  have c122 : S 0 = .inr (12, [.int v94, .ref (ad 1), .ref (ad 2), .ref (ad 3), .ref (ad 4), .ref (ad 5), .int v95, .int v97, .int v99, .int v101, .int v102, .long w103, .int v104, .int v106, .int v107, .int v108, .ref (ad 6), .ref (ad 7), .ref (ad 8), .ref (ad 9), .ref (ad 10), .ref (ad 11), .ref (ad 12), .ref (ad 13), .ref (ad 14), .ref (ad 15), .int v109, .int v111, .ref (ad 16), .int v113, .int v115, .int v117, .int v119, .int v120, .ref (ad 17), .ref (ad 18), .int v121, .ref (ad 19)]) := c122
  refine xget E hQ 0 (by decide) c122 rfl 16 (by decide) q1484 rfl dX12_copyShore_1 ?_
  refine lv_iconst (v := 1) hx hb dX12_copyShore_4 (by decide) ?_
  refine lv_iload_n hx hb dX12_copyShore_5 rfl (lv_at hl 1 rfl) ?_
  refine lv_iload_n hx hb dX12_copyShore_6 rfl (lv_at hl 2 rfl) ?_
  refine xcSv E hs hQ hml hl.1 (uCopyRow l g ad 20 hD S 6 (by decide) 5 (by decide) f76 1 2 0 (by decide) (by decide) (by decide) c77) mX12_copyRow q1743 rfl ⟨(Nat.le_of_ble_eq_true rfl), (Nat.le_of_ble_eq_true rfl)⟩ ⟨(Nat.le_of_ble_eq_true rfl), (Nat.le_of_ble_eq_true rfl)⟩ (Nat.le_of_ble_eq_true rfl) rfl dX12_copyShore_7 (fun S123 H locs eS123 hQ => ?_)
  have hI := invM_up_6 hI eS123 ⟨_, rfl, cp_b b78⟩
  have b125 : ∀ j, Bd ((cpF f76 1 2 0 1) j) (0) (40000) := cp_b b78
  have c124 : S123 6 = .inl (g.2 0, 5, .inl (cpF f76 1 2 0 1)) := up_at eS123 rfl
  refine lv_aload_n hx hb dX12_copyShore_10 rfl (lv_at hl 0 rfl) ?_
  have c126 : S123 0 = .inr (12, [.int v94, .ref (ad 1), .ref (ad 2), .ref (ad 3), .ref (ad 4), .ref (ad 5), .int v95, .int v97, .int v99, .int v101, .int v102, .long w103, .int v104, .int v106, .int v107, .int v108, .ref (ad 6), .ref (ad 7), .ref (ad 8), .ref (ad 9), .ref (ad 10), .ref (ad 11), .ref (ad 12), .ref (ad 13), .ref (ad 14), .ref (ad 15), .int v109, .int v111, .ref (ad 16), .int v113, .int v115, .int v117, .int v119, .int v120, .ref (ad 17), .ref (ad 18), .int v121, .ref (ad 19)]) := (up_ne eS123 (by decide) c122)
  refine xget E hQ 0 (by decide) c126 rfl 17 (by decide) q1485 rfl dX12_copyShore_11 ?_
  refine lv_bipush (v := 10) hx hb dX12_copyShore_14 (by decide) ?_
  refine lv_iload_n hx hb dX12_copyShore_16 rfl (lv_at hl 1 rfl) ?_
  refine lv_iload_n hx hb dX12_copyShore_17 rfl (lv_at hl 2 rfl) ?_
  have c127 : S123 7 = .inl (g.2 0, 50, .inl f1) := (up_ne eS123 (by decide) c2)
  refine xcSv E hs hQ hml hl.1 (uCopyRow l g ad 20 hD S123 7 (by decide) 50 (by decide) f1 10 2 0 (by decide) (by decide) (by decide) c127) mX12_copyRow q1743 rfl ⟨(Nat.le_of_ble_eq_true rfl), (Nat.le_of_ble_eq_true rfl)⟩ ⟨(Nat.le_of_ble_eq_true rfl), (Nat.le_of_ble_eq_true rfl)⟩ (Nat.le_of_ble_eq_true rfl) rfl dX12_copyShore_18 (fun S128 H locs eS128 hQ => ?_)
  have hI := invM_up_7 hI eS128 ⟨_, rfl, ⟨cp_m (q := 1) b3.1 (by decide), cp_m (q := 1) b3.2.1 (by decide), cp_m (q := 1) b3.2.2.1 (by decide), cp_m (q := 1) b3.2.2.2.1 (by decide), cp_m (q := 1) b3.2.2.2.2.1 (by decide), cp_m (q := 1) b3.2.2.2.2.2.1 (by decide), cp_m (q := 1) b3.2.2.2.2.2.2.1 (by decide), cp_m (q := 1) b3.2.2.2.2.2.2.2 (by decide)⟩⟩
  have b130 : (∀ j, j % 10 = 0 → Bd ((cpF f1 10 2 0 10) j) (0) (12)) ∧ (∀ j, j % 10 = 1 → Bd ((cpF f1 10 2 0 10) j) (0) (12)) ∧ (∀ j, j % 10 = 2 → Bd ((cpF f1 10 2 0 10) j) (0) (6)) ∧ (∀ j, j % 10 = 3 → Bd ((cpF f1 10 2 0 10) j) (0) (12)) ∧ (∀ j, j % 10 = 6 → Bd ((cpF f1 10 2 0 10) j) (0) (8)) ∧ (∀ j, j % 10 = 7 → Bd ((cpF f1 10 2 0 10) j) (0) (6)) ∧ (∀ j, j % 10 = 8 → Bd ((cpF f1 10 2 0 10) j) (0) (3)) ∧ (∀ j, j % 10 = 9 → Bd ((cpF f1 10 2 0 10) j) (0) (40)) := ⟨cp_m (q := 1) b3.1 (by decide), cp_m (q := 1) b3.2.1 (by decide), cp_m (q := 1) b3.2.2.1 (by decide), cp_m (q := 1) b3.2.2.2.1 (by decide), cp_m (q := 1) b3.2.2.2.2.1 (by decide), cp_m (q := 1) b3.2.2.2.2.2.1 (by decide), cp_m (q := 1) b3.2.2.2.2.2.2.1 (by decide), cp_m (q := 1) b3.2.2.2.2.2.2.2 (by decide)⟩
  have c129 : S128 7 = .inl (g.2 0, 50, .inl (cpF f1 10 2 0 10)) := up_at eS128 rfl
  refine lv_aload_n hx hb dX12_copyShore_21 rfl (lv_at hl 0 rfl) ?_
  have c131 : S128 0 = .inr (12, [.int v94, .ref (ad 1), .ref (ad 2), .ref (ad 3), .ref (ad 4), .ref (ad 5), .int v95, .int v97, .int v99, .int v101, .int v102, .long w103, .int v104, .int v106, .int v107, .int v108, .ref (ad 6), .ref (ad 7), .ref (ad 8), .ref (ad 9), .ref (ad 10), .ref (ad 11), .ref (ad 12), .ref (ad 13), .ref (ad 14), .ref (ad 15), .int v109, .int v111, .ref (ad 16), .int v113, .int v115, .int v117, .int v119, .int v120, .ref (ad 17), .ref (ad 18), .int v121, .ref (ad 19)]) := (up_ne eS128 (by decide) c126)
  refine xget E hQ 0 (by decide) c131 rfl 18 (by decide) q1486 rfl dX12_copyShore_22 ?_
  refine lv_bipush (v := 24) hx hb dX12_copyShore_25 (by decide) ?_
  refine lv_iload_n hx hb dX12_copyShore_27 rfl (lv_at hl 1 rfl) ?_
  refine lv_iload_n hx hb dX12_copyShore_28 rfl (lv_at hl 2 rfl) ?_
  obtain ⟨f132, c133⟩ := invM_8 hI
  refine xcSv E hs hQ hml hl.1 (uCopyRow l g ad 20 hD S128 8 (by decide) 120 (by decide) f132 24 2 0 (by decide) (by decide) (by decide) c133) mX12_copyRow q1743 rfl ⟨(Nat.le_of_ble_eq_true rfl), (Nat.le_of_ble_eq_true rfl)⟩ ⟨(Nat.le_of_ble_eq_true rfl), (Nat.le_of_ble_eq_true rfl)⟩ (Nat.le_of_ble_eq_true rfl) rfl dX12_copyShore_29 (fun S135 H locs eS135 hQ => ?_)
  have hI := invM_up_8 hI eS135 ⟨_, rfl⟩
  have c136 : S135 8 = .inl (g.2 0, 120, .inl (cpF f132 24 2 0 24)) := up_at eS135 rfl
  refine lv_aload_n hx hb dX12_copyShore_32 rfl (lv_at hl 0 rfl) ?_
  have c137 : S135 0 = .inr (12, [.int v94, .ref (ad 1), .ref (ad 2), .ref (ad 3), .ref (ad 4), .ref (ad 5), .int v95, .int v97, .int v99, .int v101, .int v102, .long w103, .int v104, .int v106, .int v107, .int v108, .ref (ad 6), .ref (ad 7), .ref (ad 8), .ref (ad 9), .ref (ad 10), .ref (ad 11), .ref (ad 12), .ref (ad 13), .ref (ad 14), .ref (ad 15), .int v109, .int v111, .ref (ad 16), .int v113, .int v115, .int v117, .int v119, .int v120, .ref (ad 17), .ref (ad 18), .int v121, .ref (ad 19)]) := (up_ne eS135 (by decide) c131)
  refine xget E hQ 0 (by decide) c137 rfl 19 (by decide) q1487 rfl dX12_copyShore_33 ?_
  refine lv_bipush (v := 24) hx hb dX12_copyShore_36 (by decide) ?_
  refine lv_iload_n hx hb dX12_copyShore_38 rfl (lv_at hl 1 rfl) ?_
  refine lv_iload_n hx hb dX12_copyShore_39 rfl (lv_at hl 2 rfl) ?_
  obtain ⟨f138, c139, b140⟩ := invM_9 hI
  refine xcSv E hs hQ hml hl.1 (uCopyRow l g ad 20 hD S135 9 (by decide) 120 (by decide) f138 24 2 0 (by decide) (by decide) (by decide) c139) mX12_copyRow q1743 rfl ⟨(Nat.le_of_ble_eq_true rfl), (Nat.le_of_ble_eq_true rfl)⟩ ⟨(Nat.le_of_ble_eq_true rfl), (Nat.le_of_ble_eq_true rfl)⟩ (Nat.le_of_ble_eq_true rfl) rfl dX12_copyShore_40 (fun S141 H locs eS141 hQ => ?_)
  have hI := invM_up_9 hI eS141 ⟨_, rfl, ⟨cp_m (q := 8) b140.1 (by decide), cp_m (q := 8) b140.2 (by decide)⟩⟩
  have b143 : (∀ j, j % 3 = 1 → Bd ((cpF f138 24 2 0 24) j) (0) (11)) ∧ (∀ j, j % 3 = 2 → Bd ((cpF f138 24 2 0 24) j) (0) (99)) := ⟨cp_m (q := 8) b140.1 (by decide), cp_m (q := 8) b140.2 (by decide)⟩
  have c142 : S141 9 = .inl (g.2 0, 120, .inl (cpF f138 24 2 0 24)) := up_at eS141 rfl
  refine lv_aload_n hx hb dX12_copyShore_43 rfl (lv_at hl 0 rfl) ?_
  have c144 : S141 0 = .inr (12, [.int v94, .ref (ad 1), .ref (ad 2), .ref (ad 3), .ref (ad 4), .ref (ad 5), .int v95, .int v97, .int v99, .int v101, .int v102, .long w103, .int v104, .int v106, .int v107, .int v108, .ref (ad 6), .ref (ad 7), .ref (ad 8), .ref (ad 9), .ref (ad 10), .ref (ad 11), .ref (ad 12), .ref (ad 13), .ref (ad 14), .ref (ad 15), .int v109, .int v111, .ref (ad 16), .int v113, .int v115, .int v117, .int v119, .int v120, .ref (ad 17), .ref (ad 18), .int v121, .ref (ad 19)]) := (up_ne eS141 (by decide) c137)
  refine xget E hQ 0 (by decide) c144 rfl 20 (by decide) q1488 rfl dX12_copyShore_44 ?_
  refine lv_bipush (v := 24) hx hb dX12_copyShore_47 (by decide) ?_
  refine lv_iload_n hx hb dX12_copyShore_49 rfl (lv_at hl 1 rfl) ?_
  refine lv_iload_n hx hb dX12_copyShore_50 rfl (lv_at hl 2 rfl) ?_
  obtain ⟨f145, c146⟩ := invM_10 hI
  refine xcSv E hs hQ hml hl.1 (uCopyRow l g ad 20 hD S141 10 (by decide) 120 (by decide) f145 24 2 0 (by decide) (by decide) (by decide) c146) mX12_copyRow q1743 rfl ⟨(Nat.le_of_ble_eq_true rfl), (Nat.le_of_ble_eq_true rfl)⟩ ⟨(Nat.le_of_ble_eq_true rfl), (Nat.le_of_ble_eq_true rfl)⟩ (Nat.le_of_ble_eq_true rfl) rfl dX12_copyShore_51 (fun S148 H locs eS148 hQ => ?_)
  have hI := invM_up_10 hI eS148 ⟨_, rfl⟩
  have c149 : S148 10 = .inl (g.2 0, 120, .inl (cpF f145 24 2 0 24)) := up_at eS148 rfl
  refine lv_aload_n hx hb dX12_copyShore_54 rfl (lv_at hl 0 rfl) ?_
  have c150 : S148 0 = .inr (12, [.int v94, .ref (ad 1), .ref (ad 2), .ref (ad 3), .ref (ad 4), .ref (ad 5), .int v95, .int v97, .int v99, .int v101, .int v102, .long w103, .int v104, .int v106, .int v107, .int v108, .ref (ad 6), .ref (ad 7), .ref (ad 8), .ref (ad 9), .ref (ad 10), .ref (ad 11), .ref (ad 12), .ref (ad 13), .ref (ad 14), .ref (ad 15), .int v109, .int v111, .ref (ad 16), .int v113, .int v115, .int v117, .int v119, .int v120, .ref (ad 17), .ref (ad 18), .int v121, .ref (ad 19)]) := (up_ne eS148 (by decide) c144)
  refine xget E hQ 0 (by decide) c150 rfl 21 (by decide) q1489 rfl dX12_copyShore_55 ?_
  refine lv_iconst (v := 3) hx hb dX12_copyShore_58 (by decide) ?_
  refine lv_iload_n hx hb dX12_copyShore_59 rfl (lv_at hl 1 rfl) ?_
  refine lv_iload_n hx hb dX12_copyShore_60 rfl (lv_at hl 2 rfl) ?_
  obtain ⟨f151, c152, b153⟩ := invM_11 hI
  refine xcSv E hs hQ hml hl.1 (uCopyRow l g ad 20 hD S148 11 (by decide) 15 (by decide) f151 3 2 0 (by decide) (by decide) (by decide) c152) mX12_copyRow q1743 rfl ⟨(Nat.le_of_ble_eq_true rfl), (Nat.le_of_ble_eq_true rfl)⟩ ⟨(Nat.le_of_ble_eq_true rfl), (Nat.le_of_ble_eq_true rfl)⟩ (Nat.le_of_ble_eq_true rfl) rfl dX12_copyShore_61 (fun S154 H locs eS154 hQ => ?_)
  have hI := invM_up_11 hI eS154 ⟨_, rfl, cp_b b153⟩
  have b156 : ∀ j, Bd ((cpF f151 3 2 0 3) j) (0) (11) := cp_b b153
  have c155 : S154 11 = .inl (g.2 0, 15, .inl (cpF f151 3 2 0 3)) := up_at eS154 rfl
  refine lv_aload_n hx hb dX12_copyShore_64 rfl (lv_at hl 0 rfl) ?_
  have c157 : S154 0 = .inr (12, [.int v94, .ref (ad 1), .ref (ad 2), .ref (ad 3), .ref (ad 4), .ref (ad 5), .int v95, .int v97, .int v99, .int v101, .int v102, .long w103, .int v104, .int v106, .int v107, .int v108, .ref (ad 6), .ref (ad 7), .ref (ad 8), .ref (ad 9), .ref (ad 10), .ref (ad 11), .ref (ad 12), .ref (ad 13), .ref (ad 14), .ref (ad 15), .int v109, .int v111, .ref (ad 16), .int v113, .int v115, .int v117, .int v119, .int v120, .ref (ad 17), .ref (ad 18), .int v121, .ref (ad 19)]) := (up_ne eS154 (by decide) c150)
  refine xget E hQ 0 (by decide) c157 rfl 22 (by decide) q1490 rfl dX12_copyShore_65 ?_
  refine lv_sipush (v := 160) hx hb dX12_copyShore_68 (by decide) ?_
  refine lv_iload_n hx hb dX12_copyShore_71 rfl (lv_at hl 1 rfl) ?_
  refine lv_iload_n hx hb dX12_copyShore_72 rfl (lv_at hl 2 rfl) ?_
  have c158 : S154 12 = .inl (g.2 0, 800, .inl f91) := (up_ne eS154 (by decide) (up_ne eS148 (by decide) (up_ne eS141 (by decide) (up_ne eS135 (by decide) (up_ne eS128 (by decide) (up_ne eS123 (by decide) c92))))))
  refine xcSv E hs hQ hml hl.1 (uCopyRow l g ad 20 hD S154 12 (by decide) 800 (by decide) f91 160 2 0 (by decide) (by decide) (by decide) c158) mX12_copyRow q1743 rfl ⟨(Nat.le_of_ble_eq_true rfl), (Nat.le_of_ble_eq_true rfl)⟩ ⟨(Nat.le_of_ble_eq_true rfl), (Nat.le_of_ble_eq_true rfl)⟩ (Nat.le_of_ble_eq_true rfl) rfl dX12_copyShore_73 (fun S159 H locs eS159 hQ => ?_)
  have hI := invM_up_12 hI eS159 ⟨_, rfl, ⟨cp_m (q := 40) b93.1 (by decide), cp_m (q := 40) b93.2 (by decide)⟩⟩
  have b161 : (∀ j, j % 4 = 1 → Bd ((cpF f91 160 2 0 160) j) (0) (7)) ∧ (∀ j, j % 4 = 2 → Bd ((cpF f91 160 2 0 160) j) (0) (400)) := ⟨cp_m (q := 40) b93.1 (by decide), cp_m (q := 40) b93.2 (by decide)⟩
  have c160 : S159 12 = .inl (g.2 0, 800, .inl (cpF f91 160 2 0 160)) := up_at eS159 rfl
  have q162 : elm (S 7) 20 = v4.toInt := (elm_of c2 20).trans (congrArg Int32.toInt (ee5))
  have c163 : S159 7 = .inl (g.2 0, 50, .inl (cpF f1 10 2 0 10)) := (up_ne eS159 (by decide) (up_ne eS154 (by decide) (up_ne eS148 (by decide) (up_ne eS141 (by decide) (up_ne eS135 (by decide) c129)))))
  have q164 : elm (S159 7) 0 = v4.toInt := (elm_of c163 0).trans (congrArg Int32.toInt (((show cpF f1 10 2 0 10 0 = f1 20 from rfl).trans (ee5))))
  have q165 : elm (S 7) 21 = v10.toInt := (elm_of c2 21).trans (congrArg Int32.toInt (ee11))
  have q166 : elm (S159 7) 1 = v10.toInt := (elm_of c163 1).trans (congrArg Int32.toInt (((show cpF f1 10 2 0 10 1 = f1 21 from rfl).trans (ee11))))
  have q167 : elm (S 7) 23 = v16.toInt := (elm_of c2 23).trans (congrArg Int32.toInt (ee17))
  have q168 : elm (S159 7) 3 = v16.toInt := (elm_of c163 3).trans (congrArg Int32.toInt (((show cpF f1 10 2 0 10 3 = f1 23 from rfl).trans (ee17))))
  have q169 : elm (S 7) 26 = v22.toInt := (elm_of c2 26).trans (congrArg Int32.toInt (ee23))
  have q170 : elm (S159 7) 6 = v22.toInt := (elm_of c163 6).trans (congrArg Int32.toInt (((show cpF f1 10 2 0 10 6 = f1 26 from rfl).trans (ee23))))
  have q171 : elm (S 7) 28 = v28.toInt := (elm_of c2 28).trans (congrArg Int32.toInt (ee29))
  have q172 : elm (S159 7) 8 = v28.toInt := (elm_of c163 8).trans (congrArg Int32.toInt (((show cpF f1 10 2 0 10 8 = f1 28 from rfl).trans (ee29))))
  have q173 : elm (S 7) 29 = v34.toInt := (elm_of c2 29).trans (congrArg Int32.toInt (ee35))
  have q174 : elm (S159 7) 9 = v34.toInt := (elm_of c163 9).trans (congrArg Int32.toInt (((show cpF f1 10 2 0 10 9 = f1 29 from rfl).trans (ee35))))
  have q175 : elm (S 7) 10 = v40.toInt := (elm_of c2 10).trans (congrArg Int32.toInt (ee41))
  have q176 : elm (S159 7) 10 = v40.toInt := (elm_of c163 10).trans (congrArg Int32.toInt (((show cpF f1 10 2 0 10 10 = f1 10 from rfl).trans (ee41))))
  have q177 : elm (S 7) 11 = v43.toInt := (elm_of c2 11).trans (congrArg Int32.toInt (ee44))
  have q178 : elm (S159 7) 11 = v43.toInt := (elm_of c163 11).trans (congrArg Int32.toInt (((show cpF f1 10 2 0 10 11 = f1 11 from rfl).trans (ee44))))
  have q179 : elm (S 7) 13 = v46.toInt := (elm_of c2 13).trans (congrArg Int32.toInt (ee47))
  have q180 : elm (S159 7) 13 = v46.toInt := (elm_of c163 13).trans (congrArg Int32.toInt (((show cpF f1 10 2 0 10 13 = f1 13 from rfl).trans (ee47))))
  have q181 : elm (S 7) 16 = v49.toInt := (elm_of c2 16).trans (congrArg Int32.toInt (ee50))
  have q182 : elm (S159 7) 16 = v49.toInt := (elm_of c163 16).trans (congrArg Int32.toInt (((show cpF f1 10 2 0 10 16 = f1 16 from rfl).trans (ee50))))
  have q183 : elm (S 7) 18 = v52.toInt := (elm_of c2 18).trans (congrArg Int32.toInt (ee53))
  have q184 : elm (S159 7) 18 = v52.toInt := (elm_of c163 18).trans (congrArg Int32.toInt (((show cpF f1 10 2 0 10 18 = f1 18 from rfl).trans (ee53))))
  have q185 : elm (S 7) 19 = v55.toInt := (elm_of c2 19).trans (congrArg Int32.toInt (ee56))
  have q186 : elm (S159 7) 19 = v55.toInt := (elm_of c163 19).trans (congrArg Int32.toInt (((show cpF f1 10 2 0 10 19 = f1 19 from rfl).trans (ee56))))
  have q187 : elm (S159 7) 20 = v4.toInt := (elm_of c163 20).trans (congrArg Int32.toInt (((show cpF f1 10 2 0 10 20 = f1 20 from rfl).trans (ee5))))
  have q188 : elm (S159 7) 21 = v10.toInt := (elm_of c163 21).trans (congrArg Int32.toInt (((show cpF f1 10 2 0 10 21 = f1 21 from rfl).trans (ee11))))
  have q189 : elm (S159 7) 23 = v16.toInt := (elm_of c163 23).trans (congrArg Int32.toInt (((show cpF f1 10 2 0 10 23 = f1 23 from rfl).trans (ee17))))
  have q190 : elm (S159 7) 26 = v22.toInt := (elm_of c163 26).trans (congrArg Int32.toInt (((show cpF f1 10 2 0 10 26 = f1 26 from rfl).trans (ee23))))
  have q191 : elm (S159 7) 28 = v28.toInt := (elm_of c163 28).trans (congrArg Int32.toInt (((show cpF f1 10 2 0 10 28 = f1 28 from rfl).trans (ee29))))
  have q192 : elm (S159 7) 29 = v34.toInt := (elm_of c163 29).trans (congrArg Int32.toInt (((show cpF f1 10 2 0 10 29 = f1 29 from rfl).trans (ee35))))
  have q193 : elm (S 7) 30 = v58.toInt := (elm_of c2 30).trans (congrArg Int32.toInt (ee59))
  have q194 : elm (S159 7) 30 = v58.toInt := (elm_of c163 30).trans (congrArg Int32.toInt (((show cpF f1 10 2 0 10 30 = f1 30 from rfl).trans (ee59))))
  have q195 : elm (S 7) 31 = v61.toInt := (elm_of c2 31).trans (congrArg Int32.toInt (ee62))
  have q196 : elm (S159 7) 31 = v61.toInt := (elm_of c163 31).trans (congrArg Int32.toInt (((show cpF f1 10 2 0 10 31 = f1 31 from rfl).trans (ee62))))
  have q197 : elm (S 7) 33 = v64.toInt := (elm_of c2 33).trans (congrArg Int32.toInt (ee65))
  have q198 : elm (S159 7) 33 = v64.toInt := (elm_of c163 33).trans (congrArg Int32.toInt (((show cpF f1 10 2 0 10 33 = f1 33 from rfl).trans (ee65))))
  have q199 : elm (S 7) 36 = v67.toInt := (elm_of c2 36).trans (congrArg Int32.toInt (ee68))
  have q200 : elm (S159 7) 36 = v67.toInt := (elm_of c163 36).trans (congrArg Int32.toInt (((show cpF f1 10 2 0 10 36 = f1 36 from rfl).trans (ee68))))
  have q201 : elm (S 7) 38 = v70.toInt := (elm_of c2 38).trans (congrArg Int32.toInt (ee71))
  have q202 : elm (S159 7) 38 = v70.toInt := (elm_of c163 38).trans (congrArg Int32.toInt (((show cpF f1 10 2 0 10 38 = f1 38 from rfl).trans (ee71))))
  have q203 : elm (S 7) 39 = v73.toInt := (elm_of c2 39).trans (congrArg Int32.toInt (ee74))
  have q204 : elm (S159 7) 39 = v73.toInt := (elm_of c163 39).trans (congrArg Int32.toInt (((show cpF f1 10 2 0 10 39 = f1 39 from rfl).trans (ee74))))
  have q205 : elm (S 6) 2 = v79.toInt := (elm_of c77 2).trans (congrArg Int32.toInt (ee80))
  have c206 : S159 6 = .inl (g.2 0, 5, .inl (cpF f76 1 2 0 1)) := (up_ne eS159 (by decide) (up_ne eS154 (by decide) (up_ne eS148 (by decide) (up_ne eS141 (by decide) (up_ne eS135 (by decide) (up_ne eS128 (by decide) c124))))))
  have q207 : elm (S159 6) 0 = v79.toInt := (elm_of c206 0).trans (congrArg Int32.toInt (((show cpF f76 1 2 0 1 0 = f76 2 from rfl).trans (ee80))))
  have q208 : elm (S 6) 1 = v85.toInt := (elm_of c77 1).trans (congrArg Int32.toInt (ee86))
  have q209 : elm (S159 6) 1 = v85.toInt := (elm_of c206 1).trans (congrArg Int32.toInt (((show cpF f76 1 2 0 1 1 = f76 1 from rfl).trans (ee86))))
  have q210 : elm (S159 6) 2 = v79.toInt := (elm_of c206 2).trans (congrArg Int32.toInt (((show cpF f76 1 2 0 1 2 = f76 2 from rfl).trans (ee80))))
  have q211 : elm (S 6) 3 = v88.toInt := (elm_of c77 3).trans (congrArg Int32.toInt (ee89))
  have q212 : elm (S159 6) 3 = v88.toInt := (elm_of c206 3).trans (congrArg Int32.toInt (((show cpF f76 1 2 0 1 3 = f76 3 from rfl).trans (ee89))))
  exact xrv E hr hlk hQ (⟨hI, (up_o (up_o (up_o (up_o (up_o (up_o (up_o o_refl eS123 (by decide)) eS128 (by decide)) eS135 (by decide)) eS141 (by decide)) eS148 (by decide)) eS154 (by decide)) eS159 (by decide)), ⟨by omega, by omega⟩, ⟨by omega, by omega⟩, ⟨by omega, by omega⟩, ⟨by omega, by omega⟩, ⟨by omega, by omega⟩, ⟨by omega, by omega⟩, ⟨by omega, by omega⟩, ⟨by omega, by omega⟩, ⟨by omega, by omega⟩, ⟨by omega, by omega⟩, ⟨by omega, by omega⟩, ⟨by omega, by omega⟩, ⟨by omega, by omega⟩, ⟨by omega, by omega⟩, ⟨by omega, by omega⟩, ⟨by omega, by omega⟩, ⟨by omega, by omega⟩, ⟨by omega, by omega⟩, ⟨by omega, by omega⟩, ⟨by omega, by omega⟩, ⟨by omega, by omega⟩, ⟨by omega, by omega⟩, ⟨by omega, by omega⟩, ⟨by omega, by omega⟩, ⟨by omega, by omega⟩, ⟨by omega, by omega⟩, ⟨by omega, by omega⟩, ⟨by omega, by omega⟩, (at_cpb c2 c92 c163 c160 b3.2.2.2.2.2.2.2 hAT2), (at_cpo c2 c92 c163 c160 b3.2.2.2.2.2.2.2 (by decide) hAT1), (at_cpo c2 c92 c163 c160 b3.2.2.2.2.2.2.2 (by decide) hAT2), (at_cpo c2 c92 c163 c160 b3.2.2.2.2.2.2.2 (by decide) hAT3)⟩) dX12_copyShore_76
set_option maxHeartbeats 4000000 in
set_option maxRecDepth 100000 in
theorem gX12_copyShore_3_0 (l : Launch) (g : GG) (ad : Nat → Nat) (hD : Dj ad 20) (S : SS) (hI : InvM g ad S) (hAT0 : ATp (S 7) (S 12) 0) (hAT1 : ATp (S 7) (S 12) 1) (hAT2 : ATp (S 7) (S 12) 2) (hAT3 : ATp (S 7) (S 12) 3) : Met l yX12_copyShore (wG (.code yX12_copyShore cX12_copyShore 3 none)) (Rm 1) (XPre g ad 20 S [.ref (ad 0), .int 3, .int 0]) (va_Qv (fun S' => InvM g ad S' ∧ (∀ j, j ∉ ([6, 7, 8, 9, 10, 11, 12] : List Nat) → S' j = S j) ∧ (0 ≤ elm (S 7) 30 + (-1) * elm (S' 7) 0 ∧ 0 ≤ elm (S' 7) 0 + (-1) * elm (S 7) 30) ∧ (0 ≤ elm (S 7) 31 + (-1) * elm (S' 7) 1 ∧ 0 ≤ elm (S' 7) 1 + (-1) * elm (S 7) 31) ∧ (0 ≤ elm (S 7) 33 + (-1) * elm (S' 7) 3 ∧ 0 ≤ elm (S' 7) 3 + (-1) * elm (S 7) 33) ∧ (0 ≤ elm (S 7) 36 + (-1) * elm (S' 7) 6 ∧ 0 ≤ elm (S' 7) 6 + (-1) * elm (S 7) 36) ∧ (0 ≤ elm (S 7) 38 + (-1) * elm (S' 7) 8 ∧ 0 ≤ elm (S' 7) 8 + (-1) * elm (S 7) 38) ∧ (0 ≤ elm (S 7) 39 + (-1) * elm (S' 7) 9 ∧ 0 ≤ elm (S' 7) 9 + (-1) * elm (S 7) 39) ∧ (0 ≤ elm (S 7) 10 + (-1) * elm (S' 7) 10 ∧ 0 ≤ elm (S' 7) 10 + (-1) * elm (S 7) 10) ∧ (0 ≤ elm (S 7) 11 + (-1) * elm (S' 7) 11 ∧ 0 ≤ elm (S' 7) 11 + (-1) * elm (S 7) 11) ∧ (0 ≤ elm (S 7) 13 + (-1) * elm (S' 7) 13 ∧ 0 ≤ elm (S' 7) 13 + (-1) * elm (S 7) 13) ∧ (0 ≤ elm (S 7) 16 + (-1) * elm (S' 7) 16 ∧ 0 ≤ elm (S' 7) 16 + (-1) * elm (S 7) 16) ∧ (0 ≤ elm (S 7) 18 + (-1) * elm (S' 7) 18 ∧ 0 ≤ elm (S' 7) 18 + (-1) * elm (S 7) 18) ∧ (0 ≤ elm (S 7) 19 + (-1) * elm (S' 7) 19 ∧ 0 ≤ elm (S' 7) 19 + (-1) * elm (S 7) 19) ∧ (0 ≤ elm (S 7) 20 + (-1) * elm (S' 7) 20 ∧ 0 ≤ elm (S' 7) 20 + (-1) * elm (S 7) 20) ∧ (0 ≤ elm (S 7) 21 + (-1) * elm (S' 7) 21 ∧ 0 ≤ elm (S' 7) 21 + (-1) * elm (S 7) 21) ∧ (0 ≤ elm (S 7) 23 + (-1) * elm (S' 7) 23 ∧ 0 ≤ elm (S' 7) 23 + (-1) * elm (S 7) 23) ∧ (0 ≤ elm (S 7) 26 + (-1) * elm (S' 7) 26 ∧ 0 ≤ elm (S' 7) 26 + (-1) * elm (S 7) 26) ∧ (0 ≤ elm (S 7) 28 + (-1) * elm (S' 7) 28 ∧ 0 ≤ elm (S' 7) 28 + (-1) * elm (S 7) 28) ∧ (0 ≤ elm (S 7) 29 + (-1) * elm (S' 7) 29 ∧ 0 ≤ elm (S' 7) 29 + (-1) * elm (S 7) 29) ∧ (0 ≤ elm (S 7) 30 + (-1) * elm (S' 7) 30 ∧ 0 ≤ elm (S' 7) 30 + (-1) * elm (S 7) 30) ∧ (0 ≤ elm (S 7) 31 + (-1) * elm (S' 7) 31 ∧ 0 ≤ elm (S' 7) 31 + (-1) * elm (S 7) 31) ∧ (0 ≤ elm (S 7) 33 + (-1) * elm (S' 7) 33 ∧ 0 ≤ elm (S' 7) 33 + (-1) * elm (S 7) 33) ∧ (0 ≤ elm (S 7) 36 + (-1) * elm (S' 7) 36 ∧ 0 ≤ elm (S' 7) 36 + (-1) * elm (S 7) 36) ∧ (0 ≤ elm (S 7) 38 + (-1) * elm (S' 7) 38 ∧ 0 ≤ elm (S' 7) 38 + (-1) * elm (S 7) 38) ∧ (0 ≤ elm (S 7) 39 + (-1) * elm (S' 7) 39 ∧ 0 ≤ elm (S' 7) 39 + (-1) * elm (S 7) 39) ∧ (0 ≤ elm (S 6) 3 + (-1) * elm (S' 6) 0 ∧ 0 ≤ elm (S' 6) 0 + (-1) * elm (S 6) 3) ∧ (0 ≤ elm (S 6) 1 + (-1) * elm (S' 6) 1 ∧ 0 ≤ elm (S' 6) 1 + (-1) * elm (S 6) 1) ∧ (0 ≤ elm (S 6) 2 + (-1) * elm (S' 6) 2 ∧ 0 ≤ elm (S' 6) 2 + (-1) * elm (S 6) 2) ∧ (0 ≤ elm (S 6) 3 + (-1) * elm (S' 6) 3 ∧ 0 ≤ elm (S' 6) 3 + (-1) * elm (S 6) 3) ∧ (ATp (S' 7) (S' 12) 0) ∧ (ATp (S' 7) (S' 12) 1) ∧ (ATp (S' 7) (S' 12) 2) ∧ (ATp (S' 7) (S' 12) 3)) (QB g ad 20) (FA ad 20)) 0 0 (FA ad 20) := by
  refine xmet cX12_copyShore "EbbWreckModel" (by decide) rfl (Nat.le_of_ble_eq_true rfl) (fun p e s m below meth c E hr hlk hml hQ ls hl => ?_)
  have hx := E.1
  have hb := E.2.1
  have hs : Sp ad 20 (FA ad 20) := Sp.fa hD
  have hl : lv_has ls 3 [(0, .ref (ad 0)), (1, .int 3), (2, .int 0)] := hl
  obtain ⟨f1, c2, b3⟩ := invM_7 hI
  obtain ⟨v4, ee5⟩ : ∃ z : Int32, f1 30 = z := ⟨_, rfl⟩
  have b6 : Bd v4 (0) (12) := (by rw [← ee5]; exact b3.1 30 (by decide))
  obtain ⟨v7, ee8⟩ : ∃ z : Int32, f1 0 = z := ⟨_, rfl⟩
  have b9 : Bd v7 (0) (12) := (by rw [← ee8]; exact b3.1 0 (by decide))
  obtain ⟨v10, ee11⟩ : ∃ z : Int32, f1 31 = z := ⟨_, rfl⟩
  have b12 : Bd v10 (0) (12) := (by rw [← ee11]; exact b3.2.1 31 (by decide))
  obtain ⟨v13, ee14⟩ : ∃ z : Int32, f1 1 = z := ⟨_, rfl⟩
  have b15 : Bd v13 (0) (12) := (by rw [← ee14]; exact b3.2.1 1 (by decide))
  obtain ⟨v16, ee17⟩ : ∃ z : Int32, f1 33 = z := ⟨_, rfl⟩
  have b18 : Bd v16 (0) (12) := (by rw [← ee17]; exact b3.2.2.2.1 33 (by decide))
  obtain ⟨v19, ee20⟩ : ∃ z : Int32, f1 3 = z := ⟨_, rfl⟩
  have b21 : Bd v19 (0) (12) := (by rw [← ee20]; exact b3.2.2.2.1 3 (by decide))
  obtain ⟨v22, ee23⟩ : ∃ z : Int32, f1 36 = z := ⟨_, rfl⟩
  have b24 : Bd v22 (0) (8) := (by rw [← ee23]; exact b3.2.2.2.2.1 36 (by decide))
  obtain ⟨v25, ee26⟩ : ∃ z : Int32, f1 6 = z := ⟨_, rfl⟩
  have b27 : Bd v25 (0) (8) := (by rw [← ee26]; exact b3.2.2.2.2.1 6 (by decide))
  obtain ⟨v28, ee29⟩ : ∃ z : Int32, f1 38 = z := ⟨_, rfl⟩
  have b30 : Bd v28 (0) (3) := (by rw [← ee29]; exact b3.2.2.2.2.2.2.1 38 (by decide))
  obtain ⟨v31, ee32⟩ : ∃ z : Int32, f1 8 = z := ⟨_, rfl⟩
  have b33 : Bd v31 (0) (3) := (by rw [← ee32]; exact b3.2.2.2.2.2.2.1 8 (by decide))
  obtain ⟨v34, ee35⟩ : ∃ z : Int32, f1 39 = z := ⟨_, rfl⟩
  have b36 : Bd v34 (0) (40) := (by rw [← ee35]; exact b3.2.2.2.2.2.2.2 39 (by decide))
  obtain ⟨v37, ee38⟩ : ∃ z : Int32, f1 9 = z := ⟨_, rfl⟩
  have b39 : Bd v37 (0) (40) := (by rw [← ee38]; exact b3.2.2.2.2.2.2.2 9 (by decide))
  obtain ⟨v40, ee41⟩ : ∃ z : Int32, f1 10 = z := ⟨_, rfl⟩
  have b42 : Bd v40 (0) (12) := (by rw [← ee41]; exact b3.1 10 (by decide))
  obtain ⟨v43, ee44⟩ : ∃ z : Int32, f1 11 = z := ⟨_, rfl⟩
  have b45 : Bd v43 (0) (12) := (by rw [← ee44]; exact b3.2.1 11 (by decide))
  obtain ⟨v46, ee47⟩ : ∃ z : Int32, f1 13 = z := ⟨_, rfl⟩
  have b48 : Bd v46 (0) (12) := (by rw [← ee47]; exact b3.2.2.2.1 13 (by decide))
  obtain ⟨v49, ee50⟩ : ∃ z : Int32, f1 16 = z := ⟨_, rfl⟩
  have b51 : Bd v49 (0) (8) := (by rw [← ee50]; exact b3.2.2.2.2.1 16 (by decide))
  obtain ⟨v52, ee53⟩ : ∃ z : Int32, f1 18 = z := ⟨_, rfl⟩
  have b54 : Bd v52 (0) (3) := (by rw [← ee53]; exact b3.2.2.2.2.2.2.1 18 (by decide))
  obtain ⟨v55, ee56⟩ : ∃ z : Int32, f1 19 = z := ⟨_, rfl⟩
  have b57 : Bd v55 (0) (40) := (by rw [← ee56]; exact b3.2.2.2.2.2.2.2 19 (by decide))
  obtain ⟨v58, ee59⟩ : ∃ z : Int32, f1 20 = z := ⟨_, rfl⟩
  have b60 : Bd v58 (0) (12) := (by rw [← ee59]; exact b3.1 20 (by decide))
  obtain ⟨v61, ee62⟩ : ∃ z : Int32, f1 21 = z := ⟨_, rfl⟩
  have b63 : Bd v61 (0) (12) := (by rw [← ee62]; exact b3.2.1 21 (by decide))
  obtain ⟨v64, ee65⟩ : ∃ z : Int32, f1 23 = z := ⟨_, rfl⟩
  have b66 : Bd v64 (0) (12) := (by rw [← ee65]; exact b3.2.2.2.1 23 (by decide))
  obtain ⟨v67, ee68⟩ : ∃ z : Int32, f1 26 = z := ⟨_, rfl⟩
  have b69 : Bd v67 (0) (8) := (by rw [← ee68]; exact b3.2.2.2.2.1 26 (by decide))
  obtain ⟨v70, ee71⟩ : ∃ z : Int32, f1 28 = z := ⟨_, rfl⟩
  have b72 : Bd v70 (0) (3) := (by rw [← ee71]; exact b3.2.2.2.2.2.2.1 28 (by decide))
  obtain ⟨v73, ee74⟩ : ∃ z : Int32, f1 29 = z := ⟨_, rfl⟩
  have b75 : Bd v73 (0) (40) := (by rw [← ee74]; exact b3.2.2.2.2.2.2.2 29 (by decide))
  obtain ⟨f76, c77, b78⟩ := invM_6 hI
  obtain ⟨v79, ee80⟩ : ∃ z : Int32, f76 3 = z := ⟨_, rfl⟩
  have b81 : Bd v79 (0) (40000) := (by rw [← ee80]; exact b78 3)
  obtain ⟨v82, ee83⟩ : ∃ z : Int32, f76 0 = z := ⟨_, rfl⟩
  have b84 : Bd v82 (0) (40000) := (by rw [← ee83]; exact b78 0)
  obtain ⟨v85, ee86⟩ : ∃ z : Int32, f76 1 = z := ⟨_, rfl⟩
  have b87 : Bd v85 (0) (40000) := (by rw [← ee86]; exact b78 1)
  obtain ⟨v88, ee89⟩ : ∃ z : Int32, f76 2 = z := ⟨_, rfl⟩
  have b90 : Bd v88 (0) (40000) := (by rw [← ee89]; exact b78 2)
  obtain ⟨f91, c92, b93⟩ := invM_12 hI
  refine lv_aload_n hx hb dX12_copyShore_0 rfl (lv_at hl 0 rfl) ?_
  obtain ⟨v94, v95, v97, v99, v101, v102, w103, v104, v106, v107, v108, v109, v111, v113, v115, v117, v119, v120, v121, c122, b96, b98, b100, b105, b110, b112, b114, b116, b118⟩ := invM_0 hI
  have c122 : S 0 = .inr (12, [.int v94, .ref (ad 1), .ref (ad 2), .ref (ad 3), .ref (ad 4), .ref (ad 5), .int v95, .int v97, .int v99, .int v101, .int v102, .long w103, .int v104, .int v106, .int v107, .int v108, .ref (ad 6), .ref (ad 7), .ref (ad 8), .ref (ad 9), .ref (ad 10), .ref (ad 11), .ref (ad 12), .ref (ad 13), .ref (ad 14), .ref (ad 15), .int v109, .int v111, .ref (ad 16), .int v113, .int v115, .int v117, .int v119, .int v120, .ref (ad 17), .ref (ad 18), .int v121, .ref (ad 19)]) := c122
  refine xget E hQ 0 (by decide) c122 rfl 16 (by decide) q1484 rfl dX12_copyShore_1 ?_
  refine lv_iconst (v := 1) hx hb dX12_copyShore_4 (by decide) ?_
  refine lv_iload_n hx hb dX12_copyShore_5 rfl (lv_at hl 1 rfl) ?_
  refine lv_iload_n hx hb dX12_copyShore_6 rfl (lv_at hl 2 rfl) ?_
  refine xcSv E hs hQ hml hl.1 (uCopyRow l g ad 20 hD S 6 (by decide) 5 (by decide) f76 1 3 0 (by decide) (by decide) (by decide) c77) mX12_copyRow q1743 rfl ⟨(Nat.le_of_ble_eq_true rfl), (Nat.le_of_ble_eq_true rfl)⟩ ⟨(Nat.le_of_ble_eq_true rfl), (Nat.le_of_ble_eq_true rfl)⟩ (Nat.le_of_ble_eq_true rfl) rfl dX12_copyShore_7 (fun S123 H locs eS123 hQ => ?_)
  have hI := invM_up_6 hI eS123 ⟨_, rfl, cp_b b78⟩
  have b125 : ∀ j, Bd ((cpF f76 1 3 0 1) j) (0) (40000) := cp_b b78
  have c124 : S123 6 = .inl (g.2 0, 5, .inl (cpF f76 1 3 0 1)) := up_at eS123 rfl
  refine lv_aload_n hx hb dX12_copyShore_10 rfl (lv_at hl 0 rfl) ?_
  have c126 : S123 0 = .inr (12, [.int v94, .ref (ad 1), .ref (ad 2), .ref (ad 3), .ref (ad 4), .ref (ad 5), .int v95, .int v97, .int v99, .int v101, .int v102, .long w103, .int v104, .int v106, .int v107, .int v108, .ref (ad 6), .ref (ad 7), .ref (ad 8), .ref (ad 9), .ref (ad 10), .ref (ad 11), .ref (ad 12), .ref (ad 13), .ref (ad 14), .ref (ad 15), .int v109, .int v111, .ref (ad 16), .int v113, .int v115, .int v117, .int v119, .int v120, .ref (ad 17), .ref (ad 18), .int v121, .ref (ad 19)]) := (up_ne eS123 (by decide) c122)
  refine xget E hQ 0 (by decide) c126 rfl 17 (by decide) q1485 rfl dX12_copyShore_11 ?_
  refine lv_bipush (v := 10) hx hb dX12_copyShore_14 (by decide) ?_
  refine lv_iload_n hx hb dX12_copyShore_16 rfl (lv_at hl 1 rfl) ?_
  refine lv_iload_n hx hb dX12_copyShore_17 rfl (lv_at hl 2 rfl) ?_
  have c127 : S123 7 = .inl (g.2 0, 50, .inl f1) := (up_ne eS123 (by decide) c2)
  refine xcSv E hs hQ hml hl.1 (uCopyRow l g ad 20 hD S123 7 (by decide) 50 (by decide) f1 10 3 0 (by decide) (by decide) (by decide) c127) mX12_copyRow q1743 rfl ⟨(Nat.le_of_ble_eq_true rfl), (Nat.le_of_ble_eq_true rfl)⟩ ⟨(Nat.le_of_ble_eq_true rfl), (Nat.le_of_ble_eq_true rfl)⟩ (Nat.le_of_ble_eq_true rfl) rfl dX12_copyShore_18 (fun S128 H locs eS128 hQ => ?_)
  have hI := invM_up_7 hI eS128 ⟨_, rfl, ⟨cp_m (q := 1) b3.1 (by decide), cp_m (q := 1) b3.2.1 (by decide), cp_m (q := 1) b3.2.2.1 (by decide), cp_m (q := 1) b3.2.2.2.1 (by decide), cp_m (q := 1) b3.2.2.2.2.1 (by decide), cp_m (q := 1) b3.2.2.2.2.2.1 (by decide), cp_m (q := 1) b3.2.2.2.2.2.2.1 (by decide), cp_m (q := 1) b3.2.2.2.2.2.2.2 (by decide)⟩⟩
  have b130 : (∀ j, j % 10 = 0 → Bd ((cpF f1 10 3 0 10) j) (0) (12)) ∧ (∀ j, j % 10 = 1 → Bd ((cpF f1 10 3 0 10) j) (0) (12)) ∧ (∀ j, j % 10 = 2 → Bd ((cpF f1 10 3 0 10) j) (0) (6)) ∧ (∀ j, j % 10 = 3 → Bd ((cpF f1 10 3 0 10) j) (0) (12)) ∧ (∀ j, j % 10 = 6 → Bd ((cpF f1 10 3 0 10) j) (0) (8)) ∧ (∀ j, j % 10 = 7 → Bd ((cpF f1 10 3 0 10) j) (0) (6)) ∧ (∀ j, j % 10 = 8 → Bd ((cpF f1 10 3 0 10) j) (0) (3)) ∧ (∀ j, j % 10 = 9 → Bd ((cpF f1 10 3 0 10) j) (0) (40)) := ⟨cp_m (q := 1) b3.1 (by decide), cp_m (q := 1) b3.2.1 (by decide), cp_m (q := 1) b3.2.2.1 (by decide), cp_m (q := 1) b3.2.2.2.1 (by decide), cp_m (q := 1) b3.2.2.2.2.1 (by decide), cp_m (q := 1) b3.2.2.2.2.2.1 (by decide), cp_m (q := 1) b3.2.2.2.2.2.2.1 (by decide), cp_m (q := 1) b3.2.2.2.2.2.2.2 (by decide)⟩
  have c129 : S128 7 = .inl (g.2 0, 50, .inl (cpF f1 10 3 0 10)) := up_at eS128 rfl
  refine lv_aload_n hx hb dX12_copyShore_21 rfl (lv_at hl 0 rfl) ?_
  have c131 : S128 0 = .inr (12, [.int v94, .ref (ad 1), .ref (ad 2), .ref (ad 3), .ref (ad 4), .ref (ad 5), .int v95, .int v97, .int v99, .int v101, .int v102, .long w103, .int v104, .int v106, .int v107, .int v108, .ref (ad 6), .ref (ad 7), .ref (ad 8), .ref (ad 9), .ref (ad 10), .ref (ad 11), .ref (ad 12), .ref (ad 13), .ref (ad 14), .ref (ad 15), .int v109, .int v111, .ref (ad 16), .int v113, .int v115, .int v117, .int v119, .int v120, .ref (ad 17), .ref (ad 18), .int v121, .ref (ad 19)]) := (up_ne eS128 (by decide) c126)
  refine xget E hQ 0 (by decide) c131 rfl 18 (by decide) q1486 rfl dX12_copyShore_22 ?_
  refine lv_bipush (v := 24) hx hb dX12_copyShore_25 (by decide) ?_
  refine lv_iload_n hx hb dX12_copyShore_27 rfl (lv_at hl 1 rfl) ?_
  refine lv_iload_n hx hb dX12_copyShore_28 rfl (lv_at hl 2 rfl) ?_
  obtain ⟨f132, c133⟩ := invM_8 hI
  refine xcSv E hs hQ hml hl.1 (uCopyRow l g ad 20 hD S128 8 (by decide) 120 (by decide) f132 24 3 0 (by decide) (by decide) (by decide) c133) mX12_copyRow q1743 rfl ⟨(Nat.le_of_ble_eq_true rfl), (Nat.le_of_ble_eq_true rfl)⟩ ⟨(Nat.le_of_ble_eq_true rfl), (Nat.le_of_ble_eq_true rfl)⟩ (Nat.le_of_ble_eq_true rfl) rfl dX12_copyShore_29 (fun S135 H locs eS135 hQ => ?_)
  have hI := invM_up_8 hI eS135 ⟨_, rfl⟩
  have c136 : S135 8 = .inl (g.2 0, 120, .inl (cpF f132 24 3 0 24)) := up_at eS135 rfl
  refine lv_aload_n hx hb dX12_copyShore_32 rfl (lv_at hl 0 rfl) ?_
  have c137 : S135 0 = .inr (12, [.int v94, .ref (ad 1), .ref (ad 2), .ref (ad 3), .ref (ad 4), .ref (ad 5), .int v95, .int v97, .int v99, .int v101, .int v102, .long w103, .int v104, .int v106, .int v107, .int v108, .ref (ad 6), .ref (ad 7), .ref (ad 8), .ref (ad 9), .ref (ad 10), .ref (ad 11), .ref (ad 12), .ref (ad 13), .ref (ad 14), .ref (ad 15), .int v109, .int v111, .ref (ad 16), .int v113, .int v115, .int v117, .int v119, .int v120, .ref (ad 17), .ref (ad 18), .int v121, .ref (ad 19)]) := (up_ne eS135 (by decide) c131)
  refine xget E hQ 0 (by decide) c137 rfl 19 (by decide) q1487 rfl dX12_copyShore_33 ?_
  refine lv_bipush (v := 24) hx hb dX12_copyShore_36 (by decide) ?_
  refine lv_iload_n hx hb dX12_copyShore_38 rfl (lv_at hl 1 rfl) ?_
  refine lv_iload_n hx hb dX12_copyShore_39 rfl (lv_at hl 2 rfl) ?_
  obtain ⟨f138, c139, b140⟩ := invM_9 hI
  refine xcSv E hs hQ hml hl.1 (uCopyRow l g ad 20 hD S135 9 (by decide) 120 (by decide) f138 24 3 0 (by decide) (by decide) (by decide) c139) mX12_copyRow q1743 rfl ⟨(Nat.le_of_ble_eq_true rfl), (Nat.le_of_ble_eq_true rfl)⟩ ⟨(Nat.le_of_ble_eq_true rfl), (Nat.le_of_ble_eq_true rfl)⟩ (Nat.le_of_ble_eq_true rfl) rfl dX12_copyShore_40 (fun S141 H locs eS141 hQ => ?_)
  have hI := invM_up_9 hI eS141 ⟨_, rfl, ⟨cp_m (q := 8) b140.1 (by decide), cp_m (q := 8) b140.2 (by decide)⟩⟩
  have b143 : (∀ j, j % 3 = 1 → Bd ((cpF f138 24 3 0 24) j) (0) (11)) ∧ (∀ j, j % 3 = 2 → Bd ((cpF f138 24 3 0 24) j) (0) (99)) := ⟨cp_m (q := 8) b140.1 (by decide), cp_m (q := 8) b140.2 (by decide)⟩
  have c142 : S141 9 = .inl (g.2 0, 120, .inl (cpF f138 24 3 0 24)) := up_at eS141 rfl
  refine lv_aload_n hx hb dX12_copyShore_43 rfl (lv_at hl 0 rfl) ?_
  have c144 : S141 0 = .inr (12, [.int v94, .ref (ad 1), .ref (ad 2), .ref (ad 3), .ref (ad 4), .ref (ad 5), .int v95, .int v97, .int v99, .int v101, .int v102, .long w103, .int v104, .int v106, .int v107, .int v108, .ref (ad 6), .ref (ad 7), .ref (ad 8), .ref (ad 9), .ref (ad 10), .ref (ad 11), .ref (ad 12), .ref (ad 13), .ref (ad 14), .ref (ad 15), .int v109, .int v111, .ref (ad 16), .int v113, .int v115, .int v117, .int v119, .int v120, .ref (ad 17), .ref (ad 18), .int v121, .ref (ad 19)]) := (up_ne eS141 (by decide) c137)
  refine xget E hQ 0 (by decide) c144 rfl 20 (by decide) q1488 rfl dX12_copyShore_44 ?_
  refine lv_bipush (v := 24) hx hb dX12_copyShore_47 (by decide) ?_
  refine lv_iload_n hx hb dX12_copyShore_49 rfl (lv_at hl 1 rfl) ?_
  refine lv_iload_n hx hb dX12_copyShore_50 rfl (lv_at hl 2 rfl) ?_
  obtain ⟨f145, c146⟩ := invM_10 hI
  refine xcSv E hs hQ hml hl.1 (uCopyRow l g ad 20 hD S141 10 (by decide) 120 (by decide) f145 24 3 0 (by decide) (by decide) (by decide) c146) mX12_copyRow q1743 rfl ⟨(Nat.le_of_ble_eq_true rfl), (Nat.le_of_ble_eq_true rfl)⟩ ⟨(Nat.le_of_ble_eq_true rfl), (Nat.le_of_ble_eq_true rfl)⟩ (Nat.le_of_ble_eq_true rfl) rfl dX12_copyShore_51 (fun S148 H locs eS148 hQ => ?_)
  have hI := invM_up_10 hI eS148 ⟨_, rfl⟩
  have c149 : S148 10 = .inl (g.2 0, 120, .inl (cpF f145 24 3 0 24)) := up_at eS148 rfl
  refine lv_aload_n hx hb dX12_copyShore_54 rfl (lv_at hl 0 rfl) ?_
  have c150 : S148 0 = .inr (12, [.int v94, .ref (ad 1), .ref (ad 2), .ref (ad 3), .ref (ad 4), .ref (ad 5), .int v95, .int v97, .int v99, .int v101, .int v102, .long w103, .int v104, .int v106, .int v107, .int v108, .ref (ad 6), .ref (ad 7), .ref (ad 8), .ref (ad 9), .ref (ad 10), .ref (ad 11), .ref (ad 12), .ref (ad 13), .ref (ad 14), .ref (ad 15), .int v109, .int v111, .ref (ad 16), .int v113, .int v115, .int v117, .int v119, .int v120, .ref (ad 17), .ref (ad 18), .int v121, .ref (ad 19)]) := (up_ne eS148 (by decide) c144)
  refine xget E hQ 0 (by decide) c150 rfl 21 (by decide) q1489 rfl dX12_copyShore_55 ?_
  refine lv_iconst (v := 3) hx hb dX12_copyShore_58 (by decide) ?_
  refine lv_iload_n hx hb dX12_copyShore_59 rfl (lv_at hl 1 rfl) ?_
  refine lv_iload_n hx hb dX12_copyShore_60 rfl (lv_at hl 2 rfl) ?_
  obtain ⟨f151, c152, b153⟩ := invM_11 hI
  refine xcSv E hs hQ hml hl.1 (uCopyRow l g ad 20 hD S148 11 (by decide) 15 (by decide) f151 3 3 0 (by decide) (by decide) (by decide) c152) mX12_copyRow q1743 rfl ⟨(Nat.le_of_ble_eq_true rfl), (Nat.le_of_ble_eq_true rfl)⟩ ⟨(Nat.le_of_ble_eq_true rfl), (Nat.le_of_ble_eq_true rfl)⟩ (Nat.le_of_ble_eq_true rfl) rfl dX12_copyShore_61 (fun S154 H locs eS154 hQ => ?_)
  have hI := invM_up_11 hI eS154 ⟨_, rfl, cp_b b153⟩
  have b156 : ∀ j, Bd ((cpF f151 3 3 0 3) j) (0) (11) := cp_b b153
  have c155 : S154 11 = .inl (g.2 0, 15, .inl (cpF f151 3 3 0 3)) := up_at eS154 rfl
  refine lv_aload_n hx hb dX12_copyShore_64 rfl (lv_at hl 0 rfl) ?_
  have c157 : S154 0 = .inr (12, [.int v94, .ref (ad 1), .ref (ad 2), .ref (ad 3), .ref (ad 4), .ref (ad 5), .int v95, .int v97, .int v99, .int v101, .int v102, .long w103, .int v104, .int v106, .int v107, .int v108, .ref (ad 6), .ref (ad 7), .ref (ad 8), .ref (ad 9), .ref (ad 10), .ref (ad 11), .ref (ad 12), .ref (ad 13), .ref (ad 14), .ref (ad 15), .int v109, .int v111, .ref (ad 16), .int v113, .int v115, .int v117, .int v119, .int v120, .ref (ad 17), .ref (ad 18), .int v121, .ref (ad 19)]) := (up_ne eS154 (by decide) c150)
  refine xget E hQ 0 (by decide) c157 rfl 22 (by decide) q1490 rfl dX12_copyShore_65 ?_
  refine lv_sipush (v := 160) hx hb dX12_copyShore_68 (by decide) ?_
  refine lv_iload_n hx hb dX12_copyShore_71 rfl (lv_at hl 1 rfl) ?_
  refine lv_iload_n hx hb dX12_copyShore_72 rfl (lv_at hl 2 rfl) ?_
  have c158 : S154 12 = .inl (g.2 0, 800, .inl f91) := (up_ne eS154 (by decide) (up_ne eS148 (by decide) (up_ne eS141 (by decide) (up_ne eS135 (by decide) (up_ne eS128 (by decide) (up_ne eS123 (by decide) c92))))))
  refine xcSv E hs hQ hml hl.1 (uCopyRow l g ad 20 hD S154 12 (by decide) 800 (by decide) f91 160 3 0 (by decide) (by decide) (by decide) c158) mX12_copyRow q1743 rfl ⟨(Nat.le_of_ble_eq_true rfl), (Nat.le_of_ble_eq_true rfl)⟩ ⟨(Nat.le_of_ble_eq_true rfl), (Nat.le_of_ble_eq_true rfl)⟩ (Nat.le_of_ble_eq_true rfl) rfl dX12_copyShore_73 (fun S159 H locs eS159 hQ => ?_)
  have hI := invM_up_12 hI eS159 ⟨_, rfl, ⟨cp_m (q := 40) b93.1 (by decide), cp_m (q := 40) b93.2 (by decide)⟩⟩
  have b161 : (∀ j, j % 4 = 1 → Bd ((cpF f91 160 3 0 160) j) (0) (7)) ∧ (∀ j, j % 4 = 2 → Bd ((cpF f91 160 3 0 160) j) (0) (400)) := ⟨cp_m (q := 40) b93.1 (by decide), cp_m (q := 40) b93.2 (by decide)⟩
  have c160 : S159 12 = .inl (g.2 0, 800, .inl (cpF f91 160 3 0 160)) := up_at eS159 rfl
  have q162 : elm (S 7) 30 = v4.toInt := (elm_of c2 30).trans (congrArg Int32.toInt (ee5))
  have c163 : S159 7 = .inl (g.2 0, 50, .inl (cpF f1 10 3 0 10)) := (up_ne eS159 (by decide) (up_ne eS154 (by decide) (up_ne eS148 (by decide) (up_ne eS141 (by decide) (up_ne eS135 (by decide) c129)))))
  have q164 : elm (S159 7) 0 = v4.toInt := (elm_of c163 0).trans (congrArg Int32.toInt (((show cpF f1 10 3 0 10 0 = f1 30 from rfl).trans (ee5))))
  have q165 : elm (S 7) 31 = v10.toInt := (elm_of c2 31).trans (congrArg Int32.toInt (ee11))
  have q166 : elm (S159 7) 1 = v10.toInt := (elm_of c163 1).trans (congrArg Int32.toInt (((show cpF f1 10 3 0 10 1 = f1 31 from rfl).trans (ee11))))
  have q167 : elm (S 7) 33 = v16.toInt := (elm_of c2 33).trans (congrArg Int32.toInt (ee17))
  have q168 : elm (S159 7) 3 = v16.toInt := (elm_of c163 3).trans (congrArg Int32.toInt (((show cpF f1 10 3 0 10 3 = f1 33 from rfl).trans (ee17))))
  have q169 : elm (S 7) 36 = v22.toInt := (elm_of c2 36).trans (congrArg Int32.toInt (ee23))
  have q170 : elm (S159 7) 6 = v22.toInt := (elm_of c163 6).trans (congrArg Int32.toInt (((show cpF f1 10 3 0 10 6 = f1 36 from rfl).trans (ee23))))
  have q171 : elm (S 7) 38 = v28.toInt := (elm_of c2 38).trans (congrArg Int32.toInt (ee29))
  have q172 : elm (S159 7) 8 = v28.toInt := (elm_of c163 8).trans (congrArg Int32.toInt (((show cpF f1 10 3 0 10 8 = f1 38 from rfl).trans (ee29))))
  have q173 : elm (S 7) 39 = v34.toInt := (elm_of c2 39).trans (congrArg Int32.toInt (ee35))
  have q174 : elm (S159 7) 9 = v34.toInt := (elm_of c163 9).trans (congrArg Int32.toInt (((show cpF f1 10 3 0 10 9 = f1 39 from rfl).trans (ee35))))
  have q175 : elm (S 7) 10 = v40.toInt := (elm_of c2 10).trans (congrArg Int32.toInt (ee41))
  have q176 : elm (S159 7) 10 = v40.toInt := (elm_of c163 10).trans (congrArg Int32.toInt (((show cpF f1 10 3 0 10 10 = f1 10 from rfl).trans (ee41))))
  have q177 : elm (S 7) 11 = v43.toInt := (elm_of c2 11).trans (congrArg Int32.toInt (ee44))
  have q178 : elm (S159 7) 11 = v43.toInt := (elm_of c163 11).trans (congrArg Int32.toInt (((show cpF f1 10 3 0 10 11 = f1 11 from rfl).trans (ee44))))
  have q179 : elm (S 7) 13 = v46.toInt := (elm_of c2 13).trans (congrArg Int32.toInt (ee47))
  have q180 : elm (S159 7) 13 = v46.toInt := (elm_of c163 13).trans (congrArg Int32.toInt (((show cpF f1 10 3 0 10 13 = f1 13 from rfl).trans (ee47))))
  have q181 : elm (S 7) 16 = v49.toInt := (elm_of c2 16).trans (congrArg Int32.toInt (ee50))
  have q182 : elm (S159 7) 16 = v49.toInt := (elm_of c163 16).trans (congrArg Int32.toInt (((show cpF f1 10 3 0 10 16 = f1 16 from rfl).trans (ee50))))
  have q183 : elm (S 7) 18 = v52.toInt := (elm_of c2 18).trans (congrArg Int32.toInt (ee53))
  have q184 : elm (S159 7) 18 = v52.toInt := (elm_of c163 18).trans (congrArg Int32.toInt (((show cpF f1 10 3 0 10 18 = f1 18 from rfl).trans (ee53))))
  have q185 : elm (S 7) 19 = v55.toInt := (elm_of c2 19).trans (congrArg Int32.toInt (ee56))
  have q186 : elm (S159 7) 19 = v55.toInt := (elm_of c163 19).trans (congrArg Int32.toInt (((show cpF f1 10 3 0 10 19 = f1 19 from rfl).trans (ee56))))
  have q187 : elm (S 7) 20 = v58.toInt := (elm_of c2 20).trans (congrArg Int32.toInt (ee59))
  have q188 : elm (S159 7) 20 = v58.toInt := (elm_of c163 20).trans (congrArg Int32.toInt (((show cpF f1 10 3 0 10 20 = f1 20 from rfl).trans (ee59))))
  have q189 : elm (S 7) 21 = v61.toInt := (elm_of c2 21).trans (congrArg Int32.toInt (ee62))
  have q190 : elm (S159 7) 21 = v61.toInt := (elm_of c163 21).trans (congrArg Int32.toInt (((show cpF f1 10 3 0 10 21 = f1 21 from rfl).trans (ee62))))
  have q191 : elm (S 7) 23 = v64.toInt := (elm_of c2 23).trans (congrArg Int32.toInt (ee65))
  have q192 : elm (S159 7) 23 = v64.toInt := (elm_of c163 23).trans (congrArg Int32.toInt (((show cpF f1 10 3 0 10 23 = f1 23 from rfl).trans (ee65))))
  have q193 : elm (S 7) 26 = v67.toInt := (elm_of c2 26).trans (congrArg Int32.toInt (ee68))
  have q194 : elm (S159 7) 26 = v67.toInt := (elm_of c163 26).trans (congrArg Int32.toInt (((show cpF f1 10 3 0 10 26 = f1 26 from rfl).trans (ee68))))
  have q195 : elm (S 7) 28 = v70.toInt := (elm_of c2 28).trans (congrArg Int32.toInt (ee71))
  have q196 : elm (S159 7) 28 = v70.toInt := (elm_of c163 28).trans (congrArg Int32.toInt (((show cpF f1 10 3 0 10 28 = f1 28 from rfl).trans (ee71))))
  have q197 : elm (S 7) 29 = v73.toInt := (elm_of c2 29).trans (congrArg Int32.toInt (ee74))
  have q198 : elm (S159 7) 29 = v73.toInt := (elm_of c163 29).trans (congrArg Int32.toInt (((show cpF f1 10 3 0 10 29 = f1 29 from rfl).trans (ee74))))
  have q199 : elm (S159 7) 30 = v4.toInt := (elm_of c163 30).trans (congrArg Int32.toInt (((show cpF f1 10 3 0 10 30 = f1 30 from rfl).trans (ee5))))
  have q200 : elm (S159 7) 31 = v10.toInt := (elm_of c163 31).trans (congrArg Int32.toInt (((show cpF f1 10 3 0 10 31 = f1 31 from rfl).trans (ee11))))
  have q201 : elm (S159 7) 33 = v16.toInt := (elm_of c163 33).trans (congrArg Int32.toInt (((show cpF f1 10 3 0 10 33 = f1 33 from rfl).trans (ee17))))
  have q202 : elm (S159 7) 36 = v22.toInt := (elm_of c163 36).trans (congrArg Int32.toInt (((show cpF f1 10 3 0 10 36 = f1 36 from rfl).trans (ee23))))
  have q203 : elm (S159 7) 38 = v28.toInt := (elm_of c163 38).trans (congrArg Int32.toInt (((show cpF f1 10 3 0 10 38 = f1 38 from rfl).trans (ee29))))
  have q204 : elm (S159 7) 39 = v34.toInt := (elm_of c163 39).trans (congrArg Int32.toInt (((show cpF f1 10 3 0 10 39 = f1 39 from rfl).trans (ee35))))
  have q205 : elm (S 6) 3 = v79.toInt := (elm_of c77 3).trans (congrArg Int32.toInt (ee80))
  have c206 : S159 6 = .inl (g.2 0, 5, .inl (cpF f76 1 3 0 1)) := (up_ne eS159 (by decide) (up_ne eS154 (by decide) (up_ne eS148 (by decide) (up_ne eS141 (by decide) (up_ne eS135 (by decide) (up_ne eS128 (by decide) c124))))))
  have q207 : elm (S159 6) 0 = v79.toInt := (elm_of c206 0).trans (congrArg Int32.toInt (((show cpF f76 1 3 0 1 0 = f76 3 from rfl).trans (ee80))))
  have q208 : elm (S 6) 1 = v85.toInt := (elm_of c77 1).trans (congrArg Int32.toInt (ee86))
  have q209 : elm (S159 6) 1 = v85.toInt := (elm_of c206 1).trans (congrArg Int32.toInt (((show cpF f76 1 3 0 1 1 = f76 1 from rfl).trans (ee86))))
  have q210 : elm (S 6) 2 = v88.toInt := (elm_of c77 2).trans (congrArg Int32.toInt (ee89))
  have q211 : elm (S159 6) 2 = v88.toInt := (elm_of c206 2).trans (congrArg Int32.toInt (((show cpF f76 1 3 0 1 2 = f76 2 from rfl).trans (ee89))))
  have q212 : elm (S159 6) 3 = v79.toInt := (elm_of c206 3).trans (congrArg Int32.toInt (((show cpF f76 1 3 0 1 3 = f76 3 from rfl).trans (ee80))))
  exact xrv E hr hlk hQ (⟨hI, (up_o (up_o (up_o (up_o (up_o (up_o (up_o o_refl eS123 (by decide)) eS128 (by decide)) eS135 (by decide)) eS141 (by decide)) eS148 (by decide)) eS154 (by decide)) eS159 (by decide)), ⟨by omega, by omega⟩, ⟨by omega, by omega⟩, ⟨by omega, by omega⟩, ⟨by omega, by omega⟩, ⟨by omega, by omega⟩, ⟨by omega, by omega⟩, ⟨by omega, by omega⟩, ⟨by omega, by omega⟩, ⟨by omega, by omega⟩, ⟨by omega, by omega⟩, ⟨by omega, by omega⟩, ⟨by omega, by omega⟩, ⟨by omega, by omega⟩, ⟨by omega, by omega⟩, ⟨by omega, by omega⟩, ⟨by omega, by omega⟩, ⟨by omega, by omega⟩, ⟨by omega, by omega⟩, ⟨by omega, by omega⟩, ⟨by omega, by omega⟩, ⟨by omega, by omega⟩, ⟨by omega, by omega⟩, ⟨by omega, by omega⟩, ⟨by omega, by omega⟩, ⟨by omega, by omega⟩, ⟨by omega, by omega⟩, ⟨by omega, by omega⟩, ⟨by omega, by omega⟩, (at_cpb c2 c92 c163 c160 b3.2.2.2.2.2.2.2 hAT3), (at_cpo c2 c92 c163 c160 b3.2.2.2.2.2.2.2 (by decide) hAT1), (at_cpo c2 c92 c163 c160 b3.2.2.2.2.2.2.2 (by decide) hAT2), (at_cpo c2 c92 c163 c160 b3.2.2.2.2.2.2.2 (by decide) hAT3)⟩) dX12_copyShore_76
set_option maxHeartbeats 4000000 in
set_option maxRecDepth 100000 in
theorem gX12_acts_0 (l : Launch) (g : GG) (ad : Nat → Nat) (hD : Dj ad 20) (S : SS) (hI : InvM g ad S) (a1 : Int32) (a2 : Int32) (a3 : Int32) (a4 : Int32) (ba1 : Bd a1 (0) (1)) (ba2 : Bd a2 (0) (7)) (ba3 : Bd a3 (0) (400)) (ba4 : Bd a4 (0) (1)) (hq1 : 0 ≤ (-1) * elm (S 7) 9 + 39) (hAT0 : ATp (S 7) (S 12) 0) (hAT1 : ATp (S 7) (S 12) 1) (hAT2 : ATp (S 7) (S 12) 2) (hAT3 : ATp (S 7) (S 12) 3) (hw : a1.toInt = 0 → a2.toInt ≤ 2 ∧ a3.toInt ≤ 11) : Met l yX12_acts (wG (.code yX12_acts cX12_acts 6 none)) (Rm 0) (XPre g ad 20 S [.ref (ad 0), .int a1, .int a2, .int a3, .int a4]) (va_Qv (fun S' => InvM g ad S' ∧ (∀ j, j ∉ ([7, 12] : List Nat) → S' j = S j) ∧ (0 ≤ elm (S 7) 9 + (-1) * elm (S' 7) 9 + 1 ∧ 0 ≤ elm (S' 7) 9 + (-1) * elm (S 7) 9 + (-1)) ∧ (0 ≤ elm (S 7) 0 + (-1) * elm (S' 7) 0 ∧ 0 ≤ elm (S' 7) 0 + (-1) * elm (S 7) 0) ∧ (0 ≤ elm (S 7) 1 + (-1) * elm (S' 7) 1 ∧ 0 ≤ elm (S' 7) 1 + (-1) * elm (S 7) 1) ∧ (0 ≤ elm (S 7) 3 + (-1) * elm (S' 7) 3 ∧ 0 ≤ elm (S' 7) 3 + (-1) * elm (S 7) 3) ∧ (0 ≤ elm (S 7) 6 + (-1) * elm (S' 7) 6 ∧ 0 ≤ elm (S' 7) 6 + (-1) * elm (S 7) 6) ∧ (0 ≤ elm (S 7) 8 + (-1) * elm (S' 7) 8 ∧ 0 ≤ elm (S' 7) 8 + (-1) * elm (S 7) 8) ∧ (0 ≤ elm (S 7) 10 + (-1) * elm (S' 7) 10 ∧ 0 ≤ elm (S' 7) 10 + (-1) * elm (S 7) 10) ∧ (0 ≤ elm (S 7) 11 + (-1) * elm (S' 7) 11 ∧ 0 ≤ elm (S' 7) 11 + (-1) * elm (S 7) 11) ∧ (0 ≤ elm (S 7) 13 + (-1) * elm (S' 7) 13 ∧ 0 ≤ elm (S' 7) 13 + (-1) * elm (S 7) 13) ∧ (0 ≤ elm (S 7) 16 + (-1) * elm (S' 7) 16 ∧ 0 ≤ elm (S' 7) 16 + (-1) * elm (S 7) 16) ∧ (0 ≤ elm (S 7) 18 + (-1) * elm (S' 7) 18 ∧ 0 ≤ elm (S' 7) 18 + (-1) * elm (S 7) 18) ∧ (0 ≤ elm (S 7) 19 + (-1) * elm (S' 7) 19 ∧ 0 ≤ elm (S' 7) 19 + (-1) * elm (S 7) 19) ∧ (0 ≤ elm (S 7) 20 + (-1) * elm (S' 7) 20 ∧ 0 ≤ elm (S' 7) 20 + (-1) * elm (S 7) 20) ∧ (0 ≤ elm (S 7) 21 + (-1) * elm (S' 7) 21 ∧ 0 ≤ elm (S' 7) 21 + (-1) * elm (S 7) 21) ∧ (0 ≤ elm (S 7) 23 + (-1) * elm (S' 7) 23 ∧ 0 ≤ elm (S' 7) 23 + (-1) * elm (S 7) 23) ∧ (0 ≤ elm (S 7) 26 + (-1) * elm (S' 7) 26 ∧ 0 ≤ elm (S' 7) 26 + (-1) * elm (S 7) 26) ∧ (0 ≤ elm (S 7) 28 + (-1) * elm (S' 7) 28 ∧ 0 ≤ elm (S' 7) 28 + (-1) * elm (S 7) 28) ∧ (0 ≤ elm (S 7) 29 + (-1) * elm (S' 7) 29 ∧ 0 ≤ elm (S' 7) 29 + (-1) * elm (S 7) 29) ∧ (0 ≤ elm (S 7) 30 + (-1) * elm (S' 7) 30 ∧ 0 ≤ elm (S' 7) 30 + (-1) * elm (S 7) 30) ∧ (0 ≤ elm (S 7) 31 + (-1) * elm (S' 7) 31 ∧ 0 ≤ elm (S' 7) 31 + (-1) * elm (S 7) 31) ∧ (0 ≤ elm (S 7) 33 + (-1) * elm (S' 7) 33 ∧ 0 ≤ elm (S' 7) 33 + (-1) * elm (S 7) 33) ∧ (0 ≤ elm (S 7) 36 + (-1) * elm (S' 7) 36 ∧ 0 ≤ elm (S' 7) 36 + (-1) * elm (S 7) 36) ∧ (0 ≤ elm (S 7) 38 + (-1) * elm (S' 7) 38 ∧ 0 ≤ elm (S' 7) 38 + (-1) * elm (S 7) 38) ∧ (0 ≤ elm (S 7) 39 + (-1) * elm (S' 7) 39 ∧ 0 ≤ elm (S' 7) 39 + (-1) * elm (S 7) 39) ∧ (ATp (S' 7) (S' 12) 0) ∧ (ATp (S' 7) (S' 12) 1) ∧ (ATp (S' 7) (S' 12) 2) ∧ (ATp (S' 7) (S' 12) 3)) (QB g ad 20) (FA ad 20)) 0 0 (FA ad 20) := by
  refine xmet cX12_acts "EbbWreckModel" (by decide) rfl (Nat.le_of_ble_eq_true rfl) (fun p e s m below meth c E hr hlk hml hQ ls hl => ?_)
  have hx := E.1
  have hb := E.2.1
  have hs : Sp ad 20 (FA ad 20) := Sp.fa hD
  have hl : lv_has ls 6 [(0, .ref (ad 0)), (1, .int a1), (2, .int a2), (3, .int a3), (4, .int a4)] := hl
  obtain ⟨f1, c2, b3⟩ := invM_7 hI
  obtain ⟨v4, ee5⟩ : ∃ z : Int32, f1 9 = z := ⟨_, rfl⟩
  have b6 : Bd v4 (0) (40) := (by rw [← ee5]; exact b3.2.2.2.2.2.2.2 9 (by decide))
  obtain ⟨v7, ee8⟩ : ∃ z : Int32, f1 0 = z := ⟨_, rfl⟩
  have b9 : Bd v7 (0) (12) := (by rw [← ee8]; exact b3.1 0 (by decide))
  obtain ⟨v10, ee11⟩ : ∃ z : Int32, f1 1 = z := ⟨_, rfl⟩
  have b12 : Bd v10 (0) (12) := (by rw [← ee11]; exact b3.2.1 1 (by decide))
  obtain ⟨v13, ee14⟩ : ∃ z : Int32, f1 3 = z := ⟨_, rfl⟩
  have b15 : Bd v13 (0) (12) := (by rw [← ee14]; exact b3.2.2.2.1 3 (by decide))
  obtain ⟨v16, ee17⟩ : ∃ z : Int32, f1 6 = z := ⟨_, rfl⟩
  have b18 : Bd v16 (0) (8) := (by rw [← ee17]; exact b3.2.2.2.2.1 6 (by decide))
  obtain ⟨v19, ee20⟩ : ∃ z : Int32, f1 8 = z := ⟨_, rfl⟩
  have b21 : Bd v19 (0) (3) := (by rw [← ee20]; exact b3.2.2.2.2.2.2.1 8 (by decide))
  obtain ⟨v22, ee23⟩ : ∃ z : Int32, f1 10 = z := ⟨_, rfl⟩
  have b24 : Bd v22 (0) (12) := (by rw [← ee23]; exact b3.1 10 (by decide))
  obtain ⟨v25, ee26⟩ : ∃ z : Int32, f1 11 = z := ⟨_, rfl⟩
  have b27 : Bd v25 (0) (12) := (by rw [← ee26]; exact b3.2.1 11 (by decide))
  obtain ⟨v28, ee29⟩ : ∃ z : Int32, f1 13 = z := ⟨_, rfl⟩
  have b30 : Bd v28 (0) (12) := (by rw [← ee29]; exact b3.2.2.2.1 13 (by decide))
  obtain ⟨v31, ee32⟩ : ∃ z : Int32, f1 16 = z := ⟨_, rfl⟩
  have b33 : Bd v31 (0) (8) := (by rw [← ee32]; exact b3.2.2.2.2.1 16 (by decide))
  obtain ⟨v34, ee35⟩ : ∃ z : Int32, f1 18 = z := ⟨_, rfl⟩
  have b36 : Bd v34 (0) (3) := (by rw [← ee35]; exact b3.2.2.2.2.2.2.1 18 (by decide))
  obtain ⟨v37, ee38⟩ : ∃ z : Int32, f1 19 = z := ⟨_, rfl⟩
  have b39 : Bd v37 (0) (40) := (by rw [← ee38]; exact b3.2.2.2.2.2.2.2 19 (by decide))
  obtain ⟨v40, ee41⟩ : ∃ z : Int32, f1 20 = z := ⟨_, rfl⟩
  have b42 : Bd v40 (0) (12) := (by rw [← ee41]; exact b3.1 20 (by decide))
  obtain ⟨v43, ee44⟩ : ∃ z : Int32, f1 21 = z := ⟨_, rfl⟩
  have b45 : Bd v43 (0) (12) := (by rw [← ee44]; exact b3.2.1 21 (by decide))
  obtain ⟨v46, ee47⟩ : ∃ z : Int32, f1 23 = z := ⟨_, rfl⟩
  have b48 : Bd v46 (0) (12) := (by rw [← ee47]; exact b3.2.2.2.1 23 (by decide))
  obtain ⟨v49, ee50⟩ : ∃ z : Int32, f1 26 = z := ⟨_, rfl⟩
  have b51 : Bd v49 (0) (8) := (by rw [← ee50]; exact b3.2.2.2.2.1 26 (by decide))
  obtain ⟨v52, ee53⟩ : ∃ z : Int32, f1 28 = z := ⟨_, rfl⟩
  have b54 : Bd v52 (0) (3) := (by rw [← ee53]; exact b3.2.2.2.2.2.2.1 28 (by decide))
  obtain ⟨v55, ee56⟩ : ∃ z : Int32, f1 29 = z := ⟨_, rfl⟩
  have b57 : Bd v55 (0) (40) := (by rw [← ee56]; exact b3.2.2.2.2.2.2.2 29 (by decide))
  obtain ⟨v58, ee59⟩ : ∃ z : Int32, f1 30 = z := ⟨_, rfl⟩
  have b60 : Bd v58 (0) (12) := (by rw [← ee59]; exact b3.1 30 (by decide))
  obtain ⟨v61, ee62⟩ : ∃ z : Int32, f1 31 = z := ⟨_, rfl⟩
  have b63 : Bd v61 (0) (12) := (by rw [← ee62]; exact b3.2.1 31 (by decide))
  obtain ⟨v64, ee65⟩ : ∃ z : Int32, f1 33 = z := ⟨_, rfl⟩
  have b66 : Bd v64 (0) (12) := (by rw [← ee65]; exact b3.2.2.2.1 33 (by decide))
  obtain ⟨v67, ee68⟩ : ∃ z : Int32, f1 36 = z := ⟨_, rfl⟩
  have b69 : Bd v67 (0) (8) := (by rw [← ee68]; exact b3.2.2.2.2.1 36 (by decide))
  obtain ⟨v70, ee71⟩ : ∃ z : Int32, f1 38 = z := ⟨_, rfl⟩
  have b72 : Bd v70 (0) (3) := (by rw [← ee71]; exact b3.2.2.2.2.2.2.1 38 (by decide))
  obtain ⟨v73, ee74⟩ : ∃ z : Int32, f1 39 = z := ⟨_, rfl⟩
  have b75 : Bd v73 (0) (40) := (by rw [← ee74]; exact b3.2.2.2.2.2.2.2 39 (by decide))
  have q76 : elm (S 7) 9 = v4.toInt := (elm_of c2 9).trans (congrArg Int32.toInt (ee5))
  have b77 : Bd v4 (0) (39) := ⟨(b6).1, by omega⟩
  obtain ⟨f78, c79, b80⟩ := invM_12 hI
  obtain ⟨f81, c82, b83⟩ := invM_6 hI
  obtain ⟨v84, ee85⟩ : ∃ z : Int32, f81 0 = z := ⟨_, rfl⟩
  have b86 : Bd v84 (0) (40000) := (by rw [← ee85]; exact b83 0)
  obtain ⟨v87, ee88⟩ : ∃ z : Int32, f81 1 = z := ⟨_, rfl⟩
  have b89 : Bd v87 (0) (40000) := (by rw [← ee88]; exact b83 1)
  obtain ⟨v90, ee91⟩ : ∃ z : Int32, f81 2 = z := ⟨_, rfl⟩
  have b92 : Bd v90 (0) (40000) := (by rw [← ee91]; exact b83 2)
  obtain ⟨v93, ee94⟩ : ∃ z : Int32, f81 3 = z := ⟨_, rfl⟩
  have b95 : Bd v93 (0) (40000) := (by rw [← ee94]; exact b83 3)
  refine lv_iconst (v := 4) hx hb dX12_acts_0 (by decide) ?_
  refine lv_aload_n hx hb dX12_acts_1 rfl (lv_at hl 0 rfl) ?_
  obtain ⟨v96, v97, v99, v101, v103, v104, w105, v106, v108, v109, v110, v111, v113, v115, v117, v119, v121, v122, v123, c124, b98, b100, b102, b107, b112, b114, b116, b118, b120⟩ := invM_0 hI
  have c124 : S 0 = .inr (12, [.int v96, .ref (ad 1), .ref (ad 2), .ref (ad 3), .ref (ad 4), .ref (ad 5), .int v97, .int v99, .int v101, .int v103, .int v104, .long w105, .int v106, .int v108, .int v109, .int v110, .ref (ad 6), .ref (ad 7), .ref (ad 8), .ref (ad 9), .ref (ad 10), .ref (ad 11), .ref (ad 12), .ref (ad 13), .ref (ad 14), .ref (ad 15), .int v111, .int v113, .ref (ad 16), .int v115, .int v117, .int v119, .int v121, .int v122, .ref (ad 17), .ref (ad 18), .int v123, .ref (ad 19)]) := c124
  refine xget E hQ 0 (by decide) c124 rfl 17 (by decide) q1485 rfl dX12_acts_2 ?_
  refine lv_bipush (v := 9) hx hb dX12_acts_5 (by decide) ?_
  refine xiald E hQ 7 (by decide) c2 (vp_in_lit 9 50 (by decide)) dX12_acts_7 ?_
  refine sb_at (P := fun z => W _ _ _ _ _ _ _ _ _ _ _ _ _ _ _ (F0 _ _ _ (.int z :: _))) (show f1 (9 : Int32).toNatClampNeg = v4 from ee5) ?_
  refine lv_imul hx hb dX12_acts_8 ?_
  refine lv_topi (fun z125 e126 => ?_)
  have t127 := ib_cmul (q := 4) e126 (by decide) (by decide) b77 (by decide) (by decide)
  have b128 : Bd z125 (0) (156) := ib_mulb t127 (by decide) b77
  refine lv_istore (lv' := [(5, .int z125), (0, .ref (ad 0)), (1, .int a1), (2, .int a2), (3, .int a3), (4, .int a4)]) hx hb dX12_acts_9 hl (by decide) rfl (fun ls hl => ?_)
  refine lv_aload_n hx hb dX12_acts_11 rfl (lv_at hl 1 rfl) ?_
  refine xget E hQ 0 (by decide) c124 rfl 22 (by decide) q1490 rfl dX12_acts_12 ?_
  refine lv_iload hx hb dX12_acts_15 (lv_at hl 0 rfl) ?_
  refine lv_iload_n hx hb dX12_acts_17 rfl (lv_at hl 2 rfl) ?_
  refine xiast E hs hQ 12 (by decide) c79 (ib_in b128 (by decide) (by decide)) dX12_acts_18 (fun H locs S129 eS129 hQ => ?_)
  have hI := invM_up_12 hI eS129 ⟨_, rfl, ⟨upd_mn b80.1 (by rw [clampN b128]; omega), upd_mn b80.2 (by rw [clampN b128]; omega)⟩⟩
  have b131 : (∀ j, j % 4 = 1 → Bd ((upd f78 (z125 : Int32).toNatClampNeg a1) j) (0) (7)) ∧ (∀ j, j % 4 = 2 → Bd ((upd f78 (z125 : Int32).toNatClampNeg a1) j) (0) (400)) := ⟨upd_mn b80.1 (by rw [clampN b128]; omega), upd_mn b80.2 (by rw [clampN b128]; omega)⟩
  have c130 : S129 12 = .inl (g.2 0, 800, .inl (upd f78 (z125 : Int32).toNatClampNeg a1)) := up_at eS129 rfl
  refine lv_aload_n hx hb dX12_acts_19 rfl (lv_at hl 1 rfl) ?_
  have c132 : S129 0 = .inr (12, [.int v96, .ref (ad 1), .ref (ad 2), .ref (ad 3), .ref (ad 4), .ref (ad 5), .int v97, .int v99, .int v101, .int v103, .int v104, .long w105, .int v106, .int v108, .int v109, .int v110, .ref (ad 6), .ref (ad 7), .ref (ad 8), .ref (ad 9), .ref (ad 10), .ref (ad 11), .ref (ad 12), .ref (ad 13), .ref (ad 14), .ref (ad 15), .int v111, .int v113, .ref (ad 16), .int v115, .int v117, .int v119, .int v121, .int v122, .ref (ad 17), .ref (ad 18), .int v123, .ref (ad 19)]) := (up_ne eS129 (by decide) c124)
  refine xget E hQ 0 (by decide) c132 rfl 22 (by decide) q1490 rfl dX12_acts_20 ?_
  refine lv_iload hx hb dX12_acts_23 (lv_at hl 0 rfl) ?_
  refine lv_iconst (v := 1) hx hb dX12_acts_25 (by decide) ?_
  refine lv_iadd hx hb dX12_acts_26 ?_
  refine lv_topi (fun z133 e134 => ?_)
  have t135 := ib_add e134 b128 (by decide : Bd 1 (1) (1)) (by decide) (by decide)
  have b136 : Bd z133 (1) (157) := ib_addb t135 b128 (by decide : Bd 1 (1) (1))
  have t135 : z133.toInt = z125.toInt + 1 := fold_add t135 rfl (by decide)
  refine lv_iload_n hx hb dX12_acts_27 rfl (lv_at hl 3 rfl) ?_
  refine xiast E hs hQ 12 (by decide) c130 (ib_in b136 (by decide) (by decide)) dX12_acts_28 (fun H locs S137 eS137 hQ => ?_)
  have hI := invM_up_12 hI eS137 ⟨_, rfl, ⟨upd_m b131.1 ba2, upd_mn b131.2 (by rw [clampN b136]; omega)⟩⟩
  have b139 : (∀ j, j % 4 = 1 → Bd ((upd (upd f78 (z125 : Int32).toNatClampNeg a1) (z133 : Int32).toNatClampNeg a2) j) (0) (7)) ∧ (∀ j, j % 4 = 2 → Bd ((upd (upd f78 (z125 : Int32).toNatClampNeg a1) (z133 : Int32).toNatClampNeg a2) j) (0) (400)) := ⟨upd_m b131.1 ba2, upd_mn b131.2 (by rw [clampN b136]; omega)⟩
  have c138 : S137 12 = .inl (g.2 0, 800, .inl (upd (upd f78 (z125 : Int32).toNatClampNeg a1) (z133 : Int32).toNatClampNeg a2)) := up_at eS137 rfl
  refine lv_aload_n hx hb dX12_acts_29 rfl (lv_at hl 1 rfl) ?_
  have c140 : S137 0 = .inr (12, [.int v96, .ref (ad 1), .ref (ad 2), .ref (ad 3), .ref (ad 4), .ref (ad 5), .int v97, .int v99, .int v101, .int v103, .int v104, .long w105, .int v106, .int v108, .int v109, .int v110, .ref (ad 6), .ref (ad 7), .ref (ad 8), .ref (ad 9), .ref (ad 10), .ref (ad 11), .ref (ad 12), .ref (ad 13), .ref (ad 14), .ref (ad 15), .int v111, .int v113, .ref (ad 16), .int v115, .int v117, .int v119, .int v121, .int v122, .ref (ad 17), .ref (ad 18), .int v123, .ref (ad 19)]) := (up_ne eS137 (by decide) c132)
  refine xget E hQ 0 (by decide) c140 rfl 22 (by decide) q1490 rfl dX12_acts_30 ?_
  refine lv_iload hx hb dX12_acts_33 (lv_at hl 0 rfl) ?_
  refine lv_iconst (v := 2) hx hb dX12_acts_35 (by decide) ?_
  refine lv_iadd hx hb dX12_acts_36 ?_
  refine lv_topi (fun z141 e142 => ?_)
  have t143 := ib_add e142 b128 (by decide : Bd 2 (2) (2)) (by decide) (by decide)
  have b144 : Bd z141 (2) (158) := ib_addb t143 b128 (by decide : Bd 2 (2) (2))
  have t143 : z141.toInt = z125.toInt + 2 := fold_add t143 rfl (by decide)
  refine lv_iload_n hx hb dX12_acts_37 rfl (lv_at hl 4 rfl) ?_
  refine xiast E hs hQ 12 (by decide) c138 (ib_in b144 (by decide) (by decide)) dX12_acts_38 (fun H locs S145 eS145 hQ => ?_)
  have hI := invM_up_12 hI eS145 ⟨_, rfl, ⟨upd_mn b139.1 (by rw [clampN b144]; omega), upd_m b139.2 ba3⟩⟩
  have b147 : (∀ j, j % 4 = 1 → Bd ((upd (upd (upd f78 (z125 : Int32).toNatClampNeg a1) (z133 : Int32).toNatClampNeg a2) (z141 : Int32).toNatClampNeg a3) j) (0) (7)) ∧ (∀ j, j % 4 = 2 → Bd ((upd (upd (upd f78 (z125 : Int32).toNatClampNeg a1) (z133 : Int32).toNatClampNeg a2) (z141 : Int32).toNatClampNeg a3) j) (0) (400)) := ⟨upd_mn b139.1 (by rw [clampN b144]; omega), upd_m b139.2 ba3⟩
  have c146 : S145 12 = .inl (g.2 0, 800, .inl (upd (upd (upd f78 (z125 : Int32).toNatClampNeg a1) (z133 : Int32).toNatClampNeg a2) (z141 : Int32).toNatClampNeg a3)) := up_at eS145 rfl
  refine lv_aload_n hx hb dX12_acts_39 rfl (lv_at hl 1 rfl) ?_
  have c148 : S145 0 = .inr (12, [.int v96, .ref (ad 1), .ref (ad 2), .ref (ad 3), .ref (ad 4), .ref (ad 5), .int v97, .int v99, .int v101, .int v103, .int v104, .long w105, .int v106, .int v108, .int v109, .int v110, .ref (ad 6), .ref (ad 7), .ref (ad 8), .ref (ad 9), .ref (ad 10), .ref (ad 11), .ref (ad 12), .ref (ad 13), .ref (ad 14), .ref (ad 15), .int v111, .int v113, .ref (ad 16), .int v115, .int v117, .int v119, .int v121, .int v122, .ref (ad 17), .ref (ad 18), .int v123, .ref (ad 19)]) := (up_ne eS145 (by decide) c140)
  refine xget E hQ 0 (by decide) c148 rfl 22 (by decide) q1490 rfl dX12_acts_40 ?_
  refine lv_iload hx hb dX12_acts_43 (lv_at hl 0 rfl) ?_
  refine lv_iconst (v := 3) hx hb dX12_acts_45 (by decide) ?_
  refine lv_iadd hx hb dX12_acts_46 ?_
  refine lv_topi (fun z149 e150 => ?_)
  have t151 := ib_add e150 b128 (by decide : Bd 3 (3) (3)) (by decide) (by decide)
  have b152 : Bd z149 (3) (159) := ib_addb t151 b128 (by decide : Bd 3 (3) (3))
  have t151 : z149.toInt = z125.toInt + 3 := fold_add t151 rfl (by decide)
  refine lv_iload hx hb dX12_acts_47 (lv_at hl 5 rfl) ?_
  refine xiast E hs hQ 12 (by decide) c146 (ib_in b152 (by decide) (by decide)) dX12_acts_49 (fun H locs S153 eS153 hQ => ?_)
  have hI := invM_up_12 hI eS153 ⟨_, rfl, ⟨upd_mn b147.1 (by rw [clampN b152]; omega), upd_mn b147.2 (by rw [clampN b152]; omega)⟩⟩
  have b155 : (∀ j, j % 4 = 1 → Bd ((upd (upd (upd (upd f78 (z125 : Int32).toNatClampNeg a1) (z133 : Int32).toNatClampNeg a2) (z141 : Int32).toNatClampNeg a3) (z149 : Int32).toNatClampNeg a4) j) (0) (7)) ∧ (∀ j, j % 4 = 2 → Bd ((upd (upd (upd (upd f78 (z125 : Int32).toNatClampNeg a1) (z133 : Int32).toNatClampNeg a2) (z141 : Int32).toNatClampNeg a3) (z149 : Int32).toNatClampNeg a4) j) (0) (400)) := ⟨upd_mn b147.1 (by rw [clampN b152]; omega), upd_mn b147.2 (by rw [clampN b152]; omega)⟩
  have c154 : S153 12 = .inl (g.2 0, 800, .inl (upd (upd (upd (upd f78 (z125 : Int32).toNatClampNeg a1) (z133 : Int32).toNatClampNeg a2) (z141 : Int32).toNatClampNeg a3) (z149 : Int32).toNatClampNeg a4)) := up_at eS153 rfl
  refine lv_aload_n hx hb dX12_acts_50 rfl (lv_at hl 1 rfl) ?_
  have c156 : S153 0 = .inr (12, [.int v96, .ref (ad 1), .ref (ad 2), .ref (ad 3), .ref (ad 4), .ref (ad 5), .int v97, .int v99, .int v101, .int v103, .int v104, .long w105, .int v106, .int v108, .int v109, .int v110, .ref (ad 6), .ref (ad 7), .ref (ad 8), .ref (ad 9), .ref (ad 10), .ref (ad 11), .ref (ad 12), .ref (ad 13), .ref (ad 14), .ref (ad 15), .int v111, .int v113, .ref (ad 16), .int v115, .int v117, .int v119, .int v121, .int v122, .ref (ad 17), .ref (ad 18), .int v123, .ref (ad 19)]) := (up_ne eS153 (by decide) c148)
  refine xget E hQ 0 (by decide) c156 rfl 17 (by decide) q1485 rfl dX12_acts_51 ?_
  refine lv_bipush (v := 9) hx hb dX12_acts_54 (by decide) ?_
  refine lv_dup2_11 hx hb dX12_acts_56 rfl rfl ?_
  have c157 : S153 7 = .inl (g.2 0, 50, .inl f1) := (up_ne eS153 (by decide) (up_ne eS145 (by decide) (up_ne eS137 (by decide) (up_ne eS129 (by decide) c2))))
  refine xiald E hQ 7 (by decide) c157 (vp_in_lit 9 50 (by decide)) dX12_acts_57 ?_
  refine sb_at (P := fun z => W _ _ _ _ _ _ _ _ _ _ _ _ _ _ _ (F0 _ _ _ (.int z :: _))) (show f1 (9 : Int32).toNatClampNeg = v4 from ee5) ?_
  refine lv_iconst (v := 1) hx hb dX12_acts_58 (by decide) ?_
  refine lv_iadd hx hb dX12_acts_59 ?_
  refine lv_topi (fun z158 e159 => ?_)
  have t160 := ib_add e159 b77 (by decide : Bd 1 (1) (1)) (by decide) (by decide)
  have b161 : Bd z158 (1) (40) := ib_addb t160 b77 (by decide : Bd 1 (1) (1))
  have t160 : z158.toInt = v4.toInt + 1 := fold_add t160 rfl (by decide)
  refine xiast E hs hQ 7 (by decide) c157 (vp_in_lit 9 50 (by decide)) dX12_acts_60 (fun H locs S162 eS162 hQ => ?_)
  have hI := invM_up_7 hI eS162 ⟨_, rfl, ⟨upd_mn b3.1 (by decide), upd_mn b3.2.1 (by decide), upd_mn b3.2.2.1 (by decide), upd_mn b3.2.2.2.1 (by decide), upd_mn b3.2.2.2.2.1 (by decide), upd_mn b3.2.2.2.2.2.1 (by decide), upd_mn b3.2.2.2.2.2.2.1 (by decide), upd_m b3.2.2.2.2.2.2.2 (ib_wk b161 (by decide) (by decide))⟩⟩
  have b164 : (∀ j, j % 10 = 0 → Bd ((upd f1 (9 : Int32).toNatClampNeg z158) j) (0) (12)) ∧ (∀ j, j % 10 = 1 → Bd ((upd f1 (9 : Int32).toNatClampNeg z158) j) (0) (12)) ∧ (∀ j, j % 10 = 2 → Bd ((upd f1 (9 : Int32).toNatClampNeg z158) j) (0) (6)) ∧ (∀ j, j % 10 = 3 → Bd ((upd f1 (9 : Int32).toNatClampNeg z158) j) (0) (12)) ∧ (∀ j, j % 10 = 6 → Bd ((upd f1 (9 : Int32).toNatClampNeg z158) j) (0) (8)) ∧ (∀ j, j % 10 = 7 → Bd ((upd f1 (9 : Int32).toNatClampNeg z158) j) (0) (6)) ∧ (∀ j, j % 10 = 8 → Bd ((upd f1 (9 : Int32).toNatClampNeg z158) j) (0) (3)) ∧ (∀ j, j % 10 = 9 → Bd ((upd f1 (9 : Int32).toNatClampNeg z158) j) (0) (40)) := ⟨upd_mn b3.1 (by decide), upd_mn b3.2.1 (by decide), upd_mn b3.2.2.1 (by decide), upd_mn b3.2.2.2.1 (by decide), upd_mn b3.2.2.2.2.1 (by decide), upd_mn b3.2.2.2.2.2.1 (by decide), upd_mn b3.2.2.2.2.2.2.1 (by decide), upd_m b3.2.2.2.2.2.2.2 (ib_wk b161 (by decide) (by decide))⟩
  have c163 : S162 7 = .inl (g.2 0, 50, .inl (upd f1 (9 : Int32).toNatClampNeg z158)) := up_at eS162 rfl
  have q165 : elm (S162 7) 9 = z158.toInt := (elm_of c163 9).trans (congrArg Int32.toInt ((upd_s)))
  have q166 : elm (S 7) 0 = v7.toInt := (elm_of c2 0).trans (congrArg Int32.toInt (ee8))
  have q167 : elm (S162 7) 0 = v7.toInt := (elm_of c163 0).trans (congrArg Int32.toInt (((upd_o (by decide)).trans (ee8))))
  have q168 : elm (S 7) 1 = v10.toInt := (elm_of c2 1).trans (congrArg Int32.toInt (ee11))
  have q169 : elm (S162 7) 1 = v10.toInt := (elm_of c163 1).trans (congrArg Int32.toInt (((upd_o (by decide)).trans (ee11))))
  have q170 : elm (S 7) 3 = v13.toInt := (elm_of c2 3).trans (congrArg Int32.toInt (ee14))
  have q171 : elm (S162 7) 3 = v13.toInt := (elm_of c163 3).trans (congrArg Int32.toInt (((upd_o (by decide)).trans (ee14))))
  have q172 : elm (S 7) 6 = v16.toInt := (elm_of c2 6).trans (congrArg Int32.toInt (ee17))
  have q173 : elm (S162 7) 6 = v16.toInt := (elm_of c163 6).trans (congrArg Int32.toInt (((upd_o (by decide)).trans (ee17))))
  have q174 : elm (S 7) 8 = v19.toInt := (elm_of c2 8).trans (congrArg Int32.toInt (ee20))
  have q175 : elm (S162 7) 8 = v19.toInt := (elm_of c163 8).trans (congrArg Int32.toInt (((upd_o (by decide)).trans (ee20))))
  have q176 : elm (S 7) 10 = v22.toInt := (elm_of c2 10).trans (congrArg Int32.toInt (ee23))
  have q177 : elm (S162 7) 10 = v22.toInt := (elm_of c163 10).trans (congrArg Int32.toInt (((upd_o (by decide)).trans (ee23))))
  have q178 : elm (S 7) 11 = v25.toInt := (elm_of c2 11).trans (congrArg Int32.toInt (ee26))
  have q179 : elm (S162 7) 11 = v25.toInt := (elm_of c163 11).trans (congrArg Int32.toInt (((upd_o (by decide)).trans (ee26))))
  have q180 : elm (S 7) 13 = v28.toInt := (elm_of c2 13).trans (congrArg Int32.toInt (ee29))
  have q181 : elm (S162 7) 13 = v28.toInt := (elm_of c163 13).trans (congrArg Int32.toInt (((upd_o (by decide)).trans (ee29))))
  have q182 : elm (S 7) 16 = v31.toInt := (elm_of c2 16).trans (congrArg Int32.toInt (ee32))
  have q183 : elm (S162 7) 16 = v31.toInt := (elm_of c163 16).trans (congrArg Int32.toInt (((upd_o (by decide)).trans (ee32))))
  have q184 : elm (S 7) 18 = v34.toInt := (elm_of c2 18).trans (congrArg Int32.toInt (ee35))
  have q185 : elm (S162 7) 18 = v34.toInt := (elm_of c163 18).trans (congrArg Int32.toInt (((upd_o (by decide)).trans (ee35))))
  have q186 : elm (S 7) 19 = v37.toInt := (elm_of c2 19).trans (congrArg Int32.toInt (ee38))
  have q187 : elm (S162 7) 19 = v37.toInt := (elm_of c163 19).trans (congrArg Int32.toInt (((upd_o (by decide)).trans (ee38))))
  have q188 : elm (S 7) 20 = v40.toInt := (elm_of c2 20).trans (congrArg Int32.toInt (ee41))
  have q189 : elm (S162 7) 20 = v40.toInt := (elm_of c163 20).trans (congrArg Int32.toInt (((upd_o (by decide)).trans (ee41))))
  have q190 : elm (S 7) 21 = v43.toInt := (elm_of c2 21).trans (congrArg Int32.toInt (ee44))
  have q191 : elm (S162 7) 21 = v43.toInt := (elm_of c163 21).trans (congrArg Int32.toInt (((upd_o (by decide)).trans (ee44))))
  have q192 : elm (S 7) 23 = v46.toInt := (elm_of c2 23).trans (congrArg Int32.toInt (ee47))
  have q193 : elm (S162 7) 23 = v46.toInt := (elm_of c163 23).trans (congrArg Int32.toInt (((upd_o (by decide)).trans (ee47))))
  have q194 : elm (S 7) 26 = v49.toInt := (elm_of c2 26).trans (congrArg Int32.toInt (ee50))
  have q195 : elm (S162 7) 26 = v49.toInt := (elm_of c163 26).trans (congrArg Int32.toInt (((upd_o (by decide)).trans (ee50))))
  have q196 : elm (S 7) 28 = v52.toInt := (elm_of c2 28).trans (congrArg Int32.toInt (ee53))
  have q197 : elm (S162 7) 28 = v52.toInt := (elm_of c163 28).trans (congrArg Int32.toInt (((upd_o (by decide)).trans (ee53))))
  have q198 : elm (S 7) 29 = v55.toInt := (elm_of c2 29).trans (congrArg Int32.toInt (ee56))
  have q199 : elm (S162 7) 29 = v55.toInt := (elm_of c163 29).trans (congrArg Int32.toInt (((upd_o (by decide)).trans (ee56))))
  have q200 : elm (S 7) 30 = v58.toInt := (elm_of c2 30).trans (congrArg Int32.toInt (ee59))
  have q201 : elm (S162 7) 30 = v58.toInt := (elm_of c163 30).trans (congrArg Int32.toInt (((upd_o (by decide)).trans (ee59))))
  have q202 : elm (S 7) 31 = v61.toInt := (elm_of c2 31).trans (congrArg Int32.toInt (ee62))
  have q203 : elm (S162 7) 31 = v61.toInt := (elm_of c163 31).trans (congrArg Int32.toInt (((upd_o (by decide)).trans (ee62))))
  have q204 : elm (S 7) 33 = v64.toInt := (elm_of c2 33).trans (congrArg Int32.toInt (ee65))
  have q205 : elm (S162 7) 33 = v64.toInt := (elm_of c163 33).trans (congrArg Int32.toInt (((upd_o (by decide)).trans (ee65))))
  have q206 : elm (S 7) 36 = v67.toInt := (elm_of c2 36).trans (congrArg Int32.toInt (ee68))
  have q207 : elm (S162 7) 36 = v67.toInt := (elm_of c163 36).trans (congrArg Int32.toInt (((upd_o (by decide)).trans (ee68))))
  have q208 : elm (S 7) 38 = v70.toInt := (elm_of c2 38).trans (congrArg Int32.toInt (ee71))
  have q209 : elm (S162 7) 38 = v70.toInt := (elm_of c163 38).trans (congrArg Int32.toInt (((upd_o (by decide)).trans (ee71))))
  have q210 : elm (S 7) 39 = v73.toInt := (elm_of c2 39).trans (congrArg Int32.toInt (ee74))
  have q211 : elm (S162 7) 39 = v73.toInt := (elm_of c163 39).trans (congrArg Int32.toInt (((upd_o (by decide)).trans (ee74))))
  have c212 : S162 12 = .inl (g.2 0, 800, .inl (upd (upd (upd (upd f78 (z125 : Int32).toNatClampNeg a1) (z133 : Int32).toNatClampNeg a2) (z141 : Int32).toNatClampNeg a3) (z149 : Int32).toNatClampNeg a4)) := (up_ne eS162 (by decide) c154)
  exact xrv E hr hlk hQ (⟨hI, (up_o (up_o (up_o (up_o (up_o o_refl eS129 (by decide)) eS137 (by decide)) eS145 (by decide)) eS153 (by decide)) eS162 (by decide)), ⟨by omega, by omega⟩, ⟨by omega, by omega⟩, ⟨by omega, by omega⟩, ⟨by omega, by omega⟩, ⟨by omega, by omega⟩, ⟨by omega, by omega⟩, ⟨by omega, by omega⟩, ⟨by omega, by omega⟩, ⟨by omega, by omega⟩, ⟨by omega, by omega⟩, ⟨by omega, by omega⟩, ⟨by omega, by omega⟩, ⟨by omega, by omega⟩, ⟨by omega, by omega⟩, ⟨by omega, by omega⟩, ⟨by omega, by omega⟩, ⟨by omega, by omega⟩, ⟨by omega, by omega⟩, ⟨by omega, by omega⟩, ⟨by omega, by omega⟩, ⟨by omega, by omega⟩, ⟨by omega, by omega⟩, ⟨by omega, by omega⟩, ⟨by omega, by omega⟩, (at_add (q := 0) c2 c79 c163 c212 b3.2.2.2.2.2.2.2 ee5 (by omega) b77 (by omega) (by omega) (by omega) (by omega) hw (by decide) hAT0), (at_add (q := 1) c2 c79 c163 c212 b3.2.2.2.2.2.2.2 ee5 (by omega) b77 (by omega) (by omega) (by omega) (by omega) hw (by decide) hAT1), (at_add (q := 2) c2 c79 c163 c212 b3.2.2.2.2.2.2.2 ee5 (by omega) b77 (by omega) (by omega) (by omega) (by omega) hw (by decide) hAT2), (at_add (q := 3) c2 c79 c163 c212 b3.2.2.2.2.2.2.2 ee5 (by omega) b77 (by omega) (by omega) (by omega) (by omega) hw (by decide) hAT3)⟩) dX12_acts_61
set_option maxHeartbeats 4000000 in
set_option maxRecDepth 100000 in
theorem gX12_sit_0 (l : Launch) (g : GG) (ad : Nat → Nat) (hD : Dj ad 20) (S : SS) (hI : InvM g ad S) (a1 : Int32) (a2 : Int32) (hq1 : 0 ≤ 12 * elm (S 7) 1 + (-1) * elm (S 7) 0) (hq2 : 0 ≤ 12 * elm (S 7) 3 + (-1) * elm (S 7) 0) (hq3 : 0 ≤ 8 * elm (S 7) 0 + (-1) * elm (S 7) 6) (hq4 : 0 ≤ 3 * elm (S 7) 0 + (-1) * elm (S 7) 8) (hq5 : 0 ≤ 40000 * elm (S 7) 0 + (-1) * elm (S 6) 0) (hq6 : 0 ≤ 12 * elm (S 7) 11 + (-1) * elm (S 7) 10) (hq7 : 0 ≤ 12 * elm (S 7) 13 + (-1) * elm (S 7) 10) (hq8 : 0 ≤ 8 * elm (S 7) 10 + (-1) * elm (S 7) 16) (hq9 : 0 ≤ 3 * elm (S 7) 10 + (-1) * elm (S 7) 18) (hq10 : 0 ≤ 40000 * elm (S 7) 10 + (-1) * elm (S 6) 1) (hq11 : 0 ≤ 12 * elm (S 7) 21 + (-1) * elm (S 7) 20) (hq12 : 0 ≤ 12 * elm (S 7) 23 + (-1) * elm (S 7) 20) (hq13 : 0 ≤ 8 * elm (S 7) 20 + (-1) * elm (S 7) 26) (hq14 : 0 ≤ 3 * elm (S 7) 20 + (-1) * elm (S 7) 28) (hq15 : 0 ≤ 40000 * elm (S 7) 20 + (-1) * elm (S 6) 2) (hq16 : 0 ≤ 12 * elm (S 7) 31 + (-1) * elm (S 7) 30) (hq17 : 0 ≤ 12 * elm (S 7) 33 + (-1) * elm (S 7) 30) (hq18 : 0 ≤ 8 * elm (S 7) 30 + (-1) * elm (S 7) 36) (hq19 : 0 ≤ 3 * elm (S 7) 30 + (-1) * elm (S 7) 38) (hq20 : 0 ≤ 40000 * elm (S 7) 30 + (-1) * elm (S 6) 3) (hAT0 : ATp (S 7) (S 12) 0) (hAT1 : ATp (S 7) (S 12) 1) (hAT2 : ATp (S 7) (S 12) 2) (hAT3 : ATp (S 7) (S 12) 3) : Met l yX12_sit (wG (.code yX12_sit cX12_sit 3 (some .int))) (Rm 2) (XPre g ad 20 S [.ref (ad 0), .int a1, .int a2]) (va_Qi (fun r S' => InvM g ad S' ∧ (∀ j, j ∉ ([0, 7, 12, 14, 15] : List Nat) → S' j = S j) ∧ Bd r (-5) (11) ∧ (0 ≤ 12 * elm (S' 7) 1 + (-1) * elm (S' 7) 0) ∧ (0 ≤ 12 * elm (S' 7) 3 + (-1) * elm (S' 7) 0) ∧ (0 ≤ 8 * elm (S' 7) 0 + (-1) * elm (S' 7) 6) ∧ (0 ≤ 3 * elm (S' 7) 0 + (-1) * elm (S' 7) 8) ∧ (0 ≤ 40000 * elm (S' 7) 0 + (-1) * elm (S' 6) 0) ∧ (0 ≤ 12 * elm (S' 7) 11 + (-1) * elm (S' 7) 10) ∧ (0 ≤ 12 * elm (S' 7) 13 + (-1) * elm (S' 7) 10) ∧ (0 ≤ 8 * elm (S' 7) 10 + (-1) * elm (S' 7) 16) ∧ (0 ≤ 3 * elm (S' 7) 10 + (-1) * elm (S' 7) 18) ∧ (0 ≤ 40000 * elm (S' 7) 10 + (-1) * elm (S' 6) 1) ∧ (0 ≤ 12 * elm (S' 7) 21 + (-1) * elm (S' 7) 20) ∧ (0 ≤ 12 * elm (S' 7) 23 + (-1) * elm (S' 7) 20) ∧ (0 ≤ 8 * elm (S' 7) 20 + (-1) * elm (S' 7) 26) ∧ (0 ≤ 3 * elm (S' 7) 20 + (-1) * elm (S' 7) 28) ∧ (0 ≤ 40000 * elm (S' 7) 20 + (-1) * elm (S' 6) 2) ∧ (0 ≤ 12 * elm (S' 7) 31 + (-1) * elm (S' 7) 30) ∧ (0 ≤ 12 * elm (S' 7) 33 + (-1) * elm (S' 7) 30) ∧ (0 ≤ 8 * elm (S' 7) 30 + (-1) * elm (S' 7) 36) ∧ (0 ≤ 3 * elm (S' 7) 30 + (-1) * elm (S' 7) 38) ∧ (0 ≤ 40000 * elm (S' 7) 30 + (-1) * elm (S' 6) 3) ∧ (ATp (S' 7) (S' 12) 0) ∧ (ATp (S' 7) (S' 12) 1) ∧ (ATp (S' 7) (S' 12) 2) ∧ (ATp (S' 7) (S' 12) 3)) (QB g ad 20) (FA ad 20)) 0 0 (FA ad 20) := by
  refine xmet cX12_sit "EbbWreckModel" (by decide) rfl (Nat.le_of_ble_eq_true rfl) (fun p e s m below meth c E hr hlk hml hQ ls hl => ?_)
  have hx := E.1
  have hb := E.2.1
  have hs : Sp ad 20 (FA ad 20) := Sp.fa hD
  have hl : lv_has ls 3 [(0, .ref (ad 0)), (1, .int a1), (2, .int a2)] := hl
  obtain ⟨f1, c2, b3⟩ := invM_7 hI
  obtain ⟨v4, ee5⟩ : ∃ z : Int32, f1 1 = z := ⟨_, rfl⟩
  have b6 : Bd v4 (0) (12) := (by rw [← ee5]; exact b3.2.1 1 (by decide))
  obtain ⟨v7, ee8⟩ : ∃ z : Int32, f1 0 = z := ⟨_, rfl⟩
  have b9 : Bd v7 (0) (12) := (by rw [← ee8]; exact b3.1 0 (by decide))
  obtain ⟨v10, ee11⟩ : ∃ z : Int32, f1 3 = z := ⟨_, rfl⟩
  have b12 : Bd v10 (0) (12) := (by rw [← ee11]; exact b3.2.2.2.1 3 (by decide))
  obtain ⟨v13, ee14⟩ : ∃ z : Int32, f1 6 = z := ⟨_, rfl⟩
  have b15 : Bd v13 (0) (8) := (by rw [← ee14]; exact b3.2.2.2.2.1 6 (by decide))
  obtain ⟨v16, ee17⟩ : ∃ z : Int32, f1 8 = z := ⟨_, rfl⟩
  have b18 : Bd v16 (0) (3) := (by rw [← ee17]; exact b3.2.2.2.2.2.2.1 8 (by decide))
  obtain ⟨f19, c20, b21⟩ := invM_6 hI
  obtain ⟨v22, ee23⟩ : ∃ z : Int32, f19 0 = z := ⟨_, rfl⟩
  have b24 : Bd v22 (0) (40000) := (by rw [← ee23]; exact b21 0)
  obtain ⟨v25, ee26⟩ : ∃ z : Int32, f1 11 = z := ⟨_, rfl⟩
  have b27 : Bd v25 (0) (12) := (by rw [← ee26]; exact b3.2.1 11 (by decide))
  obtain ⟨v28, ee29⟩ : ∃ z : Int32, f1 10 = z := ⟨_, rfl⟩
  have b30 : Bd v28 (0) (12) := (by rw [← ee29]; exact b3.1 10 (by decide))
  obtain ⟨v31, ee32⟩ : ∃ z : Int32, f1 13 = z := ⟨_, rfl⟩
  have b33 : Bd v31 (0) (12) := (by rw [← ee32]; exact b3.2.2.2.1 13 (by decide))
  obtain ⟨v34, ee35⟩ : ∃ z : Int32, f1 16 = z := ⟨_, rfl⟩
  have b36 : Bd v34 (0) (8) := (by rw [← ee35]; exact b3.2.2.2.2.1 16 (by decide))
  obtain ⟨v37, ee38⟩ : ∃ z : Int32, f1 18 = z := ⟨_, rfl⟩
  have b39 : Bd v37 (0) (3) := (by rw [← ee38]; exact b3.2.2.2.2.2.2.1 18 (by decide))
  obtain ⟨v40, ee41⟩ : ∃ z : Int32, f19 1 = z := ⟨_, rfl⟩
  have b42 : Bd v40 (0) (40000) := (by rw [← ee41]; exact b21 1)
  obtain ⟨v43, ee44⟩ : ∃ z : Int32, f1 21 = z := ⟨_, rfl⟩
  have b45 : Bd v43 (0) (12) := (by rw [← ee44]; exact b3.2.1 21 (by decide))
  obtain ⟨v46, ee47⟩ : ∃ z : Int32, f1 20 = z := ⟨_, rfl⟩
  have b48 : Bd v46 (0) (12) := (by rw [← ee47]; exact b3.1 20 (by decide))
  obtain ⟨v49, ee50⟩ : ∃ z : Int32, f1 23 = z := ⟨_, rfl⟩
  have b51 : Bd v49 (0) (12) := (by rw [← ee50]; exact b3.2.2.2.1 23 (by decide))
  obtain ⟨v52, ee53⟩ : ∃ z : Int32, f1 26 = z := ⟨_, rfl⟩
  have b54 : Bd v52 (0) (8) := (by rw [← ee53]; exact b3.2.2.2.2.1 26 (by decide))
  obtain ⟨v55, ee56⟩ : ∃ z : Int32, f1 28 = z := ⟨_, rfl⟩
  have b57 : Bd v55 (0) (3) := (by rw [← ee56]; exact b3.2.2.2.2.2.2.1 28 (by decide))
  obtain ⟨v58, ee59⟩ : ∃ z : Int32, f19 2 = z := ⟨_, rfl⟩
  have b60 : Bd v58 (0) (40000) := (by rw [← ee59]; exact b21 2)
  obtain ⟨v61, ee62⟩ : ∃ z : Int32, f1 31 = z := ⟨_, rfl⟩
  have b63 : Bd v61 (0) (12) := (by rw [← ee62]; exact b3.2.1 31 (by decide))
  obtain ⟨v64, ee65⟩ : ∃ z : Int32, f1 30 = z := ⟨_, rfl⟩
  have b66 : Bd v64 (0) (12) := (by rw [← ee65]; exact b3.1 30 (by decide))
  obtain ⟨v67, ee68⟩ : ∃ z : Int32, f1 33 = z := ⟨_, rfl⟩
  have b69 : Bd v67 (0) (12) := (by rw [← ee68]; exact b3.2.2.2.1 33 (by decide))
  obtain ⟨v70, ee71⟩ : ∃ z : Int32, f1 36 = z := ⟨_, rfl⟩
  have b72 : Bd v70 (0) (8) := (by rw [← ee71]; exact b3.2.2.2.2.1 36 (by decide))
  obtain ⟨v73, ee74⟩ : ∃ z : Int32, f1 38 = z := ⟨_, rfl⟩
  have b75 : Bd v73 (0) (3) := (by rw [← ee74]; exact b3.2.2.2.2.2.2.1 38 (by decide))
  obtain ⟨v76, ee77⟩ : ∃ z : Int32, f19 3 = z := ⟨_, rfl⟩
  have b78 : Bd v76 (0) (40000) := (by rw [← ee77]; exact b21 3)
  have q79 : elm (S 7) 1 = v4.toInt := (elm_of c2 1).trans (congrArg Int32.toInt (ee5))
  have q80 : elm (S 7) 0 = v7.toInt := (elm_of c2 0).trans (congrArg Int32.toInt (ee8))
  have q81 : elm (S 7) 3 = v10.toInt := (elm_of c2 3).trans (congrArg Int32.toInt (ee11))
  have q82 : elm (S 7) 6 = v13.toInt := (elm_of c2 6).trans (congrArg Int32.toInt (ee14))
  have q83 : elm (S 7) 8 = v16.toInt := (elm_of c2 8).trans (congrArg Int32.toInt (ee17))
  have q84 : elm (S 6) 0 = v22.toInt := (elm_of c20 0).trans (congrArg Int32.toInt (ee23))
  have q85 : elm (S 7) 11 = v25.toInt := (elm_of c2 11).trans (congrArg Int32.toInt (ee26))
  have q86 : elm (S 7) 10 = v28.toInt := (elm_of c2 10).trans (congrArg Int32.toInt (ee29))
  have q87 : elm (S 7) 13 = v31.toInt := (elm_of c2 13).trans (congrArg Int32.toInt (ee32))
  have q88 : elm (S 7) 16 = v34.toInt := (elm_of c2 16).trans (congrArg Int32.toInt (ee35))
  have q89 : elm (S 7) 18 = v37.toInt := (elm_of c2 18).trans (congrArg Int32.toInt (ee38))
  have q90 : elm (S 6) 1 = v40.toInt := (elm_of c20 1).trans (congrArg Int32.toInt (ee41))
  have q91 : elm (S 7) 21 = v43.toInt := (elm_of c2 21).trans (congrArg Int32.toInt (ee44))
  have q92 : elm (S 7) 20 = v46.toInt := (elm_of c2 20).trans (congrArg Int32.toInt (ee47))
  have q93 : elm (S 7) 23 = v49.toInt := (elm_of c2 23).trans (congrArg Int32.toInt (ee50))
  have q94 : elm (S 7) 26 = v52.toInt := (elm_of c2 26).trans (congrArg Int32.toInt (ee53))
  have q95 : elm (S 7) 28 = v55.toInt := (elm_of c2 28).trans (congrArg Int32.toInt (ee56))
  have q96 : elm (S 6) 2 = v58.toInt := (elm_of c20 2).trans (congrArg Int32.toInt (ee59))
  have q97 : elm (S 7) 31 = v61.toInt := (elm_of c2 31).trans (congrArg Int32.toInt (ee62))
  have q98 : elm (S 7) 30 = v64.toInt := (elm_of c2 30).trans (congrArg Int32.toInt (ee65))
  have q99 : elm (S 7) 33 = v67.toInt := (elm_of c2 33).trans (congrArg Int32.toInt (ee68))
  have q100 : elm (S 7) 36 = v70.toInt := (elm_of c2 36).trans (congrArg Int32.toInt (ee71))
  have q101 : elm (S 7) 38 = v73.toInt := (elm_of c2 38).trans (congrArg Int32.toInt (ee74))
  have q102 : elm (S 6) 3 = v76.toInt := (elm_of c20 3).trans (congrArg Int32.toInt (ee77))
  obtain ⟨f103, c104, b105⟩ := invM_12 hI
  obtain ⟨v106, ee107⟩ : ∃ z : Int32, f1 9 = z := ⟨_, rfl⟩
  have b108 : Bd v106 (0) (40) := (by rw [← ee107]; exact b3.2.2.2.2.2.2.2 9 (by decide))
  obtain ⟨v109, ee110⟩ : ∃ z : Int32, f1 19 = z := ⟨_, rfl⟩
  have b111 : Bd v109 (0) (40) := (by rw [← ee110]; exact b3.2.2.2.2.2.2.2 19 (by decide))
  obtain ⟨v112, ee113⟩ : ∃ z : Int32, f1 29 = z := ⟨_, rfl⟩
  have b114 : Bd v112 (0) (40) := (by rw [← ee113]; exact b3.2.2.2.2.2.2.2 29 (by decide))
  obtain ⟨v115, ee116⟩ : ∃ z : Int32, f1 39 = z := ⟨_, rfl⟩
  have b117 : Bd v115 (0) (40) := (by rw [← ee116]; exact b3.2.2.2.2.2.2.2 39 (by decide))
  refine lv_aload_n hx hb dX12_sit_0 rfl (lv_at hl 0 rfl) ?_
  refine lv_iconst (v := 0) hx hb dX12_sit_1 (by decide) ?_
  obtain ⟨v118, v119, v121, v123, v125, v126, w127, v128, v130, v131, v132, v133, v135, v137, v139, v141, v143, v144, v145, c146, b120, b122, b124, b129, b134, b136, b138, b140, b142⟩ := invM_0 hI
  have c146 : S 0 = .inr (12, [.int v118, .ref (ad 1), .ref (ad 2), .ref (ad 3), .ref (ad 4), .ref (ad 5), .int v119, .int v121, .int v123, .int v125, .int v126, .long w127, .int v128, .int v130, .int v131, .int v132, .ref (ad 6), .ref (ad 7), .ref (ad 8), .ref (ad 9), .ref (ad 10), .ref (ad 11), .ref (ad 12), .ref (ad 13), .ref (ad 14), .ref (ad 15), .int v133, .int v135, .ref (ad 16), .int v137, .int v139, .int v141, .int v143, .int v144, .ref (ad 17), .ref (ad 18), .int v145, .ref (ad 19)]) := c146
  refine xputi E hs hQ 0 (by decide) c146 rfl 0 (by decide) q1468 rfl rfl (Nat.le_of_ble_eq_true rfl) dX12_sit_2 (fun H locs S147 eS147 hQ => ?_)
  have hI := invM_up_0 hI eS147 ⟨0, v119, v121, v123, v125, v126, w127, v128, v130, v131, v132, v133, v135, v137, v139, v141, v143, v144, v145, rfl, b120, b122, b124, b129, b134, b136, b138, b140, b142⟩
  have c148 : S147 0 = .inr (12, [.int 0, .ref (ad 1), .ref (ad 2), .ref (ad 3), .ref (ad 4), .ref (ad 5), .int v119, .int v121, .int v123, .int v125, .int v126, .long w127, .int v128, .int v130, .int v131, .int v132, .ref (ad 6), .ref (ad 7), .ref (ad 8), .ref (ad 9), .ref (ad 10), .ref (ad 11), .ref (ad 12), .ref (ad 13), .ref (ad 14), .ref (ad 15), .int v133, .int v135, .ref (ad 16), .int v137, .int v139, .int v141, .int v143, .int v144, .ref (ad 17), .ref (ad 18), .int v145, .ref (ad 19)]) := up_at eS147 rfl
  refine lv_aload_n hx hb dX12_sit_5 rfl (lv_at hl 0 rfl) ?_
  refine lv_iload_n hx hb dX12_sit_6 rfl (lv_at hl 1 rfl) ?_
  have c149 : S147 7 = .inl (g.2 0, 50, .inl f1) := (up_ne eS147 (by decide) c2)
  refine xcVi E hs hQ hml hl.1 0 (gX12_isSitter_0 l g ad hD S147 hI a1) mX12_isSitter q1816 (by decide) c148 rfl rfl ⟨(Nat.le_of_ble_eq_true rfl), (Nat.le_of_ble_eq_true rfl)⟩ ⟨(Nat.le_of_ble_eq_true rfl), (Nat.le_of_ble_eq_true rfl)⟩ (Nat.le_of_ble_eq_true rfl) rfl dX12_sit_7 (fun r150 S150 H locs hp150 hQ _ => ?_)
  obtain ⟨rfl, b150, g150_0⟩ := hp150
  have q151 : elm (S147 7) 8 = v16.toInt := (elm_of c149 8).trans (congrArg Int32.toInt (ee17))
  refine lv_if_eq (tgt := 22) hx hb dX12_sit_10 (by decide) (fun k152 => ?_) (fun k152 => ?_)
  · have h153 := ib_eq k152
    have b154 : Bd r150 (0) (0) := ⟨(b150).1, ((rf_eq b150 (by decide : Bd 0 (0) (0)) h153).1).2⟩
    clear g150_0
    refine lv_bipush (v := (-2)) hx hb dX12_sit_22 (by decide) ?_
    have q155 : elm (S147 7) 1 = v4.toInt := (elm_of c149 1).trans (congrArg Int32.toInt (ee5))
    have q156 : elm (S147 7) 0 = v7.toInt := (elm_of c149 0).trans (congrArg Int32.toInt (ee8))
    have q157 : elm (S147 7) 3 = v10.toInt := (elm_of c149 3).trans (congrArg Int32.toInt (ee11))
    have q158 : elm (S147 7) 6 = v13.toInt := (elm_of c149 6).trans (congrArg Int32.toInt (ee14))
    have c159 : S147 6 = .inl (g.2 0, 5, .inl f19) := (up_ne eS147 (by decide) c20)
    have q160 : elm (S147 6) 0 = v22.toInt := (elm_of c159 0).trans (congrArg Int32.toInt (ee23))
    have q161 : elm (S147 7) 11 = v25.toInt := (elm_of c149 11).trans (congrArg Int32.toInt (ee26))
    have q162 : elm (S147 7) 10 = v28.toInt := (elm_of c149 10).trans (congrArg Int32.toInt (ee29))
    have q163 : elm (S147 7) 13 = v31.toInt := (elm_of c149 13).trans (congrArg Int32.toInt (ee32))
    have q164 : elm (S147 7) 16 = v34.toInt := (elm_of c149 16).trans (congrArg Int32.toInt (ee35))
    have q165 : elm (S147 7) 18 = v37.toInt := (elm_of c149 18).trans (congrArg Int32.toInt (ee38))
    have q166 : elm (S147 6) 1 = v40.toInt := (elm_of c159 1).trans (congrArg Int32.toInt (ee41))
    have q167 : elm (S147 7) 21 = v43.toInt := (elm_of c149 21).trans (congrArg Int32.toInt (ee44))
    have q168 : elm (S147 7) 20 = v46.toInt := (elm_of c149 20).trans (congrArg Int32.toInt (ee47))
    have q169 : elm (S147 7) 23 = v49.toInt := (elm_of c149 23).trans (congrArg Int32.toInt (ee50))
    have q170 : elm (S147 7) 26 = v52.toInt := (elm_of c149 26).trans (congrArg Int32.toInt (ee53))
    have q171 : elm (S147 7) 28 = v55.toInt := (elm_of c149 28).trans (congrArg Int32.toInt (ee56))
    have q172 : elm (S147 6) 2 = v58.toInt := (elm_of c159 2).trans (congrArg Int32.toInt (ee59))
    have q173 : elm (S147 7) 31 = v61.toInt := (elm_of c149 31).trans (congrArg Int32.toInt (ee62))
    have q174 : elm (S147 7) 30 = v64.toInt := (elm_of c149 30).trans (congrArg Int32.toInt (ee65))
    have q175 : elm (S147 7) 33 = v67.toInt := (elm_of c149 33).trans (congrArg Int32.toInt (ee68))
    have q176 : elm (S147 7) 36 = v70.toInt := (elm_of c149 36).trans (congrArg Int32.toInt (ee71))
    have q177 : elm (S147 7) 38 = v73.toInt := (elm_of c149 38).trans (congrArg Int32.toInt (ee74))
    have q178 : elm (S147 6) 3 = v76.toInt := (elm_of c159 3).trans (congrArg Int32.toInt (ee77))
    exact xri E hr hlk hQ (⟨hI, (up_o o_refl eS147 (by decide)), (ib_wk (by decide : Bd (-2) (-2) (-2)) (by decide) (by decide)), (by omega), (by omega), (by omega), (by omega), (by omega), (by omega), (by omega), (by omega), (by omega), (by omega), (by omega), (by omega), (by omega), (by omega), (by omega), (by omega), (by omega), (by omega), (by omega), (by omega), (at_tr hAT0 (up_eq (j := 7) eS147 (by decide)) (up_eq (j := 12) eS147 (by decide))), (at_tr hAT1 (up_eq (j := 7) eS147 (by decide)) (up_eq (j := 12) eS147 (by decide))), (at_tr hAT2 (up_eq (j := 7) eS147 (by decide)) (up_eq (j := 12) eS147 (by decide))), (at_tr hAT3 (up_eq (j := 7) eS147 (by decide)) (up_eq (j := 12) eS147 (by decide)))⟩) dX12_sit_24
  · have h179 := ib_ne k152
    have b180 : Bd r150 (1) (1) := rf_nlo b150 (by decide : Bd 0 (0) (0)) h179
    have g181 := g150_0.resolve_left (by omega)
    clear g150_0
    have b182 : Bd a1 (0) (2) := ⟨by omega, by omega⟩
    have b183 : Bd v16 (1) (3) := ⟨by omega, (b18).2⟩
    refine lv_aload_n hx hb dX12_sit_13 rfl (lv_at hl 0 rfl) ?_
    refine lv_iload_n hx hb dX12_sit_14 rfl (lv_at hl 2 rfl) ?_
    refine lv_i2l hx hb dX12_sit_15 rfl ?_
    refine lv_topl (fun w184 e185 => ?_)
    have t186 : w184.toInt = a2.toInt := by rw [e185]; exact i2l_i _
    have b187 : BdL w184 (-2147483648) (2147483647) := (by have h1 := ((ib_full a2)).1; have h2 := ((ib_full a2)).2; exact ⟨by omega, by omega⟩)
    refine xcVi E hs hQ hml hl.1 0 (gX12_isCell_0 l g ad hD S147 hI w184) mX12_isCell q1750 (by decide) c148 rfl rfl ⟨(Nat.le_of_ble_eq_true rfl), (Nat.le_of_ble_eq_true rfl)⟩ ⟨(Nat.le_of_ble_eq_true rfl), (Nat.le_of_ble_eq_true rfl)⟩ (Nat.le_of_ble_eq_true rfl) rfl dX12_sit_16 (fun r188 S188 H locs hp188 hQ _ => ?_)
    obtain ⟨rfl, b188, g188_0⟩ := hp188
    have q189 : elm (S147 7) 0 = v7.toInt := (elm_of c149 0).trans (congrArg Int32.toInt (ee8))
    refine lv_if_ne (tgt := 25) hx hb dX12_sit_19 (by decide) (fun k190 => ?_) (fun k190 => ?_)
    · have h191 := ib_ne k190
      have b192 : Bd r188 (1) (1) := rf_nlo b188 (by decide : Bd 0 (0) (0)) h191
      have g193 := g188_0.resolve_left (by omega)
      clear g188_0
      have b194 : BdL w184 (0) (11) := ⟨by omega, by omega⟩
      have b195 : Bd v7 (1) (12) := ⟨by omega, (b9).2⟩
      have b196 : Bd a2 (0) (11) := ⟨by omega, by omega⟩
      refine lv_aload_n hx hb dX12_sit_25 rfl (lv_at hl 0 rfl) ?_
      refine xcVi E hs hQ hml hl.1 0 (gX12_isFull_0 l g ad hD S147 hI ) mX12_isFull q2104 (by decide) c148 rfl rfl ⟨(Nat.le_of_ble_eq_true rfl), (Nat.le_of_ble_eq_true rfl)⟩ ⟨(Nat.le_of_ble_eq_true rfl), (Nat.le_of_ble_eq_true rfl)⟩ (Nat.le_of_ble_eq_true rfl) rfl dX12_sit_26 (fun r197 S197 H locs hp197 hQ _ => ?_)
      obtain ⟨rfl, b197, g197_0⟩ := hp197
      have q198 : elm (S147 7) 9 = v106.toInt := (elm_of c149 9).trans (congrArg Int32.toInt (ee107))
      refine lv_if_eq (tgt := 35) hx hb dX12_sit_29 (by decide) (fun k199 => ?_) (fun k199 => ?_)
      · have h200 := ib_eq k199
        have b201 : Bd r197 (0) (0) := ⟨(b197).1, ((rf_eq b197 (by decide : Bd 0 (0) (0)) h200).1).2⟩
        have g202 := g197_0.resolve_left (by omega)
        clear g197_0
        have b203 : Bd v106 (0) (39) := ⟨(b108).1, by omega⟩
        refine lv_aload_n hx hb dX12_sit_35 rfl (lv_at hl 0 rfl) ?_
        refine xcVv E hs hQ hml hl.1 0 (gX12_lays_0 l g ad hD S147 hI (at_tr hAT0 (up_eq (j := 7) eS147 (by decide)) (up_eq (j := 12) eS147 (by decide)))) mX12_lays q1820 (by decide) c148 rfl rfl ⟨(Nat.le_of_ble_eq_true rfl), (Nat.le_of_ble_eq_true rfl)⟩ ⟨(Nat.le_of_ble_eq_true rfl), (Nat.le_of_ble_eq_true rfl)⟩ (Nat.le_of_ble_eq_true rfl) rfl dX12_sit_36 (fun S204 H locs hp204 hQ _ => ?_)
        obtain ⟨hI, o204⟩ := hp204
        refine lv_aload_n hx hb dX12_sit_39 rfl (lv_at hl 0 rfl) ?_
        refine lv_iconst (v := 0) hx hb dX12_sit_40 (by decide) ?_
        refine lv_iload_n hx hb dX12_sit_41 rfl (lv_at hl 1 rfl) ?_
        refine lv_iload_n hx hb dX12_sit_42 rfl (lv_at hl 2 rfl) ?_
        refine lv_iconst (v := 0) hx hb dX12_sit_43 (by decide) ?_
        have c205 : S204 7 = .inl (g.2 0, 50, .inl f1) := ((o204 7 (by decide)).trans c149)
        have q206 : elm (S204 7) 9 = v106.toInt := (elm_of c205 9).trans (congrArg Int32.toInt (ee107))
        have c208 : S204 0 = .inr (12, [.int 0, .ref (ad 1), .ref (ad 2), .ref (ad 3), .ref (ad 4), .ref (ad 5), .int v119, .int v121, .int v123, .int v125, .int v126, .long w127, .int v128, .int v130, .int v131, .int v132, .ref (ad 6), .ref (ad 7), .ref (ad 8), .ref (ad 9), .ref (ad 10), .ref (ad 11), .ref (ad 12), .ref (ad 13), .ref (ad 14), .ref (ad 15), .int v133, .int v135, .ref (ad 16), .int v137, .int v139, .int v141, .int v143, .int v144, .ref (ad 17), .ref (ad 18), .int v145, .ref (ad 19)]) := ((o204 0 (by decide)).trans c148)
        refine xcVv E hs hQ hml hl.1 0 (gX12_acts_0 l g ad hD S204 hI 0 a1 a2 0 (ib_wk (by decide : Bd 0 (0) (0)) (by decide) (by decide)) (ib_wk b182 (by decide) (by decide)) (ib_wk b196 (by decide) (by decide)) (ib_wk (by decide : Bd 0 (0) (0)) (by decide) (by decide)) (by omega) (at_tr hAT0 ((o204 7 (by decide)).trans (up_eq (j := 7) eS147 (by decide))) ((o204 12 (by decide)).trans (up_eq (j := 12) eS147 (by decide)))) (at_tr hAT1 ((o204 7 (by decide)).trans (up_eq (j := 7) eS147 (by decide))) ((o204 12 (by decide)).trans (up_eq (j := 12) eS147 (by decide)))) (at_tr hAT2 ((o204 7 (by decide)).trans (up_eq (j := 7) eS147 (by decide))) ((o204 12 (by decide)).trans (up_eq (j := 12) eS147 (by decide)))) (at_tr hAT3 ((o204 7 (by decide)).trans (up_eq (j := 7) eS147 (by decide))) ((o204 12 (by decide)).trans (up_eq (j := 12) eS147 (by decide)))) (fun _ => ⟨by omega, by omega⟩)) mX12_acts q2108 (by decide) c208 rfl rfl ⟨(Nat.le_of_ble_eq_true rfl), (Nat.le_of_ble_eq_true rfl)⟩ ⟨(Nat.le_of_ble_eq_true rfl), (Nat.le_of_ble_eq_true rfl)⟩ (Nat.le_of_ble_eq_true rfl) rfl dX12_sit_44 (fun S207 H locs hp207 hQ _ => ?_)
        obtain ⟨hI, o207, g207_0, g207_1, g207_2, g207_3, g207_4, g207_5, g207_6, g207_7, g207_8, g207_9, g207_10, g207_11, g207_12, g207_13, g207_14, g207_15, g207_16, g207_17, g207_18, g207_19, g207_20, g207_21, g207_22, g207_23, u207_0, u207_1, u207_2, u207_3⟩ := hp207
        obtain ⟨f209, c210, b211⟩ := invM_7 hI
        obtain ⟨v212, ee213⟩ : ∃ z : Int32, f209 9 = z := ⟨_, rfl⟩
        have b214 : Bd v212 (0) (40) := (by rw [← ee213]; exact b211.2.2.2.2.2.2.2 9 (by decide))
        have q215 : elm (S207 7) 9 = v212.toInt := (elm_of c210 9).trans (congrArg Int32.toInt (ee213))
        have b216 : Bd v212 (1) (40) := ⟨by omega, (b214).2⟩
        have q217 : elm (S204 7) 0 = v7.toInt := (elm_of c205 0).trans (congrArg Int32.toInt (ee8))
        obtain ⟨v218, ee219⟩ : ∃ z : Int32, f209 0 = z := ⟨_, rfl⟩
        have b220 : Bd v218 (0) (12) := (by rw [← ee219]; exact b211.1 0 (by decide))
        have q221 : elm (S207 7) 0 = v218.toInt := (elm_of c210 0).trans (congrArg Int32.toInt (ee219))
        have b222 : Bd v218 (1) (12) := ⟨by omega, (b220).2⟩
        have q223 : elm (S204 7) 1 = v4.toInt := (elm_of c205 1).trans (congrArg Int32.toInt (ee5))
        obtain ⟨v224, ee225⟩ : ∃ z : Int32, f209 1 = z := ⟨_, rfl⟩
        have b226 : Bd v224 (0) (12) := (by rw [← ee225]; exact b211.2.1 1 (by decide))
        have q227 : elm (S207 7) 1 = v224.toInt := (elm_of c210 1).trans (congrArg Int32.toInt (ee225))
        have b228 : Bd v224 (1) (12) := ⟨by omega, (b226).2⟩
        have b229 : Bd v4 (1) (12) := ⟨by omega, (b6).2⟩
        have q230 : elm (S204 7) 3 = v10.toInt := (elm_of c205 3).trans (congrArg Int32.toInt (ee11))
        obtain ⟨v231, ee232⟩ : ∃ z : Int32, f209 3 = z := ⟨_, rfl⟩
        have b233 : Bd v231 (0) (12) := (by rw [← ee232]; exact b211.2.2.2.1 3 (by decide))
        have q234 : elm (S207 7) 3 = v231.toInt := (elm_of c210 3).trans (congrArg Int32.toInt (ee232))
        have b235 : Bd v10 (1) (12) := ⟨by omega, (b12).2⟩
        have b236 : Bd v231 (1) (12) := ⟨by omega, (b233).2⟩
        have q237 : elm (S204 7) 6 = v13.toInt := (elm_of c205 6).trans (congrArg Int32.toInt (ee14))
        obtain ⟨v238, ee239⟩ : ∃ z : Int32, f209 6 = z := ⟨_, rfl⟩
        have b240 : Bd v238 (0) (8) := (by rw [← ee239]; exact b211.2.2.2.2.1 6 (by decide))
        have q241 : elm (S207 7) 6 = v238.toInt := (elm_of c210 6).trans (congrArg Int32.toInt (ee239))
        have q242 : elm (S204 7) 8 = v16.toInt := (elm_of c205 8).trans (congrArg Int32.toInt (ee17))
        obtain ⟨v243, ee244⟩ : ∃ z : Int32, f209 8 = z := ⟨_, rfl⟩
        have b245 : Bd v243 (0) (3) := (by rw [← ee244]; exact b211.2.2.2.2.2.2.1 8 (by decide))
        have q246 : elm (S207 7) 8 = v243.toInt := (elm_of c210 8).trans (congrArg Int32.toInt (ee244))
        have b247 : Bd v243 (1) (3) := ⟨by omega, (b245).2⟩
        have q248 : elm (S204 7) 10 = v28.toInt := (elm_of c205 10).trans (congrArg Int32.toInt (ee29))
        obtain ⟨v249, ee250⟩ : ∃ z : Int32, f209 10 = z := ⟨_, rfl⟩
        have b251 : Bd v249 (0) (12) := (by rw [← ee250]; exact b211.1 10 (by decide))
        have q252 : elm (S207 7) 10 = v249.toInt := (elm_of c210 10).trans (congrArg Int32.toInt (ee250))
        have q253 : elm (S204 7) 11 = v25.toInt := (elm_of c205 11).trans (congrArg Int32.toInt (ee26))
        obtain ⟨v254, ee255⟩ : ∃ z : Int32, f209 11 = z := ⟨_, rfl⟩
        have b256 : Bd v254 (0) (12) := (by rw [← ee255]; exact b211.2.1 11 (by decide))
        have q257 : elm (S207 7) 11 = v254.toInt := (elm_of c210 11).trans (congrArg Int32.toInt (ee255))
        have q258 : elm (S204 7) 13 = v31.toInt := (elm_of c205 13).trans (congrArg Int32.toInt (ee32))
        obtain ⟨v259, ee260⟩ : ∃ z : Int32, f209 13 = z := ⟨_, rfl⟩
        have b261 : Bd v259 (0) (12) := (by rw [← ee260]; exact b211.2.2.2.1 13 (by decide))
        have q262 : elm (S207 7) 13 = v259.toInt := (elm_of c210 13).trans (congrArg Int32.toInt (ee260))
        have q263 : elm (S204 7) 16 = v34.toInt := (elm_of c205 16).trans (congrArg Int32.toInt (ee35))
        obtain ⟨v264, ee265⟩ : ∃ z : Int32, f209 16 = z := ⟨_, rfl⟩
        have b266 : Bd v264 (0) (8) := (by rw [← ee265]; exact b211.2.2.2.2.1 16 (by decide))
        have q267 : elm (S207 7) 16 = v264.toInt := (elm_of c210 16).trans (congrArg Int32.toInt (ee265))
        have q268 : elm (S204 7) 18 = v37.toInt := (elm_of c205 18).trans (congrArg Int32.toInt (ee38))
        obtain ⟨v269, ee270⟩ : ∃ z : Int32, f209 18 = z := ⟨_, rfl⟩
        have b271 : Bd v269 (0) (3) := (by rw [← ee270]; exact b211.2.2.2.2.2.2.1 18 (by decide))
        have q272 : elm (S207 7) 18 = v269.toInt := (elm_of c210 18).trans (congrArg Int32.toInt (ee270))
        have q273 : elm (S204 7) 19 = v109.toInt := (elm_of c205 19).trans (congrArg Int32.toInt (ee110))
        obtain ⟨v274, ee275⟩ : ∃ z : Int32, f209 19 = z := ⟨_, rfl⟩
        have b276 : Bd v274 (0) (40) := (by rw [← ee275]; exact b211.2.2.2.2.2.2.2 19 (by decide))
        have q277 : elm (S207 7) 19 = v274.toInt := (elm_of c210 19).trans (congrArg Int32.toInt (ee275))
        have q278 : elm (S204 7) 20 = v46.toInt := (elm_of c205 20).trans (congrArg Int32.toInt (ee47))
        obtain ⟨v279, ee280⟩ : ∃ z : Int32, f209 20 = z := ⟨_, rfl⟩
        have b281 : Bd v279 (0) (12) := (by rw [← ee280]; exact b211.1 20 (by decide))
        have q282 : elm (S207 7) 20 = v279.toInt := (elm_of c210 20).trans (congrArg Int32.toInt (ee280))
        have q283 : elm (S204 7) 21 = v43.toInt := (elm_of c205 21).trans (congrArg Int32.toInt (ee44))
        obtain ⟨v284, ee285⟩ : ∃ z : Int32, f209 21 = z := ⟨_, rfl⟩
        have b286 : Bd v284 (0) (12) := (by rw [← ee285]; exact b211.2.1 21 (by decide))
        have q287 : elm (S207 7) 21 = v284.toInt := (elm_of c210 21).trans (congrArg Int32.toInt (ee285))
        have q288 : elm (S204 7) 23 = v49.toInt := (elm_of c205 23).trans (congrArg Int32.toInt (ee50))
        obtain ⟨v289, ee290⟩ : ∃ z : Int32, f209 23 = z := ⟨_, rfl⟩
        have b291 : Bd v289 (0) (12) := (by rw [← ee290]; exact b211.2.2.2.1 23 (by decide))
        have q292 : elm (S207 7) 23 = v289.toInt := (elm_of c210 23).trans (congrArg Int32.toInt (ee290))
        have q293 : elm (S204 7) 26 = v52.toInt := (elm_of c205 26).trans (congrArg Int32.toInt (ee53))
        obtain ⟨v294, ee295⟩ : ∃ z : Int32, f209 26 = z := ⟨_, rfl⟩
        have b296 : Bd v294 (0) (8) := (by rw [← ee295]; exact b211.2.2.2.2.1 26 (by decide))
        have q297 : elm (S207 7) 26 = v294.toInt := (elm_of c210 26).trans (congrArg Int32.toInt (ee295))
        have q298 : elm (S204 7) 28 = v55.toInt := (elm_of c205 28).trans (congrArg Int32.toInt (ee56))
        obtain ⟨v299, ee300⟩ : ∃ z : Int32, f209 28 = z := ⟨_, rfl⟩
        have b301 : Bd v299 (0) (3) := (by rw [← ee300]; exact b211.2.2.2.2.2.2.1 28 (by decide))
        have q302 : elm (S207 7) 28 = v299.toInt := (elm_of c210 28).trans (congrArg Int32.toInt (ee300))
        have q303 : elm (S204 7) 29 = v112.toInt := (elm_of c205 29).trans (congrArg Int32.toInt (ee113))
        obtain ⟨v304, ee305⟩ : ∃ z : Int32, f209 29 = z := ⟨_, rfl⟩
        have b306 : Bd v304 (0) (40) := (by rw [← ee305]; exact b211.2.2.2.2.2.2.2 29 (by decide))
        have q307 : elm (S207 7) 29 = v304.toInt := (elm_of c210 29).trans (congrArg Int32.toInt (ee305))
        have q308 : elm (S204 7) 30 = v64.toInt := (elm_of c205 30).trans (congrArg Int32.toInt (ee65))
        obtain ⟨v309, ee310⟩ : ∃ z : Int32, f209 30 = z := ⟨_, rfl⟩
        have b311 : Bd v309 (0) (12) := (by rw [← ee310]; exact b211.1 30 (by decide))
        have q312 : elm (S207 7) 30 = v309.toInt := (elm_of c210 30).trans (congrArg Int32.toInt (ee310))
        have q313 : elm (S204 7) 31 = v61.toInt := (elm_of c205 31).trans (congrArg Int32.toInt (ee62))
        obtain ⟨v314, ee315⟩ : ∃ z : Int32, f209 31 = z := ⟨_, rfl⟩
        have b316 : Bd v314 (0) (12) := (by rw [← ee315]; exact b211.2.1 31 (by decide))
        have q317 : elm (S207 7) 31 = v314.toInt := (elm_of c210 31).trans (congrArg Int32.toInt (ee315))
        have q318 : elm (S204 7) 33 = v67.toInt := (elm_of c205 33).trans (congrArg Int32.toInt (ee68))
        obtain ⟨v319, ee320⟩ : ∃ z : Int32, f209 33 = z := ⟨_, rfl⟩
        have b321 : Bd v319 (0) (12) := (by rw [← ee320]; exact b211.2.2.2.1 33 (by decide))
        have q322 : elm (S207 7) 33 = v319.toInt := (elm_of c210 33).trans (congrArg Int32.toInt (ee320))
        have q323 : elm (S204 7) 36 = v70.toInt := (elm_of c205 36).trans (congrArg Int32.toInt (ee71))
        obtain ⟨v324, ee325⟩ : ∃ z : Int32, f209 36 = z := ⟨_, rfl⟩
        have b326 : Bd v324 (0) (8) := (by rw [← ee325]; exact b211.2.2.2.2.1 36 (by decide))
        have q327 : elm (S207 7) 36 = v324.toInt := (elm_of c210 36).trans (congrArg Int32.toInt (ee325))
        have q328 : elm (S204 7) 38 = v73.toInt := (elm_of c205 38).trans (congrArg Int32.toInt (ee74))
        obtain ⟨v329, ee330⟩ : ∃ z : Int32, f209 38 = z := ⟨_, rfl⟩
        have b331 : Bd v329 (0) (3) := (by rw [← ee330]; exact b211.2.2.2.2.2.2.1 38 (by decide))
        have q332 : elm (S207 7) 38 = v329.toInt := (elm_of c210 38).trans (congrArg Int32.toInt (ee330))
        have q333 : elm (S204 7) 39 = v115.toInt := (elm_of c205 39).trans (congrArg Int32.toInt (ee116))
        obtain ⟨v334, ee335⟩ : ∃ z : Int32, f209 39 = z := ⟨_, rfl⟩
        have b336 : Bd v334 (0) (40) := (by rw [← ee335]; exact b211.2.2.2.2.2.2.2 39 (by decide))
        have q337 : elm (S207 7) 39 = v334.toInt := (elm_of c210 39).trans (congrArg Int32.toInt (ee335))
        refine lv_aload_n hx hb dX12_sit_47 rfl (lv_at hl 0 rfl) ?_
        have c338 : S207 0 = .inr (12, [.int 0, .ref (ad 1), .ref (ad 2), .ref (ad 3), .ref (ad 4), .ref (ad 5), .int v119, .int v121, .int v123, .int v125, .int v126, .long w127, .int v128, .int v130, .int v131, .int v132, .ref (ad 6), .ref (ad 7), .ref (ad 8), .ref (ad 9), .ref (ad 10), .ref (ad 11), .ref (ad 12), .ref (ad 13), .ref (ad 14), .ref (ad 15), .int v133, .int v135, .ref (ad 16), .int v137, .int v139, .int v141, .int v143, .int v144, .ref (ad 17), .ref (ad 18), .int v145, .ref (ad 19)]) := ((o207 0 (by decide)).trans c208)
        refine xget E hQ 0 (by decide) c338 rfl 24 (by decide) q1492 rfl dX12_sit_48 ?_
        refine lv_iload_n hx hb dX12_sit_51 rfl (lv_at hl 1 rfl) ?_
        obtain ⟨f339, c340, b341⟩ := invM_14 hI
        refine xiald E hQ 14 (by decide) c340 (ib_in b182 (by decide) (by decide)) dX12_sit_52 ?_
        refine lv_topi (fun z342 e343 => ?_)
        have b344 : Bd z342 (0) (11) := (by rw [e343]; exact b341 _)
        have c345 : S207 6 = .inl (g.2 0, 5, .inl f19) := ((o207 6 (by decide)).trans ((o204 6 (by decide)).trans (up_ne eS147 (by decide) c20)))
        have q346 : elm (S207 6) 0 = v22.toInt := (elm_of c345 0).trans (congrArg Int32.toInt (ee23))
        have q347 : elm (S207 6) 1 = v40.toInt := (elm_of c345 1).trans (congrArg Int32.toInt (ee41))
        have q348 : elm (S207 6) 2 = v58.toInt := (elm_of c345 2).trans (congrArg Int32.toInt (ee59))
        have q349 : elm (S207 6) 3 = v76.toInt := (elm_of c345 3).trans (congrArg Int32.toInt (ee77))
        exact xri E hr hlk hQ (⟨hI, (o_trans (o_trans (up_o o_refl eS147 (by decide)) o204 (by decide)) o207 (by decide)), (ib_wk b344 (by decide) (by decide)), (by omega), (by omega), (by omega), (by omega), (by omega), (by omega), (by omega), (by omega), (by omega), (by omega), (by omega), (by omega), (by omega), (by omega), (by omega), (by omega), (by omega), (by omega), (by omega), (by omega), u207_0, u207_1, u207_2, u207_3⟩) dX12_sit_53
      · have h350 := ib_ne k199
        have b351 : Bd r197 (1) (1) := rf_nlo b197 (by decide : Bd 0 (0) (0)) h350
        clear g197_0
        refine lv_bipush (v := (-5)) hx hb dX12_sit_32 (by decide) ?_
        have q352 : elm (S147 7) 1 = v4.toInt := (elm_of c149 1).trans (congrArg Int32.toInt (ee5))
        have q353 : elm (S147 7) 3 = v10.toInt := (elm_of c149 3).trans (congrArg Int32.toInt (ee11))
        have q354 : elm (S147 7) 6 = v13.toInt := (elm_of c149 6).trans (congrArg Int32.toInt (ee14))
        have c355 : S147 6 = .inl (g.2 0, 5, .inl f19) := (up_ne eS147 (by decide) c20)
        have q356 : elm (S147 6) 0 = v22.toInt := (elm_of c355 0).trans (congrArg Int32.toInt (ee23))
        have q357 : elm (S147 7) 11 = v25.toInt := (elm_of c149 11).trans (congrArg Int32.toInt (ee26))
        have q358 : elm (S147 7) 10 = v28.toInt := (elm_of c149 10).trans (congrArg Int32.toInt (ee29))
        have q359 : elm (S147 7) 13 = v31.toInt := (elm_of c149 13).trans (congrArg Int32.toInt (ee32))
        have q360 : elm (S147 7) 16 = v34.toInt := (elm_of c149 16).trans (congrArg Int32.toInt (ee35))
        have q361 : elm (S147 7) 18 = v37.toInt := (elm_of c149 18).trans (congrArg Int32.toInt (ee38))
        have q362 : elm (S147 6) 1 = v40.toInt := (elm_of c355 1).trans (congrArg Int32.toInt (ee41))
        have q363 : elm (S147 7) 21 = v43.toInt := (elm_of c149 21).trans (congrArg Int32.toInt (ee44))
        have q364 : elm (S147 7) 20 = v46.toInt := (elm_of c149 20).trans (congrArg Int32.toInt (ee47))
        have q365 : elm (S147 7) 23 = v49.toInt := (elm_of c149 23).trans (congrArg Int32.toInt (ee50))
        have q366 : elm (S147 7) 26 = v52.toInt := (elm_of c149 26).trans (congrArg Int32.toInt (ee53))
        have q367 : elm (S147 7) 28 = v55.toInt := (elm_of c149 28).trans (congrArg Int32.toInt (ee56))
        have q368 : elm (S147 6) 2 = v58.toInt := (elm_of c355 2).trans (congrArg Int32.toInt (ee59))
        have q369 : elm (S147 7) 31 = v61.toInt := (elm_of c149 31).trans (congrArg Int32.toInt (ee62))
        have q370 : elm (S147 7) 30 = v64.toInt := (elm_of c149 30).trans (congrArg Int32.toInt (ee65))
        have q371 : elm (S147 7) 33 = v67.toInt := (elm_of c149 33).trans (congrArg Int32.toInt (ee68))
        have q372 : elm (S147 7) 36 = v70.toInt := (elm_of c149 36).trans (congrArg Int32.toInt (ee71))
        have q373 : elm (S147 7) 38 = v73.toInt := (elm_of c149 38).trans (congrArg Int32.toInt (ee74))
        have q374 : elm (S147 6) 3 = v76.toInt := (elm_of c355 3).trans (congrArg Int32.toInt (ee77))
        exact xri E hr hlk hQ (⟨hI, (up_o o_refl eS147 (by decide)), (ib_wk (by decide : Bd (-5) (-5) (-5)) (by decide) (by decide)), (by omega), (by omega), (by omega), (by omega), (by omega), (by omega), (by omega), (by omega), (by omega), (by omega), (by omega), (by omega), (by omega), (by omega), (by omega), (by omega), (by omega), (by omega), (by omega), (by omega), (at_tr hAT0 (up_eq (j := 7) eS147 (by decide)) (up_eq (j := 12) eS147 (by decide))), (at_tr hAT1 (up_eq (j := 7) eS147 (by decide)) (up_eq (j := 12) eS147 (by decide))), (at_tr hAT2 (up_eq (j := 7) eS147 (by decide)) (up_eq (j := 12) eS147 (by decide))), (at_tr hAT3 (up_eq (j := 7) eS147 (by decide)) (up_eq (j := 12) eS147 (by decide)))⟩) dX12_sit_34
    · have h375 := ib_eq k190
      have b376 : Bd r188 (0) (0) := ⟨(b188).1, ((rf_eq b188 (by decide : Bd 0 (0) (0)) h375).1).2⟩
      clear g188_0
      refine lv_bipush (v := (-2)) hx hb dX12_sit_22 (by decide) ?_
      have q377 : elm (S147 7) 1 = v4.toInt := (elm_of c149 1).trans (congrArg Int32.toInt (ee5))
      have q378 : elm (S147 7) 3 = v10.toInt := (elm_of c149 3).trans (congrArg Int32.toInt (ee11))
      have q379 : elm (S147 7) 6 = v13.toInt := (elm_of c149 6).trans (congrArg Int32.toInt (ee14))
      have c380 : S147 6 = .inl (g.2 0, 5, .inl f19) := (up_ne eS147 (by decide) c20)
      have q381 : elm (S147 6) 0 = v22.toInt := (elm_of c380 0).trans (congrArg Int32.toInt (ee23))
      have q382 : elm (S147 7) 11 = v25.toInt := (elm_of c149 11).trans (congrArg Int32.toInt (ee26))
      have q383 : elm (S147 7) 10 = v28.toInt := (elm_of c149 10).trans (congrArg Int32.toInt (ee29))
      have q384 : elm (S147 7) 13 = v31.toInt := (elm_of c149 13).trans (congrArg Int32.toInt (ee32))
      have q385 : elm (S147 7) 16 = v34.toInt := (elm_of c149 16).trans (congrArg Int32.toInt (ee35))
      have q386 : elm (S147 7) 18 = v37.toInt := (elm_of c149 18).trans (congrArg Int32.toInt (ee38))
      have q387 : elm (S147 6) 1 = v40.toInt := (elm_of c380 1).trans (congrArg Int32.toInt (ee41))
      have q388 : elm (S147 7) 21 = v43.toInt := (elm_of c149 21).trans (congrArg Int32.toInt (ee44))
      have q389 : elm (S147 7) 20 = v46.toInt := (elm_of c149 20).trans (congrArg Int32.toInt (ee47))
      have q390 : elm (S147 7) 23 = v49.toInt := (elm_of c149 23).trans (congrArg Int32.toInt (ee50))
      have q391 : elm (S147 7) 26 = v52.toInt := (elm_of c149 26).trans (congrArg Int32.toInt (ee53))
      have q392 : elm (S147 7) 28 = v55.toInt := (elm_of c149 28).trans (congrArg Int32.toInt (ee56))
      have q393 : elm (S147 6) 2 = v58.toInt := (elm_of c380 2).trans (congrArg Int32.toInt (ee59))
      have q394 : elm (S147 7) 31 = v61.toInt := (elm_of c149 31).trans (congrArg Int32.toInt (ee62))
      have q395 : elm (S147 7) 30 = v64.toInt := (elm_of c149 30).trans (congrArg Int32.toInt (ee65))
      have q396 : elm (S147 7) 33 = v67.toInt := (elm_of c149 33).trans (congrArg Int32.toInt (ee68))
      have q397 : elm (S147 7) 36 = v70.toInt := (elm_of c149 36).trans (congrArg Int32.toInt (ee71))
      have q398 : elm (S147 7) 38 = v73.toInt := (elm_of c149 38).trans (congrArg Int32.toInt (ee74))
      have q399 : elm (S147 6) 3 = v76.toInt := (elm_of c380 3).trans (congrArg Int32.toInt (ee77))
      exact xri E hr hlk hQ (⟨hI, (up_o o_refl eS147 (by decide)), (ib_wk (by decide : Bd (-2) (-2) (-2)) (by decide) (by decide)), (by omega), (by omega), (by omega), (by omega), (by omega), (by omega), (by omega), (by omega), (by omega), (by omega), (by omega), (by omega), (by omega), (by omega), (by omega), (by omega), (by omega), (by omega), (by omega), (by omega), (at_tr hAT0 (up_eq (j := 7) eS147 (by decide)) (up_eq (j := 12) eS147 (by decide))), (at_tr hAT1 (up_eq (j := 7) eS147 (by decide)) (up_eq (j := 12) eS147 (by decide))), (at_tr hAT2 (up_eq (j := 7) eS147 (by decide)) (up_eq (j := 12) eS147 (by decide))), (at_tr hAT3 (up_eq (j := 7) eS147 (by decide)) (up_eq (j := 12) eS147 (by decide)))⟩) dX12_sit_24
set_option maxHeartbeats 4000000 in
set_option maxRecDepth 100000 in
theorem gX12_shove_0 (l : Launch) (g : GG) (ad : Nat → Nat) (hD : Dj ad 20) (S : SS) (hI : InvM g ad S) (a1 : Int32) (a2 : Int32) (a3 : Int32) (hq1 : 0 ≤ 12 * elm (S 7) 1 + (-1) * elm (S 7) 0) (hq2 : 0 ≤ 12 * elm (S 7) 3 + (-1) * elm (S 7) 0) (hq3 : 0 ≤ 8 * elm (S 7) 0 + (-1) * elm (S 7) 6) (hq4 : 0 ≤ 3 * elm (S 7) 0 + (-1) * elm (S 7) 8) (hq5 : 0 ≤ 40000 * elm (S 7) 0 + (-1) * elm (S 6) 0) (hq6 : 0 ≤ 12 * elm (S 7) 11 + (-1) * elm (S 7) 10) (hq7 : 0 ≤ 12 * elm (S 7) 13 + (-1) * elm (S 7) 10) (hq8 : 0 ≤ 8 * elm (S 7) 10 + (-1) * elm (S 7) 16) (hq9 : 0 ≤ 3 * elm (S 7) 10 + (-1) * elm (S 7) 18) (hq10 : 0 ≤ 40000 * elm (S 7) 10 + (-1) * elm (S 6) 1) (hq11 : 0 ≤ 12 * elm (S 7) 21 + (-1) * elm (S 7) 20) (hq12 : 0 ≤ 12 * elm (S 7) 23 + (-1) * elm (S 7) 20) (hq13 : 0 ≤ 8 * elm (S 7) 20 + (-1) * elm (S 7) 26) (hq14 : 0 ≤ 3 * elm (S 7) 20 + (-1) * elm (S 7) 28) (hq15 : 0 ≤ 40000 * elm (S 7) 20 + (-1) * elm (S 6) 2) (hq16 : 0 ≤ 12 * elm (S 7) 31 + (-1) * elm (S 7) 30) (hq17 : 0 ≤ 12 * elm (S 7) 33 + (-1) * elm (S 7) 30) (hq18 : 0 ≤ 8 * elm (S 7) 30 + (-1) * elm (S 7) 36) (hq19 : 0 ≤ 3 * elm (S 7) 30 + (-1) * elm (S 7) 38) (hq20 : 0 ≤ 40000 * elm (S 7) 30 + (-1) * elm (S 6) 3) (hAT0 : ATp (S 7) (S 12) 0) (hAT1 : ATp (S 7) (S 12) 1) (hAT2 : ATp (S 7) (S 12) 2) (hAT3 : ATp (S 7) (S 12) 3) : Met l yX12_shove (wG (.code yX12_shove cX12_shove 6 (some .int))) (Rm 2) (XPre g ad 20 S [.ref (ad 0), .int a1, .int a2, .int a3]) (va_Qi (fun _ S' => InvM g ad S' ∧ (∀ j, j ∉ ([0, 7, 12, 14, 15] : List Nat) → S' j = S j) ∧ (0 ≤ 12 * elm (S' 7) 1 + (-1) * elm (S' 7) 0) ∧ (0 ≤ 12 * elm (S' 7) 3 + (-1) * elm (S' 7) 0) ∧ (0 ≤ 8 * elm (S' 7) 0 + (-1) * elm (S' 7) 6) ∧ (0 ≤ 3 * elm (S' 7) 0 + (-1) * elm (S' 7) 8) ∧ (0 ≤ 40000 * elm (S' 7) 0 + (-1) * elm (S' 6) 0) ∧ (0 ≤ 12 * elm (S' 7) 11 + (-1) * elm (S' 7) 10) ∧ (0 ≤ 12 * elm (S' 7) 13 + (-1) * elm (S' 7) 10) ∧ (0 ≤ 8 * elm (S' 7) 10 + (-1) * elm (S' 7) 16) ∧ (0 ≤ 3 * elm (S' 7) 10 + (-1) * elm (S' 7) 18) ∧ (0 ≤ 40000 * elm (S' 7) 10 + (-1) * elm (S' 6) 1) ∧ (0 ≤ 12 * elm (S' 7) 21 + (-1) * elm (S' 7) 20) ∧ (0 ≤ 12 * elm (S' 7) 23 + (-1) * elm (S' 7) 20) ∧ (0 ≤ 8 * elm (S' 7) 20 + (-1) * elm (S' 7) 26) ∧ (0 ≤ 3 * elm (S' 7) 20 + (-1) * elm (S' 7) 28) ∧ (0 ≤ 40000 * elm (S' 7) 20 + (-1) * elm (S' 6) 2) ∧ (0 ≤ 12 * elm (S' 7) 31 + (-1) * elm (S' 7) 30) ∧ (0 ≤ 12 * elm (S' 7) 33 + (-1) * elm (S' 7) 30) ∧ (0 ≤ 8 * elm (S' 7) 30 + (-1) * elm (S' 7) 36) ∧ (0 ≤ 3 * elm (S' 7) 30 + (-1) * elm (S' 7) 38) ∧ (0 ≤ 40000 * elm (S' 7) 30 + (-1) * elm (S' 6) 3) ∧ (ATp (S' 7) (S' 12) 0) ∧ (ATp (S' 7) (S' 12) 1) ∧ (ATp (S' 7) (S' 12) 2) ∧ (ATp (S' 7) (S' 12) 3)) (QB g ad 20) (FA ad 20)) 0 0 (FA ad 20) := by
  refine xmet cX12_shove "EbbWreckModel" (by decide) rfl (Nat.le_of_ble_eq_true rfl) (fun p e s m below meth c E hr hlk hml hQ ls hl => ?_)
  have hx := E.1
  have hb := E.2.1
  have hs : Sp ad 20 (FA ad 20) := Sp.fa hD
  have hl : lv_has ls 6 [(0, .ref (ad 0)), (1, .int a1), (2, .int a2), (3, .int a3)] := hl
  obtain ⟨f1, c2, b3⟩ := invM_7 hI
  obtain ⟨v4, ee5⟩ : ∃ z : Int32, f1 1 = z := ⟨_, rfl⟩
  have b6 : Bd v4 (0) (12) := (by rw [← ee5]; exact b3.2.1 1 (by decide))
  obtain ⟨v7, ee8⟩ : ∃ z : Int32, f1 0 = z := ⟨_, rfl⟩
  have b9 : Bd v7 (0) (12) := (by rw [← ee8]; exact b3.1 0 (by decide))
  obtain ⟨v10, ee11⟩ : ∃ z : Int32, f1 3 = z := ⟨_, rfl⟩
  have b12 : Bd v10 (0) (12) := (by rw [← ee11]; exact b3.2.2.2.1 3 (by decide))
  obtain ⟨v13, ee14⟩ : ∃ z : Int32, f1 6 = z := ⟨_, rfl⟩
  have b15 : Bd v13 (0) (8) := (by rw [← ee14]; exact b3.2.2.2.2.1 6 (by decide))
  obtain ⟨v16, ee17⟩ : ∃ z : Int32, f1 8 = z := ⟨_, rfl⟩
  have b18 : Bd v16 (0) (3) := (by rw [← ee17]; exact b3.2.2.2.2.2.2.1 8 (by decide))
  obtain ⟨f19, c20, b21⟩ := invM_6 hI
  obtain ⟨v22, ee23⟩ : ∃ z : Int32, f19 0 = z := ⟨_, rfl⟩
  have b24 : Bd v22 (0) (40000) := (by rw [← ee23]; exact b21 0)
  obtain ⟨v25, ee26⟩ : ∃ z : Int32, f1 11 = z := ⟨_, rfl⟩
  have b27 : Bd v25 (0) (12) := (by rw [← ee26]; exact b3.2.1 11 (by decide))
  obtain ⟨v28, ee29⟩ : ∃ z : Int32, f1 10 = z := ⟨_, rfl⟩
  have b30 : Bd v28 (0) (12) := (by rw [← ee29]; exact b3.1 10 (by decide))
  obtain ⟨v31, ee32⟩ : ∃ z : Int32, f1 13 = z := ⟨_, rfl⟩
  have b33 : Bd v31 (0) (12) := (by rw [← ee32]; exact b3.2.2.2.1 13 (by decide))
  obtain ⟨v34, ee35⟩ : ∃ z : Int32, f1 16 = z := ⟨_, rfl⟩
  have b36 : Bd v34 (0) (8) := (by rw [← ee35]; exact b3.2.2.2.2.1 16 (by decide))
  obtain ⟨v37, ee38⟩ : ∃ z : Int32, f1 18 = z := ⟨_, rfl⟩
  have b39 : Bd v37 (0) (3) := (by rw [← ee38]; exact b3.2.2.2.2.2.2.1 18 (by decide))
  obtain ⟨v40, ee41⟩ : ∃ z : Int32, f19 1 = z := ⟨_, rfl⟩
  have b42 : Bd v40 (0) (40000) := (by rw [← ee41]; exact b21 1)
  obtain ⟨v43, ee44⟩ : ∃ z : Int32, f1 21 = z := ⟨_, rfl⟩
  have b45 : Bd v43 (0) (12) := (by rw [← ee44]; exact b3.2.1 21 (by decide))
  obtain ⟨v46, ee47⟩ : ∃ z : Int32, f1 20 = z := ⟨_, rfl⟩
  have b48 : Bd v46 (0) (12) := (by rw [← ee47]; exact b3.1 20 (by decide))
  obtain ⟨v49, ee50⟩ : ∃ z : Int32, f1 23 = z := ⟨_, rfl⟩
  have b51 : Bd v49 (0) (12) := (by rw [← ee50]; exact b3.2.2.2.1 23 (by decide))
  obtain ⟨v52, ee53⟩ : ∃ z : Int32, f1 26 = z := ⟨_, rfl⟩
  have b54 : Bd v52 (0) (8) := (by rw [← ee53]; exact b3.2.2.2.2.1 26 (by decide))
  obtain ⟨v55, ee56⟩ : ∃ z : Int32, f1 28 = z := ⟨_, rfl⟩
  have b57 : Bd v55 (0) (3) := (by rw [← ee56]; exact b3.2.2.2.2.2.2.1 28 (by decide))
  obtain ⟨v58, ee59⟩ : ∃ z : Int32, f19 2 = z := ⟨_, rfl⟩
  have b60 : Bd v58 (0) (40000) := (by rw [← ee59]; exact b21 2)
  obtain ⟨v61, ee62⟩ : ∃ z : Int32, f1 31 = z := ⟨_, rfl⟩
  have b63 : Bd v61 (0) (12) := (by rw [← ee62]; exact b3.2.1 31 (by decide))
  obtain ⟨v64, ee65⟩ : ∃ z : Int32, f1 30 = z := ⟨_, rfl⟩
  have b66 : Bd v64 (0) (12) := (by rw [← ee65]; exact b3.1 30 (by decide))
  obtain ⟨v67, ee68⟩ : ∃ z : Int32, f1 33 = z := ⟨_, rfl⟩
  have b69 : Bd v67 (0) (12) := (by rw [← ee68]; exact b3.2.2.2.1 33 (by decide))
  obtain ⟨v70, ee71⟩ : ∃ z : Int32, f1 36 = z := ⟨_, rfl⟩
  have b72 : Bd v70 (0) (8) := (by rw [← ee71]; exact b3.2.2.2.2.1 36 (by decide))
  obtain ⟨v73, ee74⟩ : ∃ z : Int32, f1 38 = z := ⟨_, rfl⟩
  have b75 : Bd v73 (0) (3) := (by rw [← ee74]; exact b3.2.2.2.2.2.2.1 38 (by decide))
  obtain ⟨v76, ee77⟩ : ∃ z : Int32, f19 3 = z := ⟨_, rfl⟩
  have b78 : Bd v76 (0) (40000) := (by rw [← ee77]; exact b21 3)
  have q79 : elm (S 7) 1 = v4.toInt := (elm_of c2 1).trans (congrArg Int32.toInt (ee5))
  have q80 : elm (S 7) 0 = v7.toInt := (elm_of c2 0).trans (congrArg Int32.toInt (ee8))
  have q81 : elm (S 7) 3 = v10.toInt := (elm_of c2 3).trans (congrArg Int32.toInt (ee11))
  have q82 : elm (S 7) 6 = v13.toInt := (elm_of c2 6).trans (congrArg Int32.toInt (ee14))
  have q83 : elm (S 7) 8 = v16.toInt := (elm_of c2 8).trans (congrArg Int32.toInt (ee17))
  have q84 : elm (S 6) 0 = v22.toInt := (elm_of c20 0).trans (congrArg Int32.toInt (ee23))
  have q85 : elm (S 7) 11 = v25.toInt := (elm_of c2 11).trans (congrArg Int32.toInt (ee26))
  have q86 : elm (S 7) 10 = v28.toInt := (elm_of c2 10).trans (congrArg Int32.toInt (ee29))
  have q87 : elm (S 7) 13 = v31.toInt := (elm_of c2 13).trans (congrArg Int32.toInt (ee32))
  have q88 : elm (S 7) 16 = v34.toInt := (elm_of c2 16).trans (congrArg Int32.toInt (ee35))
  have q89 : elm (S 7) 18 = v37.toInt := (elm_of c2 18).trans (congrArg Int32.toInt (ee38))
  have q90 : elm (S 6) 1 = v40.toInt := (elm_of c20 1).trans (congrArg Int32.toInt (ee41))
  have q91 : elm (S 7) 21 = v43.toInt := (elm_of c2 21).trans (congrArg Int32.toInt (ee44))
  have q92 : elm (S 7) 20 = v46.toInt := (elm_of c2 20).trans (congrArg Int32.toInt (ee47))
  have q93 : elm (S 7) 23 = v49.toInt := (elm_of c2 23).trans (congrArg Int32.toInt (ee50))
  have q94 : elm (S 7) 26 = v52.toInt := (elm_of c2 26).trans (congrArg Int32.toInt (ee53))
  have q95 : elm (S 7) 28 = v55.toInt := (elm_of c2 28).trans (congrArg Int32.toInt (ee56))
  have q96 : elm (S 6) 2 = v58.toInt := (elm_of c20 2).trans (congrArg Int32.toInt (ee59))
  have q97 : elm (S 7) 31 = v61.toInt := (elm_of c2 31).trans (congrArg Int32.toInt (ee62))
  have q98 : elm (S 7) 30 = v64.toInt := (elm_of c2 30).trans (congrArg Int32.toInt (ee65))
  have q99 : elm (S 7) 33 = v67.toInt := (elm_of c2 33).trans (congrArg Int32.toInt (ee68))
  have q100 : elm (S 7) 36 = v70.toInt := (elm_of c2 36).trans (congrArg Int32.toInt (ee71))
  have q101 : elm (S 7) 38 = v73.toInt := (elm_of c2 38).trans (congrArg Int32.toInt (ee74))
  have q102 : elm (S 6) 3 = v76.toInt := (elm_of c20 3).trans (congrArg Int32.toInt (ee77))
  obtain ⟨f103, c104, b105⟩ := invM_12 hI
  obtain ⟨v106, ee107⟩ : ∃ z : Int32, f1 9 = z := ⟨_, rfl⟩
  have b108 : Bd v106 (0) (40) := (by rw [← ee107]; exact b3.2.2.2.2.2.2.2 9 (by decide))
  obtain ⟨v109, ee110⟩ : ∃ z : Int32, f1 19 = z := ⟨_, rfl⟩
  have b111 : Bd v109 (0) (40) := (by rw [← ee110]; exact b3.2.2.2.2.2.2.2 19 (by decide))
  obtain ⟨v112, ee113⟩ : ∃ z : Int32, f1 29 = z := ⟨_, rfl⟩
  have b114 : Bd v112 (0) (40) := (by rw [← ee113]; exact b3.2.2.2.2.2.2.2 29 (by decide))
  obtain ⟨v115, ee116⟩ : ∃ z : Int32, f1 39 = z := ⟨_, rfl⟩
  have b117 : Bd v115 (0) (40) := (by rw [← ee116]; exact b3.2.2.2.2.2.2.2 39 (by decide))
  refine lv_aload_n hx hb dX12_shove_0 rfl (lv_at hl 0 rfl) ?_
  refine lv_iconst (v := 0) hx hb dX12_shove_1 (by decide) ?_
  obtain ⟨v118, v119, v121, v123, v125, v126, w127, v128, v130, v131, v132, v133, v135, v137, v139, v141, v143, v144, v145, c146, b120, b122, b124, b129, b134, b136, b138, b140, b142⟩ := invM_0 hI
  have c146 : S 0 = .inr (12, [.int v118, .ref (ad 1), .ref (ad 2), .ref (ad 3), .ref (ad 4), .ref (ad 5), .int v119, .int v121, .int v123, .int v125, .int v126, .long w127, .int v128, .int v130, .int v131, .int v132, .ref (ad 6), .ref (ad 7), .ref (ad 8), .ref (ad 9), .ref (ad 10), .ref (ad 11), .ref (ad 12), .ref (ad 13), .ref (ad 14), .ref (ad 15), .int v133, .int v135, .ref (ad 16), .int v137, .int v139, .int v141, .int v143, .int v144, .ref (ad 17), .ref (ad 18), .int v145, .ref (ad 19)]) := c146
  refine xputi E hs hQ 0 (by decide) c146 rfl 0 (by decide) q1468 rfl rfl (Nat.le_of_ble_eq_true rfl) dX12_shove_2 (fun H locs S147 eS147 hQ => ?_)
  have hI := invM_up_0 hI eS147 ⟨0, v119, v121, v123, v125, v126, w127, v128, v130, v131, v132, v133, v135, v137, v139, v141, v143, v144, v145, rfl, b120, b122, b124, b129, b134, b136, b138, b140, b142⟩
  have c148 : S147 0 = .inr (12, [.int 0, .ref (ad 1), .ref (ad 2), .ref (ad 3), .ref (ad 4), .ref (ad 5), .int v119, .int v121, .int v123, .int v125, .int v126, .long w127, .int v128, .int v130, .int v131, .int v132, .ref (ad 6), .ref (ad 7), .ref (ad 8), .ref (ad 9), .ref (ad 10), .ref (ad 11), .ref (ad 12), .ref (ad 13), .ref (ad 14), .ref (ad 15), .int v133, .int v135, .ref (ad 16), .int v137, .int v139, .int v141, .int v143, .int v144, .ref (ad 17), .ref (ad 18), .int v145, .ref (ad 19)]) := up_at eS147 rfl
  refine lv_aload_n hx hb dX12_shove_5 rfl (lv_at hl 0 rfl) ?_
  refine lv_iload_n hx hb dX12_shove_6 rfl (lv_at hl 1 rfl) ?_
  have c149 : S147 7 = .inl (g.2 0, 50, .inl f1) := (up_ne eS147 (by decide) c2)
  refine xcVi E hs hQ hml hl.1 0 (gX12_isThing_0 l g ad hD S147 hI a1) mX12_isThing q1766 (by decide) c148 rfl rfl ⟨(Nat.le_of_ble_eq_true rfl), (Nat.le_of_ble_eq_true rfl)⟩ ⟨(Nat.le_of_ble_eq_true rfl), (Nat.le_of_ble_eq_true rfl)⟩ (Nat.le_of_ble_eq_true rfl) rfl dX12_shove_7 (fun r150 S150 H locs hp150 hQ _ => ?_)
  obtain ⟨rfl, b150, g150_0⟩ := hp150
  have q151 : elm (S147 7) 6 = v13.toInt := (elm_of c149 6).trans (congrArg Int32.toInt (ee14))
  refine lv_if_eq (tgt := 35) hx hb dX12_shove_10 (by decide) (fun k152 => ?_) (fun k152 => ?_)
  · have h153 := ib_eq k152
    have b154 : Bd r150 (0) (0) := ⟨(b150).1, ((rf_eq b150 (by decide : Bd 0 (0) (0)) h153).1).2⟩
    clear g150_0
    refine lv_bipush (v := (-2)) hx hb dX12_shove_35 (by decide) ?_
    have q155 : elm (S147 7) 1 = v4.toInt := (elm_of c149 1).trans (congrArg Int32.toInt (ee5))
    have q156 : elm (S147 7) 0 = v7.toInt := (elm_of c149 0).trans (congrArg Int32.toInt (ee8))
    have q157 : elm (S147 7) 3 = v10.toInt := (elm_of c149 3).trans (congrArg Int32.toInt (ee11))
    have q158 : elm (S147 7) 8 = v16.toInt := (elm_of c149 8).trans (congrArg Int32.toInt (ee17))
    have c159 : S147 6 = .inl (g.2 0, 5, .inl f19) := (up_ne eS147 (by decide) c20)
    have q160 : elm (S147 6) 0 = v22.toInt := (elm_of c159 0).trans (congrArg Int32.toInt (ee23))
    have q161 : elm (S147 7) 11 = v25.toInt := (elm_of c149 11).trans (congrArg Int32.toInt (ee26))
    have q162 : elm (S147 7) 10 = v28.toInt := (elm_of c149 10).trans (congrArg Int32.toInt (ee29))
    have q163 : elm (S147 7) 13 = v31.toInt := (elm_of c149 13).trans (congrArg Int32.toInt (ee32))
    have q164 : elm (S147 7) 16 = v34.toInt := (elm_of c149 16).trans (congrArg Int32.toInt (ee35))
    have q165 : elm (S147 7) 18 = v37.toInt := (elm_of c149 18).trans (congrArg Int32.toInt (ee38))
    have q166 : elm (S147 6) 1 = v40.toInt := (elm_of c159 1).trans (congrArg Int32.toInt (ee41))
    have q167 : elm (S147 7) 21 = v43.toInt := (elm_of c149 21).trans (congrArg Int32.toInt (ee44))
    have q168 : elm (S147 7) 20 = v46.toInt := (elm_of c149 20).trans (congrArg Int32.toInt (ee47))
    have q169 : elm (S147 7) 23 = v49.toInt := (elm_of c149 23).trans (congrArg Int32.toInt (ee50))
    have q170 : elm (S147 7) 26 = v52.toInt := (elm_of c149 26).trans (congrArg Int32.toInt (ee53))
    have q171 : elm (S147 7) 28 = v55.toInt := (elm_of c149 28).trans (congrArg Int32.toInt (ee56))
    have q172 : elm (S147 6) 2 = v58.toInt := (elm_of c159 2).trans (congrArg Int32.toInt (ee59))
    have q173 : elm (S147 7) 31 = v61.toInt := (elm_of c149 31).trans (congrArg Int32.toInt (ee62))
    have q174 : elm (S147 7) 30 = v64.toInt := (elm_of c149 30).trans (congrArg Int32.toInt (ee65))
    have q175 : elm (S147 7) 33 = v67.toInt := (elm_of c149 33).trans (congrArg Int32.toInt (ee68))
    have q176 : elm (S147 7) 36 = v70.toInt := (elm_of c149 36).trans (congrArg Int32.toInt (ee71))
    have q177 : elm (S147 7) 38 = v73.toInt := (elm_of c149 38).trans (congrArg Int32.toInt (ee74))
    have q178 : elm (S147 6) 3 = v76.toInt := (elm_of c159 3).trans (congrArg Int32.toInt (ee77))
    exact xri E hr hlk hQ (⟨hI, (up_o o_refl eS147 (by decide)), (by omega), (by omega), (by omega), (by omega), (by omega), (by omega), (by omega), (by omega), (by omega), (by omega), (by omega), (by omega), (by omega), (by omega), (by omega), (by omega), (by omega), (by omega), (by omega), (by omega), (at_tr hAT0 (up_eq (j := 7) eS147 (by decide)) (up_eq (j := 12) eS147 (by decide))), (at_tr hAT1 (up_eq (j := 7) eS147 (by decide)) (up_eq (j := 12) eS147 (by decide))), (at_tr hAT2 (up_eq (j := 7) eS147 (by decide)) (up_eq (j := 12) eS147 (by decide))), (at_tr hAT3 (up_eq (j := 7) eS147 (by decide)) (up_eq (j := 12) eS147 (by decide)))⟩) dX12_shove_37
  · have h179 := ib_ne k152
    have b180 : Bd r150 (1) (1) := rf_nlo b150 (by decide : Bd 0 (0) (0)) h179
    have g181 := g150_0.resolve_left (by omega)
    clear g150_0
    have b182 : Bd a1 (0) (7) := ⟨by omega, by omega⟩
    have b183 : Bd v13 (1) (8) := ⟨by omega, (b15).2⟩
    refine lv_iload_n hx hb dX12_shove_13 rfl (lv_at hl 2 rfl) ?_
    refine lv_i2l hx hb dX12_shove_14 rfl ?_
    refine lv_topl (fun w184 e185 => ?_)
    have t186 : w184.toInt = a2.toInt := by rw [e185]; exact i2l_i _
    have b187 : BdL w184 (-2147483648) (2147483647) := (by have h1 := ((ib_full a2)).1; have h2 := ((ib_full a2)).2; exact ⟨by omega, by omega⟩)
    refine lv_lconst (v := 0) hx hb dX12_shove_15 (by decide) ?_
    refine lv_ldc2 (v := 400) hx hb E.2.2.1 (E.2.2.2.1 _ q1828) dX12_shove_16 ?_
    refine xcSi E hs hQ hml hl.1 (gX12_in l g ad hD S147 hI w184 0 400) mX12_in q1591 rfl ⟨(Nat.le_of_ble_eq_true rfl), (Nat.le_of_ble_eq_true rfl)⟩ ⟨(Nat.le_of_ble_eq_true rfl), (Nat.le_of_ble_eq_true rfl)⟩ (Nat.le_of_ble_eq_true rfl) rfl dX12_shove_19 (fun r188 S188 H locs hp188 hQ => ?_)
    obtain ⟨rfl, b188, g188_0⟩ := hp188
    have q189 : (0 : Int64).toInt = 0 := by decide
    have q190 : (400 : Int64).toInt = 400 := by decide
    refine lv_if_eq (tgt := 35) hx hb dX12_shove_22 (by decide) (fun k191 => ?_) (fun k191 => ?_)
    · have h192 := ib_eq k191
      have b193 : Bd r188 (0) (0) := ⟨(b188).1, ((rf_eq b188 (by decide : Bd 0 (0) (0)) h192).1).2⟩
      clear g188_0
      refine lv_bipush (v := (-2)) hx hb dX12_shove_35 (by decide) ?_
      have q194 : elm (S147 7) 1 = v4.toInt := (elm_of c149 1).trans (congrArg Int32.toInt (ee5))
      have q195 : elm (S147 7) 0 = v7.toInt := (elm_of c149 0).trans (congrArg Int32.toInt (ee8))
      have q196 : elm (S147 7) 3 = v10.toInt := (elm_of c149 3).trans (congrArg Int32.toInt (ee11))
      have q197 : elm (S147 7) 8 = v16.toInt := (elm_of c149 8).trans (congrArg Int32.toInt (ee17))
      have c198 : S147 6 = .inl (g.2 0, 5, .inl f19) := (up_ne eS147 (by decide) c20)
      have q199 : elm (S147 6) 0 = v22.toInt := (elm_of c198 0).trans (congrArg Int32.toInt (ee23))
      have q200 : elm (S147 7) 11 = v25.toInt := (elm_of c149 11).trans (congrArg Int32.toInt (ee26))
      have q201 : elm (S147 7) 10 = v28.toInt := (elm_of c149 10).trans (congrArg Int32.toInt (ee29))
      have q202 : elm (S147 7) 13 = v31.toInt := (elm_of c149 13).trans (congrArg Int32.toInt (ee32))
      have q203 : elm (S147 7) 16 = v34.toInt := (elm_of c149 16).trans (congrArg Int32.toInt (ee35))
      have q204 : elm (S147 7) 18 = v37.toInt := (elm_of c149 18).trans (congrArg Int32.toInt (ee38))
      have q205 : elm (S147 6) 1 = v40.toInt := (elm_of c198 1).trans (congrArg Int32.toInt (ee41))
      have q206 : elm (S147 7) 21 = v43.toInt := (elm_of c149 21).trans (congrArg Int32.toInt (ee44))
      have q207 : elm (S147 7) 20 = v46.toInt := (elm_of c149 20).trans (congrArg Int32.toInt (ee47))
      have q208 : elm (S147 7) 23 = v49.toInt := (elm_of c149 23).trans (congrArg Int32.toInt (ee50))
      have q209 : elm (S147 7) 26 = v52.toInt := (elm_of c149 26).trans (congrArg Int32.toInt (ee53))
      have q210 : elm (S147 7) 28 = v55.toInt := (elm_of c149 28).trans (congrArg Int32.toInt (ee56))
      have q211 : elm (S147 6) 2 = v58.toInt := (elm_of c198 2).trans (congrArg Int32.toInt (ee59))
      have q212 : elm (S147 7) 31 = v61.toInt := (elm_of c149 31).trans (congrArg Int32.toInt (ee62))
      have q213 : elm (S147 7) 30 = v64.toInt := (elm_of c149 30).trans (congrArg Int32.toInt (ee65))
      have q214 : elm (S147 7) 33 = v67.toInt := (elm_of c149 33).trans (congrArg Int32.toInt (ee68))
      have q215 : elm (S147 7) 36 = v70.toInt := (elm_of c149 36).trans (congrArg Int32.toInt (ee71))
      have q216 : elm (S147 7) 38 = v73.toInt := (elm_of c149 38).trans (congrArg Int32.toInt (ee74))
      have q217 : elm (S147 6) 3 = v76.toInt := (elm_of c198 3).trans (congrArg Int32.toInt (ee77))
      exact xri E hr hlk hQ (⟨hI, (up_o o_refl eS147 (by decide)), (by omega), (by omega), (by omega), (by omega), (by omega), (by omega), (by omega), (by omega), (by omega), (by omega), (by omega), (by omega), (by omega), (by omega), (by omega), (by omega), (by omega), (by omega), (by omega), (by omega), (at_tr hAT0 (up_eq (j := 7) eS147 (by decide)) (up_eq (j := 12) eS147 (by decide))), (at_tr hAT1 (up_eq (j := 7) eS147 (by decide)) (up_eq (j := 12) eS147 (by decide))), (at_tr hAT2 (up_eq (j := 7) eS147 (by decide)) (up_eq (j := 12) eS147 (by decide))), (at_tr hAT3 (up_eq (j := 7) eS147 (by decide)) (up_eq (j := 12) eS147 (by decide)))⟩) dX12_shove_37
    · have h218 := ib_ne k191
      have b219 : Bd r188 (1) (1) := rf_nlo b188 (by decide : Bd 0 (0) (0)) h218
      have g220 := g188_0.resolve_left (by omega)
      clear g188_0
      have b221 : BdL w184 (0) (400) := ⟨by omega, by omega⟩
      have b222 : Bd a2 (0) (400) := ⟨by omega, by omega⟩
      refine lv_iload_n hx hb dX12_shove_25 rfl (lv_at hl 3 rfl) ?_
      refine lv_i2l hx hb dX12_shove_26 rfl ?_
      refine lv_topl (fun w223 e224 => ?_)
      have t225 : w223.toInt = a3.toInt := by rw [e224]; exact i2l_i _
      have b226 : BdL w223 (-2147483648) (2147483647) := (by have h1 := ((ib_full a3)).1; have h2 := ((ib_full a3)).2; exact ⟨by omega, by omega⟩)
      refine lv_lconst (v := 0) hx hb dX12_shove_27 (by decide) ?_
      refine lv_lconst (v := 1) hx hb dX12_shove_28 (by decide) ?_
      refine xcSi E hs hQ hml hl.1 (gX12_in l g ad hD S147 hI w223 0 1) mX12_in q1591 rfl ⟨(Nat.le_of_ble_eq_true rfl), (Nat.le_of_ble_eq_true rfl)⟩ ⟨(Nat.le_of_ble_eq_true rfl), (Nat.le_of_ble_eq_true rfl)⟩ (Nat.le_of_ble_eq_true rfl) rfl dX12_shove_29 (fun r227 S227 H locs hp227 hQ => ?_)
      obtain ⟨rfl, b227, g227_0⟩ := hp227
      have q228 : (1 : Int64).toInt = 1 := by decide
      refine lv_if_ne (tgt := 38) hx hb dX12_shove_32 (by decide) (fun k229 => ?_) (fun k229 => ?_)
      · have h230 := ib_ne k229
        have b231 : Bd r227 (1) (1) := rf_nlo b227 (by decide : Bd 0 (0) (0)) h230
        have g232 := g227_0.resolve_left (by omega)
        clear g227_0
        have b233 : BdL w223 (0) (1) := ⟨by omega, by omega⟩
        have b234 : Bd a3 (0) (1) := ⟨by omega, by omega⟩
        refine lv_aload_n hx hb dX12_shove_38 rfl (lv_at hl 0 rfl) ?_
        refine xcVv E hs hQ hml hl.1 0 (gX12_lays_0 l g ad hD S147 hI (at_tr hAT0 (up_eq (j := 7) eS147 (by decide)) (up_eq (j := 12) eS147 (by decide)))) mX12_lays q1820 (by decide) c148 rfl rfl ⟨(Nat.le_of_ble_eq_true rfl), (Nat.le_of_ble_eq_true rfl)⟩ ⟨(Nat.le_of_ble_eq_true rfl), (Nat.le_of_ble_eq_true rfl)⟩ (Nat.le_of_ble_eq_true rfl) rfl dX12_shove_39 (fun S235 H locs hp235 hQ _ => ?_)
        obtain ⟨hI, o235⟩ := hp235
        refine lv_aload_n hx hb dX12_shove_42 rfl (lv_at hl 0 rfl) ?_
        have c236 : S235 7 = .inl (g.2 0, 50, .inl f1) := ((o235 7 (by decide)).trans c149)
        have c238 : S235 0 = .inr (12, [.int 0, .ref (ad 1), .ref (ad 2), .ref (ad 3), .ref (ad 4), .ref (ad 5), .int v119, .int v121, .int v123, .int v125, .int v126, .long w127, .int v128, .int v130, .int v131, .int v132, .ref (ad 6), .ref (ad 7), .ref (ad 8), .ref (ad 9), .ref (ad 10), .ref (ad 11), .ref (ad 12), .ref (ad 13), .ref (ad 14), .ref (ad 15), .int v133, .int v135, .ref (ad 16), .int v137, .int v139, .int v141, .int v143, .int v144, .ref (ad 17), .ref (ad 18), .int v145, .ref (ad 19)]) := ((o235 0 (by decide)).trans c148)
        refine xcVi E hs hQ hml hl.1 0 (gX12_isFull_0 l g ad hD S235 hI ) mX12_isFull q2104 (by decide) c238 rfl rfl ⟨(Nat.le_of_ble_eq_true rfl), (Nat.le_of_ble_eq_true rfl)⟩ ⟨(Nat.le_of_ble_eq_true rfl), (Nat.le_of_ble_eq_true rfl)⟩ (Nat.le_of_ble_eq_true rfl) rfl dX12_shove_43 (fun r237 S237 H locs hp237 hQ _ => ?_)
        obtain ⟨rfl, b237, g237_0⟩ := hp237
        have q239 : elm (S235 7) 9 = v106.toInt := (elm_of c236 9).trans (congrArg Int32.toInt (ee107))
        refine lv_if_ne (tgt := 64) hx hb dX12_shove_46 (by decide) (fun k240 => ?_) (fun k240 => ?_)
        · have h241 := ib_ne k240
          have b242 : Bd r237 (1) (1) := rf_nlo b237 (by decide : Bd 0 (0) (0)) h241
          clear g237_0
          refine lv_bipush (v := (-5)) hx hb dX12_shove_64 (by decide) ?_
          have q243 : elm (S235 7) 1 = v4.toInt := (elm_of c236 1).trans (congrArg Int32.toInt (ee5))
          have q244 : elm (S235 7) 0 = v7.toInt := (elm_of c236 0).trans (congrArg Int32.toInt (ee8))
          have q245 : elm (S235 7) 3 = v10.toInt := (elm_of c236 3).trans (congrArg Int32.toInt (ee11))
          have q246 : elm (S235 7) 6 = v13.toInt := (elm_of c236 6).trans (congrArg Int32.toInt (ee14))
          have q247 : elm (S235 7) 8 = v16.toInt := (elm_of c236 8).trans (congrArg Int32.toInt (ee17))
          have c248 : S235 6 = .inl (g.2 0, 5, .inl f19) := ((o235 6 (by decide)).trans (up_ne eS147 (by decide) c20))
          have q249 : elm (S235 6) 0 = v22.toInt := (elm_of c248 0).trans (congrArg Int32.toInt (ee23))
          have q250 : elm (S235 7) 11 = v25.toInt := (elm_of c236 11).trans (congrArg Int32.toInt (ee26))
          have q251 : elm (S235 7) 10 = v28.toInt := (elm_of c236 10).trans (congrArg Int32.toInt (ee29))
          have q252 : elm (S235 7) 13 = v31.toInt := (elm_of c236 13).trans (congrArg Int32.toInt (ee32))
          have q253 : elm (S235 7) 16 = v34.toInt := (elm_of c236 16).trans (congrArg Int32.toInt (ee35))
          have q254 : elm (S235 7) 18 = v37.toInt := (elm_of c236 18).trans (congrArg Int32.toInt (ee38))
          have q255 : elm (S235 6) 1 = v40.toInt := (elm_of c248 1).trans (congrArg Int32.toInt (ee41))
          have q256 : elm (S235 7) 21 = v43.toInt := (elm_of c236 21).trans (congrArg Int32.toInt (ee44))
          have q257 : elm (S235 7) 20 = v46.toInt := (elm_of c236 20).trans (congrArg Int32.toInt (ee47))
          have q258 : elm (S235 7) 23 = v49.toInt := (elm_of c236 23).trans (congrArg Int32.toInt (ee50))
          have q259 : elm (S235 7) 26 = v52.toInt := (elm_of c236 26).trans (congrArg Int32.toInt (ee53))
          have q260 : elm (S235 7) 28 = v55.toInt := (elm_of c236 28).trans (congrArg Int32.toInt (ee56))
          have q261 : elm (S235 6) 2 = v58.toInt := (elm_of c248 2).trans (congrArg Int32.toInt (ee59))
          have q262 : elm (S235 7) 31 = v61.toInt := (elm_of c236 31).trans (congrArg Int32.toInt (ee62))
          have q263 : elm (S235 7) 30 = v64.toInt := (elm_of c236 30).trans (congrArg Int32.toInt (ee65))
          have q264 : elm (S235 7) 33 = v67.toInt := (elm_of c236 33).trans (congrArg Int32.toInt (ee68))
          have q265 : elm (S235 7) 36 = v70.toInt := (elm_of c236 36).trans (congrArg Int32.toInt (ee71))
          have q266 : elm (S235 7) 38 = v73.toInt := (elm_of c236 38).trans (congrArg Int32.toInt (ee74))
          have q267 : elm (S235 6) 3 = v76.toInt := (elm_of c248 3).trans (congrArg Int32.toInt (ee77))
          exact xri E hr hlk hQ (⟨hI, (o_trans (up_o o_refl eS147 (by decide)) o235 (by decide)), (by omega), (by omega), (by omega), (by omega), (by omega), (by omega), (by omega), (by omega), (by omega), (by omega), (by omega), (by omega), (by omega), (by omega), (by omega), (by omega), (by omega), (by omega), (by omega), (by omega), (at_tr hAT0 ((o235 7 (by decide)).trans (up_eq (j := 7) eS147 (by decide))) ((o235 12 (by decide)).trans (up_eq (j := 12) eS147 (by decide)))), (at_tr hAT1 ((o235 7 (by decide)).trans (up_eq (j := 7) eS147 (by decide))) ((o235 12 (by decide)).trans (up_eq (j := 12) eS147 (by decide)))), (at_tr hAT2 ((o235 7 (by decide)).trans (up_eq (j := 7) eS147 (by decide))) ((o235 12 (by decide)).trans (up_eq (j := 12) eS147 (by decide)))), (at_tr hAT3 ((o235 7 (by decide)).trans (up_eq (j := 7) eS147 (by decide))) ((o235 12 (by decide)).trans (up_eq (j := 12) eS147 (by decide))))⟩) dX12_shove_66
        · have h268 := ib_eq k240
          have b269 : Bd r237 (0) (0) := ⟨(b237).1, ((rf_eq b237 (by decide : Bd 0 (0) (0)) h268).1).2⟩
          have g270 := g237_0.resolve_left (by omega)
          clear g237_0
          have b271 : Bd v106 (0) (39) := ⟨(b108).1, by omega⟩
          refine lv_aload_n hx hb dX12_shove_49 rfl (lv_at hl 0 rfl) ?_
          refine xget E hQ 0 (by decide) c238 rfl 25 (by decide) q1493 rfl dX12_shove_50 ?_
          refine lv_sipush (v := 401) hx hb dX12_shove_53 (by decide) ?_
          refine lv_iload_n hx hb dX12_shove_56 rfl (lv_at hl 1 rfl) ?_
          refine lv_imul hx hb dX12_shove_57 ?_
          refine lv_topi (fun z272 e273 => ?_)
          have t274 := ib_cmul (q := 401) e273 (by decide) (by decide) b182 (by decide) (by decide)
          have b275 : Bd z272 (0) (2807) := ib_mulb t274 (by decide) b182
          refine lv_iload_n hx hb dX12_shove_58 rfl (lv_at hl 2 rfl) ?_
          refine lv_iadd hx hb dX12_shove_59 ?_
          refine lv_topi (fun z276 e277 => ?_)
          have t278 := ib_add e277 b275 b222 (by decide) (by decide)
          have b279 : Bd z276 (0) (3207) := ib_addb t278 b275 b222
          obtain ⟨f280, c281⟩ := invM_15 hI
          refine xiald E hQ 15 (by decide) c281 (ib_in b279 (by decide) (by decide)) dX12_shove_60 ?_
          refine lv_topi (fun z283 e284 => ?_)
          refine lv_if_eq (tgt := 67) hx hb dX12_shove_61 (by decide) (fun k285 => ?_) (fun k285 => ?_)
          · have h286 := ib_eq k285
            have b287 : Bd z283 (0) (0) := ⟨((rf_eq (ib_full z283) (by decide : Bd 0 (0) (0)) h286).1).1, ((rf_eq (ib_full z283) (by decide : Bd 0 (0) (0)) h286).1).2⟩
            refine lv_aload_n hx hb dX12_shove_67 rfl (lv_at hl 0 rfl) ?_
            refine lv_iconst (v := 1) hx hb dX12_shove_68 (by decide) ?_
            refine lv_iload_n hx hb dX12_shove_69 rfl (lv_at hl 1 rfl) ?_
            refine lv_iload_n hx hb dX12_shove_70 rfl (lv_at hl 2 rfl) ?_
            refine lv_iload_n hx hb dX12_shove_71 rfl (lv_at hl 3 rfl) ?_
            refine xcVv E hs hQ hml hl.1 0 (gX12_acts_0 l g ad hD S235 hI 1 a1 a2 a3 (ib_wk (by decide : Bd 1 (1) (1)) (by decide) (by decide)) b182 b222 b234 (by omega) (at_tr hAT0 ((o235 7 (by decide)).trans (up_eq (j := 7) eS147 (by decide))) ((o235 12 (by decide)).trans (up_eq (j := 12) eS147 (by decide)))) (at_tr hAT1 ((o235 7 (by decide)).trans (up_eq (j := 7) eS147 (by decide))) ((o235 12 (by decide)).trans (up_eq (j := 12) eS147 (by decide)))) (at_tr hAT2 ((o235 7 (by decide)).trans (up_eq (j := 7) eS147 (by decide))) ((o235 12 (by decide)).trans (up_eq (j := 12) eS147 (by decide)))) (at_tr hAT3 ((o235 7 (by decide)).trans (up_eq (j := 7) eS147 (by decide))) ((o235 12 (by decide)).trans (up_eq (j := 12) eS147 (by decide)))) (fun h => absurd h (by decide))) mX12_acts q2108 (by decide) c238 rfl rfl ⟨(Nat.le_of_ble_eq_true rfl), (Nat.le_of_ble_eq_true rfl)⟩ ⟨(Nat.le_of_ble_eq_true rfl), (Nat.le_of_ble_eq_true rfl)⟩ (Nat.le_of_ble_eq_true rfl) rfl dX12_shove_72 (fun S288 H locs hp288 hQ _ => ?_)
            obtain ⟨hI, o288, g288_0, g288_1, g288_2, g288_3, g288_4, g288_5, g288_6, g288_7, g288_8, g288_9, g288_10, g288_11, g288_12, g288_13, g288_14, g288_15, g288_16, g288_17, g288_18, g288_19, g288_20, g288_21, g288_22, g288_23, u288_0, u288_1, u288_2, u288_3⟩ := hp288
            obtain ⟨f289, c290, b291⟩ := invM_7 hI
            obtain ⟨v292, ee293⟩ : ∃ z : Int32, f289 9 = z := ⟨_, rfl⟩
            have b294 : Bd v292 (0) (40) := (by rw [← ee293]; exact b291.2.2.2.2.2.2.2 9 (by decide))
            have q295 : elm (S288 7) 9 = v292.toInt := (elm_of c290 9).trans (congrArg Int32.toInt (ee293))
            have b296 : Bd v292 (1) (40) := ⟨by omega, (b294).2⟩
            have q297 : elm (S235 7) 0 = v7.toInt := (elm_of c236 0).trans (congrArg Int32.toInt (ee8))
            obtain ⟨v298, ee299⟩ : ∃ z : Int32, f289 0 = z := ⟨_, rfl⟩
            have b300 : Bd v298 (0) (12) := (by rw [← ee299]; exact b291.1 0 (by decide))
            have q301 : elm (S288 7) 0 = v298.toInt := (elm_of c290 0).trans (congrArg Int32.toInt (ee299))
            have b302 : Bd v298 (1) (12) := ⟨by omega, (b300).2⟩
            have b303 : Bd v7 (1) (12) := ⟨by omega, (b9).2⟩
            have q304 : elm (S235 7) 1 = v4.toInt := (elm_of c236 1).trans (congrArg Int32.toInt (ee5))
            obtain ⟨v305, ee306⟩ : ∃ z : Int32, f289 1 = z := ⟨_, rfl⟩
            have b307 : Bd v305 (0) (12) := (by rw [← ee306]; exact b291.2.1 1 (by decide))
            have q308 : elm (S288 7) 1 = v305.toInt := (elm_of c290 1).trans (congrArg Int32.toInt (ee306))
            have b309 : Bd v305 (1) (12) := ⟨by omega, (b307).2⟩
            have b310 : Bd v4 (1) (12) := ⟨by omega, (b6).2⟩
            have q311 : elm (S235 7) 3 = v10.toInt := (elm_of c236 3).trans (congrArg Int32.toInt (ee11))
            obtain ⟨v312, ee313⟩ : ∃ z : Int32, f289 3 = z := ⟨_, rfl⟩
            have b314 : Bd v312 (0) (12) := (by rw [← ee313]; exact b291.2.2.2.1 3 (by decide))
            have q315 : elm (S288 7) 3 = v312.toInt := (elm_of c290 3).trans (congrArg Int32.toInt (ee313))
            have b316 : Bd v10 (1) (12) := ⟨by omega, (b12).2⟩
            have b317 : Bd v312 (1) (12) := ⟨by omega, (b314).2⟩
            have q318 : elm (S235 7) 6 = v13.toInt := (elm_of c236 6).trans (congrArg Int32.toInt (ee14))
            obtain ⟨v319, ee320⟩ : ∃ z : Int32, f289 6 = z := ⟨_, rfl⟩
            have b321 : Bd v319 (0) (8) := (by rw [← ee320]; exact b291.2.2.2.2.1 6 (by decide))
            have q322 : elm (S288 7) 6 = v319.toInt := (elm_of c290 6).trans (congrArg Int32.toInt (ee320))
            have b323 : Bd v319 (1) (8) := ⟨by omega, (b321).2⟩
            have q324 : elm (S235 7) 8 = v16.toInt := (elm_of c236 8).trans (congrArg Int32.toInt (ee17))
            obtain ⟨v325, ee326⟩ : ∃ z : Int32, f289 8 = z := ⟨_, rfl⟩
            have b327 : Bd v325 (0) (3) := (by rw [← ee326]; exact b291.2.2.2.2.2.2.1 8 (by decide))
            have q328 : elm (S288 7) 8 = v325.toInt := (elm_of c290 8).trans (congrArg Int32.toInt (ee326))
            have q329 : elm (S235 7) 10 = v28.toInt := (elm_of c236 10).trans (congrArg Int32.toInt (ee29))
            obtain ⟨v330, ee331⟩ : ∃ z : Int32, f289 10 = z := ⟨_, rfl⟩
            have b332 : Bd v330 (0) (12) := (by rw [← ee331]; exact b291.1 10 (by decide))
            have q333 : elm (S288 7) 10 = v330.toInt := (elm_of c290 10).trans (congrArg Int32.toInt (ee331))
            have q334 : elm (S235 7) 11 = v25.toInt := (elm_of c236 11).trans (congrArg Int32.toInt (ee26))
            obtain ⟨v335, ee336⟩ : ∃ z : Int32, f289 11 = z := ⟨_, rfl⟩
            have b337 : Bd v335 (0) (12) := (by rw [← ee336]; exact b291.2.1 11 (by decide))
            have q338 : elm (S288 7) 11 = v335.toInt := (elm_of c290 11).trans (congrArg Int32.toInt (ee336))
            have q339 : elm (S235 7) 13 = v31.toInt := (elm_of c236 13).trans (congrArg Int32.toInt (ee32))
            obtain ⟨v340, ee341⟩ : ∃ z : Int32, f289 13 = z := ⟨_, rfl⟩
            have b342 : Bd v340 (0) (12) := (by rw [← ee341]; exact b291.2.2.2.1 13 (by decide))
            have q343 : elm (S288 7) 13 = v340.toInt := (elm_of c290 13).trans (congrArg Int32.toInt (ee341))
            have q344 : elm (S235 7) 16 = v34.toInt := (elm_of c236 16).trans (congrArg Int32.toInt (ee35))
            obtain ⟨v345, ee346⟩ : ∃ z : Int32, f289 16 = z := ⟨_, rfl⟩
            have b347 : Bd v345 (0) (8) := (by rw [← ee346]; exact b291.2.2.2.2.1 16 (by decide))
            have q348 : elm (S288 7) 16 = v345.toInt := (elm_of c290 16).trans (congrArg Int32.toInt (ee346))
            have q349 : elm (S235 7) 18 = v37.toInt := (elm_of c236 18).trans (congrArg Int32.toInt (ee38))
            obtain ⟨v350, ee351⟩ : ∃ z : Int32, f289 18 = z := ⟨_, rfl⟩
            have b352 : Bd v350 (0) (3) := (by rw [← ee351]; exact b291.2.2.2.2.2.2.1 18 (by decide))
            have q353 : elm (S288 7) 18 = v350.toInt := (elm_of c290 18).trans (congrArg Int32.toInt (ee351))
            have q354 : elm (S235 7) 19 = v109.toInt := (elm_of c236 19).trans (congrArg Int32.toInt (ee110))
            obtain ⟨v355, ee356⟩ : ∃ z : Int32, f289 19 = z := ⟨_, rfl⟩
            have b357 : Bd v355 (0) (40) := (by rw [← ee356]; exact b291.2.2.2.2.2.2.2 19 (by decide))
            have q358 : elm (S288 7) 19 = v355.toInt := (elm_of c290 19).trans (congrArg Int32.toInt (ee356))
            have q359 : elm (S235 7) 20 = v46.toInt := (elm_of c236 20).trans (congrArg Int32.toInt (ee47))
            obtain ⟨v360, ee361⟩ : ∃ z : Int32, f289 20 = z := ⟨_, rfl⟩
            have b362 : Bd v360 (0) (12) := (by rw [← ee361]; exact b291.1 20 (by decide))
            have q363 : elm (S288 7) 20 = v360.toInt := (elm_of c290 20).trans (congrArg Int32.toInt (ee361))
            have q364 : elm (S235 7) 21 = v43.toInt := (elm_of c236 21).trans (congrArg Int32.toInt (ee44))
            obtain ⟨v365, ee366⟩ : ∃ z : Int32, f289 21 = z := ⟨_, rfl⟩
            have b367 : Bd v365 (0) (12) := (by rw [← ee366]; exact b291.2.1 21 (by decide))
            have q368 : elm (S288 7) 21 = v365.toInt := (elm_of c290 21).trans (congrArg Int32.toInt (ee366))
            have q369 : elm (S235 7) 23 = v49.toInt := (elm_of c236 23).trans (congrArg Int32.toInt (ee50))
            obtain ⟨v370, ee371⟩ : ∃ z : Int32, f289 23 = z := ⟨_, rfl⟩
            have b372 : Bd v370 (0) (12) := (by rw [← ee371]; exact b291.2.2.2.1 23 (by decide))
            have q373 : elm (S288 7) 23 = v370.toInt := (elm_of c290 23).trans (congrArg Int32.toInt (ee371))
            have q374 : elm (S235 7) 26 = v52.toInt := (elm_of c236 26).trans (congrArg Int32.toInt (ee53))
            obtain ⟨v375, ee376⟩ : ∃ z : Int32, f289 26 = z := ⟨_, rfl⟩
            have b377 : Bd v375 (0) (8) := (by rw [← ee376]; exact b291.2.2.2.2.1 26 (by decide))
            have q378 : elm (S288 7) 26 = v375.toInt := (elm_of c290 26).trans (congrArg Int32.toInt (ee376))
            have q379 : elm (S235 7) 28 = v55.toInt := (elm_of c236 28).trans (congrArg Int32.toInt (ee56))
            obtain ⟨v380, ee381⟩ : ∃ z : Int32, f289 28 = z := ⟨_, rfl⟩
            have b382 : Bd v380 (0) (3) := (by rw [← ee381]; exact b291.2.2.2.2.2.2.1 28 (by decide))
            have q383 : elm (S288 7) 28 = v380.toInt := (elm_of c290 28).trans (congrArg Int32.toInt (ee381))
            have q384 : elm (S235 7) 29 = v112.toInt := (elm_of c236 29).trans (congrArg Int32.toInt (ee113))
            obtain ⟨v385, ee386⟩ : ∃ z : Int32, f289 29 = z := ⟨_, rfl⟩
            have b387 : Bd v385 (0) (40) := (by rw [← ee386]; exact b291.2.2.2.2.2.2.2 29 (by decide))
            have q388 : elm (S288 7) 29 = v385.toInt := (elm_of c290 29).trans (congrArg Int32.toInt (ee386))
            have q389 : elm (S235 7) 30 = v64.toInt := (elm_of c236 30).trans (congrArg Int32.toInt (ee65))
            obtain ⟨v390, ee391⟩ : ∃ z : Int32, f289 30 = z := ⟨_, rfl⟩
            have b392 : Bd v390 (0) (12) := (by rw [← ee391]; exact b291.1 30 (by decide))
            have q393 : elm (S288 7) 30 = v390.toInt := (elm_of c290 30).trans (congrArg Int32.toInt (ee391))
            have q394 : elm (S235 7) 31 = v61.toInt := (elm_of c236 31).trans (congrArg Int32.toInt (ee62))
            obtain ⟨v395, ee396⟩ : ∃ z : Int32, f289 31 = z := ⟨_, rfl⟩
            have b397 : Bd v395 (0) (12) := (by rw [← ee396]; exact b291.2.1 31 (by decide))
            have q398 : elm (S288 7) 31 = v395.toInt := (elm_of c290 31).trans (congrArg Int32.toInt (ee396))
            have q399 : elm (S235 7) 33 = v67.toInt := (elm_of c236 33).trans (congrArg Int32.toInt (ee68))
            obtain ⟨v400, ee401⟩ : ∃ z : Int32, f289 33 = z := ⟨_, rfl⟩
            have b402 : Bd v400 (0) (12) := (by rw [← ee401]; exact b291.2.2.2.1 33 (by decide))
            have q403 : elm (S288 7) 33 = v400.toInt := (elm_of c290 33).trans (congrArg Int32.toInt (ee401))
            have q404 : elm (S235 7) 36 = v70.toInt := (elm_of c236 36).trans (congrArg Int32.toInt (ee71))
            obtain ⟨v405, ee406⟩ : ∃ z : Int32, f289 36 = z := ⟨_, rfl⟩
            have b407 : Bd v405 (0) (8) := (by rw [← ee406]; exact b291.2.2.2.2.1 36 (by decide))
            have q408 : elm (S288 7) 36 = v405.toInt := (elm_of c290 36).trans (congrArg Int32.toInt (ee406))
            have q409 : elm (S235 7) 38 = v73.toInt := (elm_of c236 38).trans (congrArg Int32.toInt (ee74))
            obtain ⟨v410, ee411⟩ : ∃ z : Int32, f289 38 = z := ⟨_, rfl⟩
            have b412 : Bd v410 (0) (3) := (by rw [← ee411]; exact b291.2.2.2.2.2.2.1 38 (by decide))
            have q413 : elm (S288 7) 38 = v410.toInt := (elm_of c290 38).trans (congrArg Int32.toInt (ee411))
            have q414 : elm (S235 7) 39 = v115.toInt := (elm_of c236 39).trans (congrArg Int32.toInt (ee116))
            obtain ⟨v415, ee416⟩ : ∃ z : Int32, f289 39 = z := ⟨_, rfl⟩
            have b417 : Bd v415 (0) (40) := (by rw [← ee416]; exact b291.2.2.2.2.2.2.2 39 (by decide))
            have q418 : elm (S288 7) 39 = v415.toInt := (elm_of c290 39).trans (congrArg Int32.toInt (ee416))
            refine lv_iconst (v := 1) hx hb dX12_shove_75 (by decide) ?_
            refine lv_istore (lv' := [(4, .int 1), (0, .ref (ad 0)), (1, .int a1), (2, .int a2), (3, .int a3)]) hx hb dX12_shove_76 hl (by decide) rfl (fun ls hl => ?_)
            refine lv_iconst (v := 0) hx hb dX12_shove_78 (by decide) ?_
            refine lv_istore (lv' := [(5, .int 0), (4, .int 1), (0, .ref (ad 0)), (1, .int a1), (2, .int a2), (3, .int a3)]) hx hb dX12_shove_79 hl (by decide) rfl (fun ls hl => ?_)
            have loop81 : ∀ (n : Nat) (H : Heap) (locs : List Loc) (ls : Array Slot) (x81_4 : Int32) (x81_5 : Int32), Bd x81_5 (0) (401) → (-1) * x81_5.toInt + 401 < ((n : Nat) : Int) → Hp g ad 20 S288 (FA ad 20) s.heap H locs → lv_has ls 6 [(5, .int x81_5), (4, .int x81_4), (0, .ref (ad 0)), (1, .int a1), (2, .int a2), (3, .int a3)] → W p l e (Rm 2) s m [.ref (ad 0), .int a1, .int a2, .int a3].toArray below meth c H locs 0 0 (MQ below (va_Qi (fun _ S' => InvM g ad S' ∧ (∀ j, j ∉ ([0, 7, 12, 14, 15] : List Nat) → S' j = S j) ∧ (0 ≤ 12 * elm (S' 7) 1 + (-1) * elm (S' 7) 0) ∧ (0 ≤ 12 * elm (S' 7) 3 + (-1) * elm (S' 7) 0) ∧ (0 ≤ 8 * elm (S' 7) 0 + (-1) * elm (S' 7) 6) ∧ (0 ≤ 3 * elm (S' 7) 0 + (-1) * elm (S' 7) 8) ∧ (0 ≤ 40000 * elm (S' 7) 0 + (-1) * elm (S' 6) 0) ∧ (0 ≤ 12 * elm (S' 7) 11 + (-1) * elm (S' 7) 10) ∧ (0 ≤ 12 * elm (S' 7) 13 + (-1) * elm (S' 7) 10) ∧ (0 ≤ 8 * elm (S' 7) 10 + (-1) * elm (S' 7) 16) ∧ (0 ≤ 3 * elm (S' 7) 10 + (-1) * elm (S' 7) 18) ∧ (0 ≤ 40000 * elm (S' 7) 10 + (-1) * elm (S' 6) 1) ∧ (0 ≤ 12 * elm (S' 7) 21 + (-1) * elm (S' 7) 20) ∧ (0 ≤ 12 * elm (S' 7) 23 + (-1) * elm (S' 7) 20) ∧ (0 ≤ 8 * elm (S' 7) 20 + (-1) * elm (S' 7) 26) ∧ (0 ≤ 3 * elm (S' 7) 20 + (-1) * elm (S' 7) 28) ∧ (0 ≤ 40000 * elm (S' 7) 20 + (-1) * elm (S' 6) 2) ∧ (0 ≤ 12 * elm (S' 7) 31 + (-1) * elm (S' 7) 30) ∧ (0 ≤ 12 * elm (S' 7) 33 + (-1) * elm (S' 7) 30) ∧ (0 ≤ 8 * elm (S' 7) 30 + (-1) * elm (S' 7) 36) ∧ (0 ≤ 3 * elm (S' 7) 30 + (-1) * elm (S' 7) 38) ∧ (0 ≤ 40000 * elm (S' 7) 30 + (-1) * elm (S' 6) 3) ∧ (ATp (S' 7) (S' 12) 0) ∧ (ATp (S' 7) (S' 12) 1) ∧ (ATp (S' 7) (S' 12) 2) ∧ (ATp (S' 7) (S' 12) 3)) (QB g ad 20) (FA ad 20)) [.ref (ad 0), .int a1, .int a2, .int a3].toArray s 0 0 (FA ad 20)) (F0 m 81 ls []) := by
              intro n
              induction n with
              | zero => intro H locs ls x81_4 x81_5 Bx81_5 hn81_ hQ hl; exfalso; have := (Bx81_5).2; omega
              | succ n81_ ih81 =>
                intro H locs ls x81_4 x81_5 Bx81_5 hn81_ hQ hl
                refine lv_iload hx hb dX12_shove_81 (lv_at hl 0 rfl) ?_
                refine lv_sipush (v := 400) hx hb dX12_shove_83 (by decide) ?_
                refine lv_icmp_gt (tgt := 121) hx hb dX12_shove_86 (by decide) (fun k419 => ?_) (fun k419 => ?_)
                · have h420 := ib_lt k419
                  have b421 : Bd x81_5 (401) (401) := ⟨((rf_lt (by decide : Bd 400 (400) (400)) Bx81_5 h420).2).1, (Bx81_5).2⟩
                  refine lv_iload hx hb dX12_shove_121 (lv_at hl 1 rfl) ?_
                  have c422 : S288 6 = .inl (g.2 0, 5, .inl f19) := ((o288 6 (by decide)).trans ((o235 6 (by decide)).trans (up_ne eS147 (by decide) c20)))
                  have q423 : elm (S288 6) 0 = v22.toInt := (elm_of c422 0).trans (congrArg Int32.toInt (ee23))
                  have q424 : elm (S288 6) 1 = v40.toInt := (elm_of c422 1).trans (congrArg Int32.toInt (ee41))
                  have q425 : elm (S288 6) 2 = v58.toInt := (elm_of c422 2).trans (congrArg Int32.toInt (ee59))
                  have q426 : elm (S288 6) 3 = v76.toInt := (elm_of c422 3).trans (congrArg Int32.toInt (ee77))
                  exact xri E hr hlk hQ (⟨hI, (o_trans (o_trans (up_o o_refl eS147 (by decide)) o235 (by decide)) o288 (by decide)), (by omega), (by omega), (by omega), (by omega), (by omega), (by omega), (by omega), (by omega), (by omega), (by omega), (by omega), (by omega), (by omega), (by omega), (by omega), (by omega), (by omega), (by omega), (by omega), (by omega), u288_0, u288_1, u288_2, u288_3⟩) dX12_shove_123
                · have h427 := ib_nlt k419
                  have b428 : Bd x81_5 (0) (400) := ⟨(Bx81_5).1, ((rf_le Bx81_5 (by decide : Bd 400 (400) (400)) h427).1).2⟩
                  refine lv_iload hx hb dX12_shove_89 (lv_at hl 1 rfl) ?_
                  refine lv_aload_n hx hb dX12_shove_91 rfl (lv_at hl 2 rfl) ?_
                  have c429 : S288 0 = .inr (12, [.int 0, .ref (ad 1), .ref (ad 2), .ref (ad 3), .ref (ad 4), .ref (ad 5), .int v119, .int v121, .int v123, .int v125, .int v126, .long w127, .int v128, .int v130, .int v131, .int v132, .ref (ad 6), .ref (ad 7), .ref (ad 8), .ref (ad 9), .ref (ad 10), .ref (ad 11), .ref (ad 12), .ref (ad 13), .ref (ad 14), .ref (ad 15), .int v133, .int v135, .ref (ad 16), .int v137, .int v139, .int v141, .int v143, .int v144, .ref (ad 17), .ref (ad 18), .int v145, .ref (ad 19)]) := ((o288 0 (by decide)).trans c238)
                  refine xget E hQ 0 (by decide) c429 rfl 25 (by decide) q1493 rfl dX12_shove_92 ?_
                  refine lv_sipush (v := 401) hx hb dX12_shove_95 (by decide) ?_
                  refine lv_iload_n hx hb dX12_shove_98 rfl (lv_at hl 3 rfl) ?_
                  refine lv_imul hx hb dX12_shove_99 ?_
                  refine lv_topi (fun z430 e431 => ?_)
                  have t432 := ib_cmul (q := 401) e431 (by decide) (by decide) b182 (by decide) (by decide)
                  have b433 : Bd z430 (0) (2807) := ib_mulb t432 (by decide) b182
                  refine lv_iload hx hb dX12_shove_100 (lv_at hl 0 rfl) ?_
                  refine lv_iadd hx hb dX12_shove_102 ?_
                  refine lv_topi (fun z434 e435 => ?_)
                  have t436 := ib_add e435 b433 b428 (by decide) (by decide)
                  have b437 : Bd z434 (0) (3207) := ib_addb t436 b433 b428
                  have c438 : S288 15 = .inl (g.2 0, 3208, .inl f280) := ((o288 15 (by decide)).trans c281)
                  refine xiald E hQ 15 (by decide) c438 (ib_in b437 (by decide) (by decide)) dX12_shove_103 ?_
                  refine lv_topi (fun z439 e440 => ?_)
                  refine lv_if_eq (tgt := 111) hx hb dX12_shove_104 (by decide) (fun k441 => ?_) (fun k441 => ?_)
                  · have h442 := ib_eq k441
                    have b443 : Bd z439 (0) (0) := ⟨((rf_eq (ib_full z439) (by decide : Bd 0 (0) (0)) h442).1).1, ((rf_eq (ib_full z439) (by decide : Bd 0 (0) (0)) h442).1).2⟩
                    refine lv_iconst (v := 0) hx hb dX12_shove_111 (by decide) ?_
                    refine lv_iadd hx hb dX12_shove_112 ?_
                    refine lv_topi (fun z444 e445 => ?_)
                    have t446 := ib_add e445 (ib_full x81_4) (by decide : Bd 0 (0) (0)) (by decide) (by decide)
                    have b447 : Bd z444 (-2147483648) (2147483647) := ib_addb t446 (ib_full x81_4) (by decide : Bd 0 (0) (0))
                    have t446 : z444.toInt = x81_4.toInt + 0 := fold_add t446 rfl (by decide)
                    refine lv_istore (lv' := [(4, .int z444), (5, .int x81_5), (0, .ref (ad 0)), (1, .int a1), (2, .int a2), (3, .int a3)]) hx hb dX12_shove_113 hl (by decide) rfl (fun ls hl => ?_)
                    obtain ⟨z448, e449⟩ : ∃ z : Int32, z = x81_5 + 1 := ⟨_, rfl⟩
                    have t450 := ib_add e449 b428 (by decide : Bd 1 (1) (1)) (by decide) (by decide)
                    have b451 : Bd z448 (1) (401) := ib_addb t450 b428 (by decide : Bd 1 (1) (1))
                    have t450 : z448.toInt = x81_5.toInt + 1 := fold_add t450 rfl (by decide)
                    refine lv_iinc (v := z448) (lv' := [(5, .int z448), (4, .int z444), (0, .ref (ad 0)), (1, .int a1), (2, .int a2), (3, .int a3)]) hx hb dX12_shove_115 hl (k := 1) rfl (by rw [e449]; rfl) (by decide) rfl (fun ls hl => ?_)
                    refine lv_goto (tgt := 81) hx hb dX12_shove_118 (by decide) ?_
                    exact ih81 _ _ _ z444 z448 (ib_wk b451 (by decide) (by decide)) (by omega) hQ (lv_sub hl [0, 1, 2, 3, 4, 5] rfl)
                  · have h452 := ib_ne k441
                    refine lv_iconst (v := 1) hx hb dX12_shove_107 (by decide) ?_
                    refine lv_goto (tgt := 112) hx hb dX12_shove_108 (by decide) ?_
                    refine lv_iadd hx hb dX12_shove_112 ?_
                    refine lv_topi (fun z453 e454 => ?_)
                    refine lv_istore (lv' := [(4, .int z453), (5, .int x81_5), (0, .ref (ad 0)), (1, .int a1), (2, .int a2), (3, .int a3)]) hx hb dX12_shove_113 hl (by decide) rfl (fun ls hl => ?_)
                    obtain ⟨z455, e456⟩ : ∃ z : Int32, z = x81_5 + 1 := ⟨_, rfl⟩
                    have t457 := ib_add e456 b428 (by decide : Bd 1 (1) (1)) (by decide) (by decide)
                    have b458 : Bd z455 (1) (401) := ib_addb t457 b428 (by decide : Bd 1 (1) (1))
                    have t457 : z455.toInt = x81_5.toInt + 1 := fold_add t457 rfl (by decide)
                    refine lv_iinc (v := z455) (lv' := [(5, .int z455), (4, .int z453), (0, .ref (ad 0)), (1, .int a1), (2, .int a2), (3, .int a3)]) hx hb dX12_shove_115 hl (k := 1) rfl (by rw [e456]; rfl) (by decide) rfl (fun ls hl => ?_)
                    refine lv_goto (tgt := 81) hx hb dX12_shove_118 (by decide) ?_
                    exact ih81 _ _ _ z453 z455 (ib_wk b458 (by decide) (by decide)) (by omega) hQ (lv_sub hl [0, 1, 2, 3, 4, 5] rfl)
            obtain ⟨n81, hn81⟩ := fu_n (401)
            exact loop81 n81 _ _ _ 1 0 (ib_wk (by decide : Bd 0 (0) (0)) (by decide) (by decide)) (by have : (1 : Int32).toInt = 1 := (by decide); have : (0 : Int32).toInt = 0 := (by decide); omega) hQ (lv_sub hl [0, 1, 2, 3, 4, 5] rfl)
          · have h459 := ib_ne k285
            refine lv_bipush (v := (-5)) hx hb dX12_shove_64 (by decide) ?_
            have q460 : elm (S235 7) 1 = v4.toInt := (elm_of c236 1).trans (congrArg Int32.toInt (ee5))
            have q461 : elm (S235 7) 0 = v7.toInt := (elm_of c236 0).trans (congrArg Int32.toInt (ee8))
            have q462 : elm (S235 7) 3 = v10.toInt := (elm_of c236 3).trans (congrArg Int32.toInt (ee11))
            have q463 : elm (S235 7) 6 = v13.toInt := (elm_of c236 6).trans (congrArg Int32.toInt (ee14))
            have q464 : elm (S235 7) 8 = v16.toInt := (elm_of c236 8).trans (congrArg Int32.toInt (ee17))
            have c465 : S235 6 = .inl (g.2 0, 5, .inl f19) := ((o235 6 (by decide)).trans (up_ne eS147 (by decide) c20))
            have q466 : elm (S235 6) 0 = v22.toInt := (elm_of c465 0).trans (congrArg Int32.toInt (ee23))
            have q467 : elm (S235 7) 11 = v25.toInt := (elm_of c236 11).trans (congrArg Int32.toInt (ee26))
            have q468 : elm (S235 7) 10 = v28.toInt := (elm_of c236 10).trans (congrArg Int32.toInt (ee29))
            have q469 : elm (S235 7) 13 = v31.toInt := (elm_of c236 13).trans (congrArg Int32.toInt (ee32))
            have q470 : elm (S235 7) 16 = v34.toInt := (elm_of c236 16).trans (congrArg Int32.toInt (ee35))
            have q471 : elm (S235 7) 18 = v37.toInt := (elm_of c236 18).trans (congrArg Int32.toInt (ee38))
            have q472 : elm (S235 6) 1 = v40.toInt := (elm_of c465 1).trans (congrArg Int32.toInt (ee41))
            have q473 : elm (S235 7) 21 = v43.toInt := (elm_of c236 21).trans (congrArg Int32.toInt (ee44))
            have q474 : elm (S235 7) 20 = v46.toInt := (elm_of c236 20).trans (congrArg Int32.toInt (ee47))
            have q475 : elm (S235 7) 23 = v49.toInt := (elm_of c236 23).trans (congrArg Int32.toInt (ee50))
            have q476 : elm (S235 7) 26 = v52.toInt := (elm_of c236 26).trans (congrArg Int32.toInt (ee53))
            have q477 : elm (S235 7) 28 = v55.toInt := (elm_of c236 28).trans (congrArg Int32.toInt (ee56))
            have q478 : elm (S235 6) 2 = v58.toInt := (elm_of c465 2).trans (congrArg Int32.toInt (ee59))
            have q479 : elm (S235 7) 31 = v61.toInt := (elm_of c236 31).trans (congrArg Int32.toInt (ee62))
            have q480 : elm (S235 7) 30 = v64.toInt := (elm_of c236 30).trans (congrArg Int32.toInt (ee65))
            have q481 : elm (S235 7) 33 = v67.toInt := (elm_of c236 33).trans (congrArg Int32.toInt (ee68))
            have q482 : elm (S235 7) 36 = v70.toInt := (elm_of c236 36).trans (congrArg Int32.toInt (ee71))
            have q483 : elm (S235 7) 38 = v73.toInt := (elm_of c236 38).trans (congrArg Int32.toInt (ee74))
            have q484 : elm (S235 6) 3 = v76.toInt := (elm_of c465 3).trans (congrArg Int32.toInt (ee77))
            exact xri E hr hlk hQ (⟨hI, (o_trans (up_o o_refl eS147 (by decide)) o235 (by decide)), (by omega), (by omega), (by omega), (by omega), (by omega), (by omega), (by omega), (by omega), (by omega), (by omega), (by omega), (by omega), (by omega), (by omega), (by omega), (by omega), (by omega), (by omega), (by omega), (by omega), (at_tr hAT0 ((o235 7 (by decide)).trans (up_eq (j := 7) eS147 (by decide))) ((o235 12 (by decide)).trans (up_eq (j := 12) eS147 (by decide)))), (at_tr hAT1 ((o235 7 (by decide)).trans (up_eq (j := 7) eS147 (by decide))) ((o235 12 (by decide)).trans (up_eq (j := 12) eS147 (by decide)))), (at_tr hAT2 ((o235 7 (by decide)).trans (up_eq (j := 7) eS147 (by decide))) ((o235 12 (by decide)).trans (up_eq (j := 12) eS147 (by decide)))), (at_tr hAT3 ((o235 7 (by decide)).trans (up_eq (j := 7) eS147 (by decide))) ((o235 12 (by decide)).trans (up_eq (j := 12) eS147 (by decide))))⟩) dX12_shove_66
      · have h485 := ib_eq k229
        have b486 : Bd r227 (0) (0) := ⟨(b227).1, ((rf_eq b227 (by decide : Bd 0 (0) (0)) h485).1).2⟩
        clear g227_0
        refine lv_bipush (v := (-2)) hx hb dX12_shove_35 (by decide) ?_
        have q487 : elm (S147 7) 1 = v4.toInt := (elm_of c149 1).trans (congrArg Int32.toInt (ee5))
        have q488 : elm (S147 7) 0 = v7.toInt := (elm_of c149 0).trans (congrArg Int32.toInt (ee8))
        have q489 : elm (S147 7) 3 = v10.toInt := (elm_of c149 3).trans (congrArg Int32.toInt (ee11))
        have q490 : elm (S147 7) 8 = v16.toInt := (elm_of c149 8).trans (congrArg Int32.toInt (ee17))
        have c491 : S147 6 = .inl (g.2 0, 5, .inl f19) := (up_ne eS147 (by decide) c20)
        have q492 : elm (S147 6) 0 = v22.toInt := (elm_of c491 0).trans (congrArg Int32.toInt (ee23))
        have q493 : elm (S147 7) 11 = v25.toInt := (elm_of c149 11).trans (congrArg Int32.toInt (ee26))
        have q494 : elm (S147 7) 10 = v28.toInt := (elm_of c149 10).trans (congrArg Int32.toInt (ee29))
        have q495 : elm (S147 7) 13 = v31.toInt := (elm_of c149 13).trans (congrArg Int32.toInt (ee32))
        have q496 : elm (S147 7) 16 = v34.toInt := (elm_of c149 16).trans (congrArg Int32.toInt (ee35))
        have q497 : elm (S147 7) 18 = v37.toInt := (elm_of c149 18).trans (congrArg Int32.toInt (ee38))
        have q498 : elm (S147 6) 1 = v40.toInt := (elm_of c491 1).trans (congrArg Int32.toInt (ee41))
        have q499 : elm (S147 7) 21 = v43.toInt := (elm_of c149 21).trans (congrArg Int32.toInt (ee44))
        have q500 : elm (S147 7) 20 = v46.toInt := (elm_of c149 20).trans (congrArg Int32.toInt (ee47))
        have q501 : elm (S147 7) 23 = v49.toInt := (elm_of c149 23).trans (congrArg Int32.toInt (ee50))
        have q502 : elm (S147 7) 26 = v52.toInt := (elm_of c149 26).trans (congrArg Int32.toInt (ee53))
        have q503 : elm (S147 7) 28 = v55.toInt := (elm_of c149 28).trans (congrArg Int32.toInt (ee56))
        have q504 : elm (S147 6) 2 = v58.toInt := (elm_of c491 2).trans (congrArg Int32.toInt (ee59))
        have q505 : elm (S147 7) 31 = v61.toInt := (elm_of c149 31).trans (congrArg Int32.toInt (ee62))
        have q506 : elm (S147 7) 30 = v64.toInt := (elm_of c149 30).trans (congrArg Int32.toInt (ee65))
        have q507 : elm (S147 7) 33 = v67.toInt := (elm_of c149 33).trans (congrArg Int32.toInt (ee68))
        have q508 : elm (S147 7) 36 = v70.toInt := (elm_of c149 36).trans (congrArg Int32.toInt (ee71))
        have q509 : elm (S147 7) 38 = v73.toInt := (elm_of c149 38).trans (congrArg Int32.toInt (ee74))
        have q510 : elm (S147 6) 3 = v76.toInt := (elm_of c491 3).trans (congrArg Int32.toInt (ee77))
        exact xri E hr hlk hQ (⟨hI, (up_o o_refl eS147 (by decide)), (by omega), (by omega), (by omega), (by omega), (by omega), (by omega), (by omega), (by omega), (by omega), (by omega), (by omega), (by omega), (by omega), (by omega), (by omega), (by omega), (by omega), (by omega), (by omega), (by omega), (at_tr hAT0 (up_eq (j := 7) eS147 (by decide)) (up_eq (j := 12) eS147 (by decide))), (at_tr hAT1 (up_eq (j := 7) eS147 (by decide)) (up_eq (j := 12) eS147 (by decide))), (at_tr hAT2 (up_eq (j := 7) eS147 (by decide)) (up_eq (j := 12) eS147 (by decide))), (at_tr hAT3 (up_eq (j := 7) eS147 (by decide)) (up_eq (j := 12) eS147 (by decide)))⟩) dX12_shove_37
set_option maxHeartbeats 4000000 in
set_option maxRecDepth 100000 in
theorem gX12_undo_0 (l : Launch) (g : GG) (ad : Nat → Nat) (hD : Dj ad 20) (S : SS) (hI : InvM g ad S) (hq1 : 0 ≤ 12 * elm (S 7) 1 + (-1) * elm (S 7) 0) (hq2 : 0 ≤ 12 * elm (S 7) 3 + (-1) * elm (S 7) 0) (hq3 : 0 ≤ 8 * elm (S 7) 0 + (-1) * elm (S 7) 6) (hq4 : 0 ≤ 3 * elm (S 7) 0 + (-1) * elm (S 7) 8) (hq5 : 0 ≤ 40000 * elm (S 7) 0 + (-1) * elm (S 6) 0) (hq6 : 0 ≤ 12 * elm (S 7) 11 + (-1) * elm (S 7) 10) (hq7 : 0 ≤ 12 * elm (S 7) 13 + (-1) * elm (S 7) 10) (hq8 : 0 ≤ 8 * elm (S 7) 10 + (-1) * elm (S 7) 16) (hq9 : 0 ≤ 3 * elm (S 7) 10 + (-1) * elm (S 7) 18) (hq10 : 0 ≤ 40000 * elm (S 7) 10 + (-1) * elm (S 6) 1) (hq11 : 0 ≤ 12 * elm (S 7) 21 + (-1) * elm (S 7) 20) (hq12 : 0 ≤ 12 * elm (S 7) 23 + (-1) * elm (S 7) 20) (hq13 : 0 ≤ 8 * elm (S 7) 20 + (-1) * elm (S 7) 26) (hq14 : 0 ≤ 3 * elm (S 7) 20 + (-1) * elm (S 7) 28) (hq15 : 0 ≤ 40000 * elm (S 7) 20 + (-1) * elm (S 6) 2) (hq16 : 0 ≤ 12 * elm (S 7) 31 + (-1) * elm (S 7) 30) (hq17 : 0 ≤ 12 * elm (S 7) 33 + (-1) * elm (S 7) 30) (hq18 : 0 ≤ 8 * elm (S 7) 30 + (-1) * elm (S 7) 36) (hq19 : 0 ≤ 3 * elm (S 7) 30 + (-1) * elm (S 7) 38) (hq20 : 0 ≤ 40000 * elm (S 7) 30 + (-1) * elm (S 6) 3) (hq21 : 0 ≤ (-1) * elm (S 7) 9 + 40) (hq22 : 0 ≤ (-1) * elm (S 7) 19 + 40) (hq23 : 0 ≤ (-1) * elm (S 7) 29 + 40) (hq24 : 0 ≤ (-1) * elm (S 7) 39 + 40) (hAT0 : ATp (S 7) (S 12) 0) (hAT1 : ATp (S 7) (S 12) 1) (hAT2 : ATp (S 7) (S 12) 2) (hAT3 : ATp (S 7) (S 12) 3) : Met l yX12_undo (wG (.code yX12_undo cX12_undo 1 (some .int))) (Rm 1) (XPre g ad 20 S [.ref (ad 0)]) (va_Qi (fun r S' => InvM g ad S' ∧ (∀ j, j ∉ ([0, 7] : List Nat) → S' j = S j) ∧ Bd r (-5) (39) ∧ (0 ≤ 12 * elm (S' 7) 1 + (-1) * elm (S' 7) 0) ∧ (0 ≤ 12 * elm (S' 7) 3 + (-1) * elm (S' 7) 0) ∧ (0 ≤ 8 * elm (S' 7) 0 + (-1) * elm (S' 7) 6) ∧ (0 ≤ 3 * elm (S' 7) 0 + (-1) * elm (S' 7) 8) ∧ (0 ≤ 40000 * elm (S' 7) 0 + (-1) * elm (S' 6) 0) ∧ (0 ≤ 12 * elm (S' 7) 11 + (-1) * elm (S' 7) 10) ∧ (0 ≤ 12 * elm (S' 7) 13 + (-1) * elm (S' 7) 10) ∧ (0 ≤ 8 * elm (S' 7) 10 + (-1) * elm (S' 7) 16) ∧ (0 ≤ 3 * elm (S' 7) 10 + (-1) * elm (S' 7) 18) ∧ (0 ≤ 40000 * elm (S' 7) 10 + (-1) * elm (S' 6) 1) ∧ (0 ≤ 12 * elm (S' 7) 21 + (-1) * elm (S' 7) 20) ∧ (0 ≤ 12 * elm (S' 7) 23 + (-1) * elm (S' 7) 20) ∧ (0 ≤ 8 * elm (S' 7) 20 + (-1) * elm (S' 7) 26) ∧ (0 ≤ 3 * elm (S' 7) 20 + (-1) * elm (S' 7) 28) ∧ (0 ≤ 40000 * elm (S' 7) 20 + (-1) * elm (S' 6) 2) ∧ (0 ≤ 12 * elm (S' 7) 31 + (-1) * elm (S' 7) 30) ∧ (0 ≤ 12 * elm (S' 7) 33 + (-1) * elm (S' 7) 30) ∧ (0 ≤ 8 * elm (S' 7) 30 + (-1) * elm (S' 7) 36) ∧ (0 ≤ 3 * elm (S' 7) 30 + (-1) * elm (S' 7) 38) ∧ (0 ≤ 40000 * elm (S' 7) 30 + (-1) * elm (S' 6) 3) ∧ (ATp (S' 7) (S' 12) 0) ∧ (ATp (S' 7) (S' 12) 1) ∧ (ATp (S' 7) (S' 12) 2) ∧ (ATp (S' 7) (S' 12) 3)) (QB g ad 20) (FA ad 20)) 0 0 (FA ad 20) := by
  refine xmet cX12_undo "EbbWreckModel" (by decide) rfl (Nat.le_of_ble_eq_true rfl) (fun p e s m below meth c E hr hlk hml hQ ls hl => ?_)
  have hx := E.1
  have hb := E.2.1
  have hs : Sp ad 20 (FA ad 20) := Sp.fa hD
  have hl : lv_has ls 1 [(0, .ref (ad 0))] := hl
  obtain ⟨f1, c2, b3⟩ := invM_7 hI
  obtain ⟨v4, ee5⟩ : ∃ z : Int32, f1 1 = z := ⟨_, rfl⟩
  have b6 : Bd v4 (0) (12) := (by rw [← ee5]; exact b3.2.1 1 (by decide))
  obtain ⟨v7, ee8⟩ : ∃ z : Int32, f1 0 = z := ⟨_, rfl⟩
  have b9 : Bd v7 (0) (12) := (by rw [← ee8]; exact b3.1 0 (by decide))
  obtain ⟨v10, ee11⟩ : ∃ z : Int32, f1 3 = z := ⟨_, rfl⟩
  have b12 : Bd v10 (0) (12) := (by rw [← ee11]; exact b3.2.2.2.1 3 (by decide))
  obtain ⟨v13, ee14⟩ : ∃ z : Int32, f1 6 = z := ⟨_, rfl⟩
  have b15 : Bd v13 (0) (8) := (by rw [← ee14]; exact b3.2.2.2.2.1 6 (by decide))
  obtain ⟨v16, ee17⟩ : ∃ z : Int32, f1 8 = z := ⟨_, rfl⟩
  have b18 : Bd v16 (0) (3) := (by rw [← ee17]; exact b3.2.2.2.2.2.2.1 8 (by decide))
  obtain ⟨f19, c20, b21⟩ := invM_6 hI
  obtain ⟨v22, ee23⟩ : ∃ z : Int32, f19 0 = z := ⟨_, rfl⟩
  have b24 : Bd v22 (0) (40000) := (by rw [← ee23]; exact b21 0)
  obtain ⟨v25, ee26⟩ : ∃ z : Int32, f1 11 = z := ⟨_, rfl⟩
  have b27 : Bd v25 (0) (12) := (by rw [← ee26]; exact b3.2.1 11 (by decide))
  obtain ⟨v28, ee29⟩ : ∃ z : Int32, f1 10 = z := ⟨_, rfl⟩
  have b30 : Bd v28 (0) (12) := (by rw [← ee29]; exact b3.1 10 (by decide))
  obtain ⟨v31, ee32⟩ : ∃ z : Int32, f1 13 = z := ⟨_, rfl⟩
  have b33 : Bd v31 (0) (12) := (by rw [← ee32]; exact b3.2.2.2.1 13 (by decide))
  obtain ⟨v34, ee35⟩ : ∃ z : Int32, f1 16 = z := ⟨_, rfl⟩
  have b36 : Bd v34 (0) (8) := (by rw [← ee35]; exact b3.2.2.2.2.1 16 (by decide))
  obtain ⟨v37, ee38⟩ : ∃ z : Int32, f1 18 = z := ⟨_, rfl⟩
  have b39 : Bd v37 (0) (3) := (by rw [← ee38]; exact b3.2.2.2.2.2.2.1 18 (by decide))
  obtain ⟨v40, ee41⟩ : ∃ z : Int32, f19 1 = z := ⟨_, rfl⟩
  have b42 : Bd v40 (0) (40000) := (by rw [← ee41]; exact b21 1)
  obtain ⟨v43, ee44⟩ : ∃ z : Int32, f1 21 = z := ⟨_, rfl⟩
  have b45 : Bd v43 (0) (12) := (by rw [← ee44]; exact b3.2.1 21 (by decide))
  obtain ⟨v46, ee47⟩ : ∃ z : Int32, f1 20 = z := ⟨_, rfl⟩
  have b48 : Bd v46 (0) (12) := (by rw [← ee47]; exact b3.1 20 (by decide))
  obtain ⟨v49, ee50⟩ : ∃ z : Int32, f1 23 = z := ⟨_, rfl⟩
  have b51 : Bd v49 (0) (12) := (by rw [← ee50]; exact b3.2.2.2.1 23 (by decide))
  obtain ⟨v52, ee53⟩ : ∃ z : Int32, f1 26 = z := ⟨_, rfl⟩
  have b54 : Bd v52 (0) (8) := (by rw [← ee53]; exact b3.2.2.2.2.1 26 (by decide))
  obtain ⟨v55, ee56⟩ : ∃ z : Int32, f1 28 = z := ⟨_, rfl⟩
  have b57 : Bd v55 (0) (3) := (by rw [← ee56]; exact b3.2.2.2.2.2.2.1 28 (by decide))
  obtain ⟨v58, ee59⟩ : ∃ z : Int32, f19 2 = z := ⟨_, rfl⟩
  have b60 : Bd v58 (0) (40000) := (by rw [← ee59]; exact b21 2)
  obtain ⟨v61, ee62⟩ : ∃ z : Int32, f1 31 = z := ⟨_, rfl⟩
  have b63 : Bd v61 (0) (12) := (by rw [← ee62]; exact b3.2.1 31 (by decide))
  obtain ⟨v64, ee65⟩ : ∃ z : Int32, f1 30 = z := ⟨_, rfl⟩
  have b66 : Bd v64 (0) (12) := (by rw [← ee65]; exact b3.1 30 (by decide))
  obtain ⟨v67, ee68⟩ : ∃ z : Int32, f1 33 = z := ⟨_, rfl⟩
  have b69 : Bd v67 (0) (12) := (by rw [← ee68]; exact b3.2.2.2.1 33 (by decide))
  obtain ⟨v70, ee71⟩ : ∃ z : Int32, f1 36 = z := ⟨_, rfl⟩
  have b72 : Bd v70 (0) (8) := (by rw [← ee71]; exact b3.2.2.2.2.1 36 (by decide))
  obtain ⟨v73, ee74⟩ : ∃ z : Int32, f1 38 = z := ⟨_, rfl⟩
  have b75 : Bd v73 (0) (3) := (by rw [← ee74]; exact b3.2.2.2.2.2.2.1 38 (by decide))
  obtain ⟨v76, ee77⟩ : ∃ z : Int32, f19 3 = z := ⟨_, rfl⟩
  have b78 : Bd v76 (0) (40000) := (by rw [← ee77]; exact b21 3)
  obtain ⟨v79, ee80⟩ : ∃ z : Int32, f1 9 = z := ⟨_, rfl⟩
  have b81 : Bd v79 (0) (40) := (by rw [← ee80]; exact b3.2.2.2.2.2.2.2 9 (by decide))
  obtain ⟨v82, ee83⟩ : ∃ z : Int32, f1 19 = z := ⟨_, rfl⟩
  have b84 : Bd v82 (0) (40) := (by rw [← ee83]; exact b3.2.2.2.2.2.2.2 19 (by decide))
  obtain ⟨v85, ee86⟩ : ∃ z : Int32, f1 29 = z := ⟨_, rfl⟩
  have b87 : Bd v85 (0) (40) := (by rw [← ee86]; exact b3.2.2.2.2.2.2.2 29 (by decide))
  obtain ⟨v88, ee89⟩ : ∃ z : Int32, f1 39 = z := ⟨_, rfl⟩
  have b90 : Bd v88 (0) (40) := (by rw [← ee89]; exact b3.2.2.2.2.2.2.2 39 (by decide))
  have q91 : elm (S 7) 1 = v4.toInt := (elm_of c2 1).trans (congrArg Int32.toInt (ee5))
  have q92 : elm (S 7) 0 = v7.toInt := (elm_of c2 0).trans (congrArg Int32.toInt (ee8))
  have q93 : elm (S 7) 3 = v10.toInt := (elm_of c2 3).trans (congrArg Int32.toInt (ee11))
  have q94 : elm (S 7) 6 = v13.toInt := (elm_of c2 6).trans (congrArg Int32.toInt (ee14))
  have q95 : elm (S 7) 8 = v16.toInt := (elm_of c2 8).trans (congrArg Int32.toInt (ee17))
  have q96 : elm (S 6) 0 = v22.toInt := (elm_of c20 0).trans (congrArg Int32.toInt (ee23))
  have q97 : elm (S 7) 11 = v25.toInt := (elm_of c2 11).trans (congrArg Int32.toInt (ee26))
  have q98 : elm (S 7) 10 = v28.toInt := (elm_of c2 10).trans (congrArg Int32.toInt (ee29))
  have q99 : elm (S 7) 13 = v31.toInt := (elm_of c2 13).trans (congrArg Int32.toInt (ee32))
  have q100 : elm (S 7) 16 = v34.toInt := (elm_of c2 16).trans (congrArg Int32.toInt (ee35))
  have q101 : elm (S 7) 18 = v37.toInt := (elm_of c2 18).trans (congrArg Int32.toInt (ee38))
  have q102 : elm (S 6) 1 = v40.toInt := (elm_of c20 1).trans (congrArg Int32.toInt (ee41))
  have q103 : elm (S 7) 21 = v43.toInt := (elm_of c2 21).trans (congrArg Int32.toInt (ee44))
  have q104 : elm (S 7) 20 = v46.toInt := (elm_of c2 20).trans (congrArg Int32.toInt (ee47))
  have q105 : elm (S 7) 23 = v49.toInt := (elm_of c2 23).trans (congrArg Int32.toInt (ee50))
  have q106 : elm (S 7) 26 = v52.toInt := (elm_of c2 26).trans (congrArg Int32.toInt (ee53))
  have q107 : elm (S 7) 28 = v55.toInt := (elm_of c2 28).trans (congrArg Int32.toInt (ee56))
  have q108 : elm (S 6) 2 = v58.toInt := (elm_of c20 2).trans (congrArg Int32.toInt (ee59))
  have q109 : elm (S 7) 31 = v61.toInt := (elm_of c2 31).trans (congrArg Int32.toInt (ee62))
  have q110 : elm (S 7) 30 = v64.toInt := (elm_of c2 30).trans (congrArg Int32.toInt (ee65))
  have q111 : elm (S 7) 33 = v67.toInt := (elm_of c2 33).trans (congrArg Int32.toInt (ee68))
  have q112 : elm (S 7) 36 = v70.toInt := (elm_of c2 36).trans (congrArg Int32.toInt (ee71))
  have q113 : elm (S 7) 38 = v73.toInt := (elm_of c2 38).trans (congrArg Int32.toInt (ee74))
  have q114 : elm (S 6) 3 = v76.toInt := (elm_of c20 3).trans (congrArg Int32.toInt (ee77))
  have q115 : elm (S 7) 9 = v79.toInt := (elm_of c2 9).trans (congrArg Int32.toInt (ee80))
  have q116 : elm (S 7) 19 = v82.toInt := (elm_of c2 19).trans (congrArg Int32.toInt (ee83))
  have q117 : elm (S 7) 29 = v85.toInt := (elm_of c2 29).trans (congrArg Int32.toInt (ee86))
  have q118 : elm (S 7) 39 = v88.toInt := (elm_of c2 39).trans (congrArg Int32.toInt (ee89))
  obtain ⟨f119, c120, b121⟩ := invM_12 hI
  refine lv_aload_n hx hb dX12_undo_0 rfl (lv_at hl 0 rfl) ?_
  refine lv_iconst (v := 0) hx hb dX12_undo_1 (by decide) ?_
  obtain ⟨v122, v123, v125, v127, v129, v130, w131, v132, v134, v135, v136, v137, v139, v141, v143, v145, v147, v148, v149, c150, b124, b126, b128, b133, b138, b140, b142, b144, b146⟩ := invM_0 hI
  have c150 : S 0 = .inr (12, [.int v122, .ref (ad 1), .ref (ad 2), .ref (ad 3), .ref (ad 4), .ref (ad 5), .int v123, .int v125, .int v127, .int v129, .int v130, .long w131, .int v132, .int v134, .int v135, .int v136, .ref (ad 6), .ref (ad 7), .ref (ad 8), .ref (ad 9), .ref (ad 10), .ref (ad 11), .ref (ad 12), .ref (ad 13), .ref (ad 14), .ref (ad 15), .int v137, .int v139, .ref (ad 16), .int v141, .int v143, .int v145, .int v147, .int v148, .ref (ad 17), .ref (ad 18), .int v149, .ref (ad 19)]) := c150
  refine xputi E hs hQ 0 (by decide) c150 rfl 0 (by decide) q1468 rfl rfl (Nat.le_of_ble_eq_true rfl) dX12_undo_2 (fun H locs S151 eS151 hQ => ?_)
  have hI := invM_up_0 hI eS151 ⟨0, v123, v125, v127, v129, v130, w131, v132, v134, v135, v136, v137, v139, v141, v143, v145, v147, v148, v149, rfl, b124, b126, b128, b133, b138, b140, b142, b144, b146⟩
  have c152 : S151 0 = .inr (12, [.int 0, .ref (ad 1), .ref (ad 2), .ref (ad 3), .ref (ad 4), .ref (ad 5), .int v123, .int v125, .int v127, .int v129, .int v130, .long w131, .int v132, .int v134, .int v135, .int v136, .ref (ad 6), .ref (ad 7), .ref (ad 8), .ref (ad 9), .ref (ad 10), .ref (ad 11), .ref (ad 12), .ref (ad 13), .ref (ad 14), .ref (ad 15), .int v137, .int v139, .ref (ad 16), .int v141, .int v143, .int v145, .int v147, .int v148, .ref (ad 17), .ref (ad 18), .int v149, .ref (ad 19)]) := up_at eS151 rfl
  refine lv_aload_n hx hb dX12_undo_5 rfl (lv_at hl 0 rfl) ?_
  have c153 : S151 6 = .inl (g.2 0, 5, .inl f19) := (up_ne eS151 (by decide) c20)
  refine xcVi E hs hQ hml hl.1 0 (gX12_isShore_0 l g ad hD S151 hI ) mX12_isShore q1782 (by decide) c152 rfl rfl ⟨(Nat.le_of_ble_eq_true rfl), (Nat.le_of_ble_eq_true rfl)⟩ ⟨(Nat.le_of_ble_eq_true rfl), (Nat.le_of_ble_eq_true rfl)⟩ (Nat.le_of_ble_eq_true rfl) rfl dX12_undo_6 (fun r154 S154 H locs hp154 hQ _ => ?_)
  obtain ⟨rfl, b154, g154_0⟩ := hp154
  have q155 : elm (S151 6) 0 = v22.toInt := (elm_of c153 0).trans (congrArg Int32.toInt (ee23))
  refine lv_if_ne (tgt := 15) hx hb dX12_undo_9 (by decide) (fun k156 => ?_) (fun k156 => ?_)
  · have h157 := ib_ne k156
    have b158 : Bd r154 (1) (1) := rf_nlo b154 (by decide : Bd 0 (0) (0)) h157
    have g159 := g154_0.resolve_left (by omega)
    clear g154_0
    have b160 : Bd v22 (1) (40000) := ⟨by omega, (b24).2⟩
    refine lv_aload_n hx hb dX12_undo_15 rfl (lv_at hl 0 rfl) ?_
    refine xget E hQ 0 (by decide) c152 rfl 17 (by decide) q1485 rfl dX12_undo_16 ?_
    refine lv_bipush (v := 9) hx hb dX12_undo_19 (by decide) ?_
    have c161 : S151 7 = .inl (g.2 0, 50, .inl f1) := (up_ne eS151 (by decide) c2)
    refine xiald E hQ 7 (by decide) c161 (vp_in_lit 9 50 (by decide)) dX12_undo_21 ?_
    refine sb_at (P := fun z => W _ _ _ _ _ _ _ _ _ _ _ _ _ _ _ (F0 _ _ _ (.int z :: _))) (show f1 (9 : Int32).toNatClampNeg = v79 from ee80) ?_
    refine lv_if_ne (tgt := 28) hx hb dX12_undo_22 (by decide) (fun k162 => ?_) (fun k162 => ?_)
    · have h163 := ib_ne k162
      have b164 : Bd v79 (1) (40) := rf_nlo b81 (by decide : Bd 0 (0) (0)) h163
      refine lv_aload_n hx hb dX12_undo_28 rfl (lv_at hl 0 rfl) ?_
      refine xget E hQ 0 (by decide) c152 rfl 17 (by decide) q1485 rfl dX12_undo_29 ?_
      refine lv_bipush (v := 9) hx hb dX12_undo_32 (by decide) ?_
      refine lv_dup2_11 hx hb dX12_undo_34 rfl rfl ?_
      refine xiald E hQ 7 (by decide) c161 (vp_in_lit 9 50 (by decide)) dX12_undo_35 ?_
      refine sb_at (P := fun z => W _ _ _ _ _ _ _ _ _ _ _ _ _ _ _ (F0 _ _ _ (.int z :: _))) (show f1 (9 : Int32).toNatClampNeg = v79 from ee80) ?_
      refine lv_iconst (v := 1) hx hb dX12_undo_36 (by decide) ?_
      refine lv_isub hx hb dX12_undo_37 ?_
      refine lv_topi (fun z165 e166 => ?_)
      have t167 := ib_sub e166 b164 (by decide : Bd 1 (1) (1)) (by decide) (by decide)
      have b168 : Bd z165 (0) (39) := ib_subb t167 b164 (by decide : Bd 1 (1) (1))
      have t167 : z165.toInt = v79.toInt - 1 := fold_sub t167 rfl (by decide)
      refine xiast E hs hQ 7 (by decide) c161 (vp_in_lit 9 50 (by decide)) dX12_undo_38 (fun H locs S169 eS169 hQ => ?_)
      have hI := invM_up_7 hI eS169 ⟨_, rfl, ⟨upd_mn b3.1 (by decide), upd_mn b3.2.1 (by decide), upd_mn b3.2.2.1 (by decide), upd_mn b3.2.2.2.1 (by decide), upd_mn b3.2.2.2.2.1 (by decide), upd_mn b3.2.2.2.2.2.1 (by decide), upd_mn b3.2.2.2.2.2.2.1 (by decide), upd_m b3.2.2.2.2.2.2.2 (ib_wk b168 (by decide) (by decide))⟩⟩
      have b171 : (∀ j, j % 10 = 0 → Bd ((upd f1 (9 : Int32).toNatClampNeg z165) j) (0) (12)) ∧ (∀ j, j % 10 = 1 → Bd ((upd f1 (9 : Int32).toNatClampNeg z165) j) (0) (12)) ∧ (∀ j, j % 10 = 2 → Bd ((upd f1 (9 : Int32).toNatClampNeg z165) j) (0) (6)) ∧ (∀ j, j % 10 = 3 → Bd ((upd f1 (9 : Int32).toNatClampNeg z165) j) (0) (12)) ∧ (∀ j, j % 10 = 6 → Bd ((upd f1 (9 : Int32).toNatClampNeg z165) j) (0) (8)) ∧ (∀ j, j % 10 = 7 → Bd ((upd f1 (9 : Int32).toNatClampNeg z165) j) (0) (6)) ∧ (∀ j, j % 10 = 8 → Bd ((upd f1 (9 : Int32).toNatClampNeg z165) j) (0) (3)) ∧ (∀ j, j % 10 = 9 → Bd ((upd f1 (9 : Int32).toNatClampNeg z165) j) (0) (40)) := ⟨upd_mn b3.1 (by decide), upd_mn b3.2.1 (by decide), upd_mn b3.2.2.1 (by decide), upd_mn b3.2.2.2.1 (by decide), upd_mn b3.2.2.2.2.1 (by decide), upd_mn b3.2.2.2.2.2.1 (by decide), upd_mn b3.2.2.2.2.2.2.1 (by decide), upd_m b3.2.2.2.2.2.2.2 (ib_wk b168 (by decide) (by decide))⟩
      have c170 : S169 7 = .inl (g.2 0, 50, .inl (upd f1 (9 : Int32).toNatClampNeg z165)) := up_at eS169 rfl
      refine lv_aload_n hx hb dX12_undo_39 rfl (lv_at hl 0 rfl) ?_
      have c172 : S169 0 = .inr (12, [.int 0, .ref (ad 1), .ref (ad 2), .ref (ad 3), .ref (ad 4), .ref (ad 5), .int v123, .int v125, .int v127, .int v129, .int v130, .long w131, .int v132, .int v134, .int v135, .int v136, .ref (ad 6), .ref (ad 7), .ref (ad 8), .ref (ad 9), .ref (ad 10), .ref (ad 11), .ref (ad 12), .ref (ad 13), .ref (ad 14), .ref (ad 15), .int v137, .int v139, .ref (ad 16), .int v141, .int v143, .int v145, .int v147, .int v148, .ref (ad 17), .ref (ad 18), .int v149, .ref (ad 19)]) := (up_ne eS169 (by decide) c152)
      refine xget E hQ 0 (by decide) c172 rfl 17 (by decide) q1485 rfl dX12_undo_40 ?_
      refine lv_bipush (v := 9) hx hb dX12_undo_43 (by decide) ?_
      refine xiald E hQ 7 (by decide) c170 (vp_in_lit 9 50 (by decide)) dX12_undo_45 ?_
      refine sb_at (P := fun z => W _ _ _ _ _ _ _ _ _ _ _ _ _ _ _ (F0 _ _ _ (.int z :: _))) (show (upd f1 (9 : Int32).toNatClampNeg z165) (9 : Int32).toNatClampNeg = z165 from (upd_s)) ?_
      have q173 : elm (S169 7) 1 = v4.toInt := (elm_of c170 1).trans (congrArg Int32.toInt (((upd_o (by decide)).trans (ee5))))
      have q174 : elm (S169 7) 0 = v7.toInt := (elm_of c170 0).trans (congrArg Int32.toInt (((upd_o (by decide)).trans (ee8))))
      have q175 : elm (S169 7) 3 = v10.toInt := (elm_of c170 3).trans (congrArg Int32.toInt (((upd_o (by decide)).trans (ee11))))
      have q176 : elm (S169 7) 6 = v13.toInt := (elm_of c170 6).trans (congrArg Int32.toInt (((upd_o (by decide)).trans (ee14))))
      have q177 : elm (S169 7) 8 = v16.toInt := (elm_of c170 8).trans (congrArg Int32.toInt (((upd_o (by decide)).trans (ee17))))
      have c178 : S169 6 = .inl (g.2 0, 5, .inl f19) := (up_ne eS169 (by decide) c153)
      have q179 : elm (S169 6) 0 = v22.toInt := (elm_of c178 0).trans (congrArg Int32.toInt (ee23))
      have q180 : elm (S169 7) 11 = v25.toInt := (elm_of c170 11).trans (congrArg Int32.toInt (((upd_o (by decide)).trans (ee26))))
      have q181 : elm (S169 7) 10 = v28.toInt := (elm_of c170 10).trans (congrArg Int32.toInt (((upd_o (by decide)).trans (ee29))))
      have q182 : elm (S169 7) 13 = v31.toInt := (elm_of c170 13).trans (congrArg Int32.toInt (((upd_o (by decide)).trans (ee32))))
      have q183 : elm (S169 7) 16 = v34.toInt := (elm_of c170 16).trans (congrArg Int32.toInt (((upd_o (by decide)).trans (ee35))))
      have q184 : elm (S169 7) 18 = v37.toInt := (elm_of c170 18).trans (congrArg Int32.toInt (((upd_o (by decide)).trans (ee38))))
      have q185 : elm (S169 6) 1 = v40.toInt := (elm_of c178 1).trans (congrArg Int32.toInt (ee41))
      have q186 : elm (S169 7) 21 = v43.toInt := (elm_of c170 21).trans (congrArg Int32.toInt (((upd_o (by decide)).trans (ee44))))
      have q187 : elm (S169 7) 20 = v46.toInt := (elm_of c170 20).trans (congrArg Int32.toInt (((upd_o (by decide)).trans (ee47))))
      have q188 : elm (S169 7) 23 = v49.toInt := (elm_of c170 23).trans (congrArg Int32.toInt (((upd_o (by decide)).trans (ee50))))
      have q189 : elm (S169 7) 26 = v52.toInt := (elm_of c170 26).trans (congrArg Int32.toInt (((upd_o (by decide)).trans (ee53))))
      have q190 : elm (S169 7) 28 = v55.toInt := (elm_of c170 28).trans (congrArg Int32.toInt (((upd_o (by decide)).trans (ee56))))
      have q191 : elm (S169 6) 2 = v58.toInt := (elm_of c178 2).trans (congrArg Int32.toInt (ee59))
      have q192 : elm (S169 7) 31 = v61.toInt := (elm_of c170 31).trans (congrArg Int32.toInt (((upd_o (by decide)).trans (ee62))))
      have q193 : elm (S169 7) 30 = v64.toInt := (elm_of c170 30).trans (congrArg Int32.toInt (((upd_o (by decide)).trans (ee65))))
      have q194 : elm (S169 7) 33 = v67.toInt := (elm_of c170 33).trans (congrArg Int32.toInt (((upd_o (by decide)).trans (ee68))))
      have q195 : elm (S169 7) 36 = v70.toInt := (elm_of c170 36).trans (congrArg Int32.toInt (((upd_o (by decide)).trans (ee71))))
      have q196 : elm (S169 7) 38 = v73.toInt := (elm_of c170 38).trans (congrArg Int32.toInt (((upd_o (by decide)).trans (ee74))))
      have q197 : elm (S169 6) 3 = v76.toInt := (elm_of c178 3).trans (congrArg Int32.toInt (ee77))
      have q198 : elm (S169 7) 9 = z165.toInt := (elm_of c170 9).trans (congrArg Int32.toInt ((upd_s)))
      have q199 : elm (S169 7) 19 = v82.toInt := (elm_of c170 19).trans (congrArg Int32.toInt (((upd_o (by decide)).trans (ee83))))
      have q200 : elm (S169 7) 29 = v85.toInt := (elm_of c170 29).trans (congrArg Int32.toInt (((upd_o (by decide)).trans (ee86))))
      have q201 : elm (S169 7) 39 = v88.toInt := (elm_of c170 39).trans (congrArg Int32.toInt (((upd_o (by decide)).trans (ee89))))
      exact xri E hr hlk hQ (⟨hI, (up_o (up_o o_refl eS151 (by decide)) eS169 (by decide)), (ib_wk b168 (by decide) (by decide)), (by omega), (by omega), (by omega), (by omega), (by omega), (by omega), (by omega), (by omega), (by omega), (by omega), (by omega), (by omega), (by omega), (by omega), (by omega), (by omega), (by omega), (by omega), (by omega), (by omega), (at_mono hAT0 (by show elm _ 9 ≤ elm _ 9; omega) ((up_eq (j := 12) eS169 (by decide)).trans (up_eq (j := 12) eS151 (by decide)))), (at_mono hAT1 (by show elm _ 19 ≤ elm _ 19; omega) ((up_eq (j := 12) eS169 (by decide)).trans (up_eq (j := 12) eS151 (by decide)))), (at_mono hAT2 (by show elm _ 29 ≤ elm _ 29; omega) ((up_eq (j := 12) eS169 (by decide)).trans (up_eq (j := 12) eS151 (by decide)))), (at_mono hAT3 (by show elm _ 39 ≤ elm _ 39; omega) ((up_eq (j := 12) eS169 (by decide)).trans (up_eq (j := 12) eS151 (by decide))))⟩) dX12_undo_46
    · have h202 := ib_eq k162
      have b203 : Bd v79 (0) (0) := ⟨(b81).1, ((rf_eq b81 (by decide : Bd 0 (0) (0)) h202).1).2⟩
      refine lv_bipush (v := (-5)) hx hb dX12_undo_25 (by decide) ?_
      have q204 : elm (S151 7) 1 = v4.toInt := (elm_of c161 1).trans (congrArg Int32.toInt (ee5))
      have q205 : elm (S151 7) 0 = v7.toInt := (elm_of c161 0).trans (congrArg Int32.toInt (ee8))
      have q206 : elm (S151 7) 3 = v10.toInt := (elm_of c161 3).trans (congrArg Int32.toInt (ee11))
      have q207 : elm (S151 7) 6 = v13.toInt := (elm_of c161 6).trans (congrArg Int32.toInt (ee14))
      have q208 : elm (S151 7) 8 = v16.toInt := (elm_of c161 8).trans (congrArg Int32.toInt (ee17))
      have q209 : elm (S151 7) 11 = v25.toInt := (elm_of c161 11).trans (congrArg Int32.toInt (ee26))
      have q210 : elm (S151 7) 10 = v28.toInt := (elm_of c161 10).trans (congrArg Int32.toInt (ee29))
      have q211 : elm (S151 7) 13 = v31.toInt := (elm_of c161 13).trans (congrArg Int32.toInt (ee32))
      have q212 : elm (S151 7) 16 = v34.toInt := (elm_of c161 16).trans (congrArg Int32.toInt (ee35))
      have q213 : elm (S151 7) 18 = v37.toInt := (elm_of c161 18).trans (congrArg Int32.toInt (ee38))
      have q214 : elm (S151 6) 1 = v40.toInt := (elm_of c153 1).trans (congrArg Int32.toInt (ee41))
      have q215 : elm (S151 7) 21 = v43.toInt := (elm_of c161 21).trans (congrArg Int32.toInt (ee44))
      have q216 : elm (S151 7) 20 = v46.toInt := (elm_of c161 20).trans (congrArg Int32.toInt (ee47))
      have q217 : elm (S151 7) 23 = v49.toInt := (elm_of c161 23).trans (congrArg Int32.toInt (ee50))
      have q218 : elm (S151 7) 26 = v52.toInt := (elm_of c161 26).trans (congrArg Int32.toInt (ee53))
      have q219 : elm (S151 7) 28 = v55.toInt := (elm_of c161 28).trans (congrArg Int32.toInt (ee56))
      have q220 : elm (S151 6) 2 = v58.toInt := (elm_of c153 2).trans (congrArg Int32.toInt (ee59))
      have q221 : elm (S151 7) 31 = v61.toInt := (elm_of c161 31).trans (congrArg Int32.toInt (ee62))
      have q222 : elm (S151 7) 30 = v64.toInt := (elm_of c161 30).trans (congrArg Int32.toInt (ee65))
      have q223 : elm (S151 7) 33 = v67.toInt := (elm_of c161 33).trans (congrArg Int32.toInt (ee68))
      have q224 : elm (S151 7) 36 = v70.toInt := (elm_of c161 36).trans (congrArg Int32.toInt (ee71))
      have q225 : elm (S151 7) 38 = v73.toInt := (elm_of c161 38).trans (congrArg Int32.toInt (ee74))
      have q226 : elm (S151 6) 3 = v76.toInt := (elm_of c153 3).trans (congrArg Int32.toInt (ee77))
      exact xri E hr hlk hQ (⟨hI, (up_o o_refl eS151 (by decide)), (ib_wk (by decide : Bd (-5) (-5) (-5)) (by decide) (by decide)), (by omega), (by omega), (by omega), (by omega), (by omega), (by omega), (by omega), (by omega), (by omega), (by omega), (by omega), (by omega), (by omega), (by omega), (by omega), (by omega), (by omega), (by omega), (by omega), (by omega), (at_tr hAT0 (up_eq (j := 7) eS151 (by decide)) (up_eq (j := 12) eS151 (by decide))), (at_tr hAT1 (up_eq (j := 7) eS151 (by decide)) (up_eq (j := 12) eS151 (by decide))), (at_tr hAT2 (up_eq (j := 7) eS151 (by decide)) (up_eq (j := 12) eS151 (by decide))), (at_tr hAT3 (up_eq (j := 7) eS151 (by decide)) (up_eq (j := 12) eS151 (by decide)))⟩) dX12_undo_27
  · have h227 := ib_eq k156
    have b228 : Bd r154 (0) (0) := ⟨(b154).1, ((rf_eq b154 (by decide : Bd 0 (0) (0)) h227).1).2⟩
    clear g154_0
    refine lv_bipush (v := (-2)) hx hb dX12_undo_12 (by decide) ?_
    have c229 : S151 7 = .inl (g.2 0, 50, .inl f1) := (up_ne eS151 (by decide) c2)
    have q230 : elm (S151 7) 1 = v4.toInt := (elm_of c229 1).trans (congrArg Int32.toInt (ee5))
    have q231 : elm (S151 7) 0 = v7.toInt := (elm_of c229 0).trans (congrArg Int32.toInt (ee8))
    have q232 : elm (S151 7) 3 = v10.toInt := (elm_of c229 3).trans (congrArg Int32.toInt (ee11))
    have q233 : elm (S151 7) 6 = v13.toInt := (elm_of c229 6).trans (congrArg Int32.toInt (ee14))
    have q234 : elm (S151 7) 8 = v16.toInt := (elm_of c229 8).trans (congrArg Int32.toInt (ee17))
    have q235 : elm (S151 7) 11 = v25.toInt := (elm_of c229 11).trans (congrArg Int32.toInt (ee26))
    have q236 : elm (S151 7) 10 = v28.toInt := (elm_of c229 10).trans (congrArg Int32.toInt (ee29))
    have q237 : elm (S151 7) 13 = v31.toInt := (elm_of c229 13).trans (congrArg Int32.toInt (ee32))
    have q238 : elm (S151 7) 16 = v34.toInt := (elm_of c229 16).trans (congrArg Int32.toInt (ee35))
    have q239 : elm (S151 7) 18 = v37.toInt := (elm_of c229 18).trans (congrArg Int32.toInt (ee38))
    have q240 : elm (S151 6) 1 = v40.toInt := (elm_of c153 1).trans (congrArg Int32.toInt (ee41))
    have q241 : elm (S151 7) 21 = v43.toInt := (elm_of c229 21).trans (congrArg Int32.toInt (ee44))
    have q242 : elm (S151 7) 20 = v46.toInt := (elm_of c229 20).trans (congrArg Int32.toInt (ee47))
    have q243 : elm (S151 7) 23 = v49.toInt := (elm_of c229 23).trans (congrArg Int32.toInt (ee50))
    have q244 : elm (S151 7) 26 = v52.toInt := (elm_of c229 26).trans (congrArg Int32.toInt (ee53))
    have q245 : elm (S151 7) 28 = v55.toInt := (elm_of c229 28).trans (congrArg Int32.toInt (ee56))
    have q246 : elm (S151 6) 2 = v58.toInt := (elm_of c153 2).trans (congrArg Int32.toInt (ee59))
    have q247 : elm (S151 7) 31 = v61.toInt := (elm_of c229 31).trans (congrArg Int32.toInt (ee62))
    have q248 : elm (S151 7) 30 = v64.toInt := (elm_of c229 30).trans (congrArg Int32.toInt (ee65))
    have q249 : elm (S151 7) 33 = v67.toInt := (elm_of c229 33).trans (congrArg Int32.toInt (ee68))
    have q250 : elm (S151 7) 36 = v70.toInt := (elm_of c229 36).trans (congrArg Int32.toInt (ee71))
    have q251 : elm (S151 7) 38 = v73.toInt := (elm_of c229 38).trans (congrArg Int32.toInt (ee74))
    have q252 : elm (S151 6) 3 = v76.toInt := (elm_of c153 3).trans (congrArg Int32.toInt (ee77))
    exact xri E hr hlk hQ (⟨hI, (up_o o_refl eS151 (by decide)), (ib_wk (by decide : Bd (-2) (-2) (-2)) (by decide) (by decide)), (by omega), (by omega), (by omega), (by omega), (by omega), (by omega), (by omega), (by omega), (by omega), (by omega), (by omega), (by omega), (by omega), (by omega), (by omega), (by omega), (by omega), (by omega), (by omega), (by omega), (at_tr hAT0 (up_eq (j := 7) eS151 (by decide)) (up_eq (j := 12) eS151 (by decide))), (at_tr hAT1 (up_eq (j := 7) eS151 (by decide)) (up_eq (j := 12) eS151 (by decide))), (at_tr hAT2 (up_eq (j := 7) eS151 (by decide)) (up_eq (j := 12) eS151 (by decide))), (at_tr hAT3 (up_eq (j := 7) eS151 (by decide)) (up_eq (j := 12) eS151 (by decide)))⟩) dX12_undo_14
set_option maxHeartbeats 4000000 in
set_option maxRecDepth 100000 in
theorem gX12_anew_0 (l : Launch) (g : GG) (ad : Nat → Nat) (hD : Dj ad 20) (S : SS) (hI : InvM g ad S) (hq1 : 0 ≤ 12 * elm (S 7) 1 + (-1) * elm (S 7) 0) (hq2 : 0 ≤ 12 * elm (S 7) 3 + (-1) * elm (S 7) 0) (hq3 : 0 ≤ 8 * elm (S 7) 0 + (-1) * elm (S 7) 6) (hq4 : 0 ≤ 3 * elm (S 7) 0 + (-1) * elm (S 7) 8) (hq5 : 0 ≤ 40000 * elm (S 7) 0 + (-1) * elm (S 6) 0) (hq6 : 0 ≤ 12 * elm (S 7) 11 + (-1) * elm (S 7) 10) (hq7 : 0 ≤ 12 * elm (S 7) 13 + (-1) * elm (S 7) 10) (hq8 : 0 ≤ 8 * elm (S 7) 10 + (-1) * elm (S 7) 16) (hq9 : 0 ≤ 3 * elm (S 7) 10 + (-1) * elm (S 7) 18) (hq10 : 0 ≤ 40000 * elm (S 7) 10 + (-1) * elm (S 6) 1) (hq11 : 0 ≤ 12 * elm (S 7) 21 + (-1) * elm (S 7) 20) (hq12 : 0 ≤ 12 * elm (S 7) 23 + (-1) * elm (S 7) 20) (hq13 : 0 ≤ 8 * elm (S 7) 20 + (-1) * elm (S 7) 26) (hq14 : 0 ≤ 3 * elm (S 7) 20 + (-1) * elm (S 7) 28) (hq15 : 0 ≤ 40000 * elm (S 7) 20 + (-1) * elm (S 6) 2) (hq16 : 0 ≤ 12 * elm (S 7) 31 + (-1) * elm (S 7) 30) (hq17 : 0 ≤ 12 * elm (S 7) 33 + (-1) * elm (S 7) 30) (hq18 : 0 ≤ 8 * elm (S 7) 30 + (-1) * elm (S 7) 36) (hq19 : 0 ≤ 3 * elm (S 7) 30 + (-1) * elm (S 7) 38) (hq20 : 0 ≤ 40000 * elm (S 7) 30 + (-1) * elm (S 6) 3) (hq21 : 0 ≤ (-1) * elm (S 7) 9 + 40) (hq22 : 0 ≤ (-1) * elm (S 7) 19 + 40) (hq23 : 0 ≤ (-1) * elm (S 7) 29 + 40) (hq24 : 0 ≤ (-1) * elm (S 7) 39 + 40) (hAT0 : ATp (S 7) (S 12) 0) (hAT1 : ATp (S 7) (S 12) 1) (hAT2 : ATp (S 7) (S 12) 2) (hAT3 : ATp (S 7) (S 12) 3) : Met l yX12_anew (wG (.code yX12_anew cX12_anew 2 (some .int))) (Rm 1) (XPre g ad 20 S [.ref (ad 0)]) (va_Qi (fun r S' => InvM g ad S' ∧ (∀ j, j ∉ ([0, 7] : List Nat) → S' j = S j) ∧ Bd r (-2) (40) ∧ (0 ≤ 12 * elm (S' 7) 1 + (-1) * elm (S' 7) 0) ∧ (0 ≤ 12 * elm (S' 7) 3 + (-1) * elm (S' 7) 0) ∧ (0 ≤ 8 * elm (S' 7) 0 + (-1) * elm (S' 7) 6) ∧ (0 ≤ 3 * elm (S' 7) 0 + (-1) * elm (S' 7) 8) ∧ (0 ≤ 40000 * elm (S' 7) 0 + (-1) * elm (S' 6) 0) ∧ (0 ≤ 12 * elm (S' 7) 11 + (-1) * elm (S' 7) 10) ∧ (0 ≤ 12 * elm (S' 7) 13 + (-1) * elm (S' 7) 10) ∧ (0 ≤ 8 * elm (S' 7) 10 + (-1) * elm (S' 7) 16) ∧ (0 ≤ 3 * elm (S' 7) 10 + (-1) * elm (S' 7) 18) ∧ (0 ≤ 40000 * elm (S' 7) 10 + (-1) * elm (S' 6) 1) ∧ (0 ≤ 12 * elm (S' 7) 21 + (-1) * elm (S' 7) 20) ∧ (0 ≤ 12 * elm (S' 7) 23 + (-1) * elm (S' 7) 20) ∧ (0 ≤ 8 * elm (S' 7) 20 + (-1) * elm (S' 7) 26) ∧ (0 ≤ 3 * elm (S' 7) 20 + (-1) * elm (S' 7) 28) ∧ (0 ≤ 40000 * elm (S' 7) 20 + (-1) * elm (S' 6) 2) ∧ (0 ≤ 12 * elm (S' 7) 31 + (-1) * elm (S' 7) 30) ∧ (0 ≤ 12 * elm (S' 7) 33 + (-1) * elm (S' 7) 30) ∧ (0 ≤ 8 * elm (S' 7) 30 + (-1) * elm (S' 7) 36) ∧ (0 ≤ 3 * elm (S' 7) 30 + (-1) * elm (S' 7) 38) ∧ (0 ≤ 40000 * elm (S' 7) 30 + (-1) * elm (S' 6) 3) ∧ (ATp (S' 7) (S' 12) 0) ∧ (ATp (S' 7) (S' 12) 1) ∧ (ATp (S' 7) (S' 12) 2) ∧ (ATp (S' 7) (S' 12) 3)) (QB g ad 20) (FA ad 20)) 0 0 (FA ad 20) := by
  refine xmet cX12_anew "EbbWreckModel" (by decide) rfl (Nat.le_of_ble_eq_true rfl) (fun p e s m below meth c E hr hlk hml hQ ls hl => ?_)
  have hx := E.1
  have hb := E.2.1
  have hs : Sp ad 20 (FA ad 20) := Sp.fa hD
  have hl : lv_has ls 2 [(0, .ref (ad 0))] := hl
  obtain ⟨f1, c2, b3⟩ := invM_7 hI
  obtain ⟨v4, ee5⟩ : ∃ z : Int32, f1 1 = z := ⟨_, rfl⟩
  have b6 : Bd v4 (0) (12) := (by rw [← ee5]; exact b3.2.1 1 (by decide))
  obtain ⟨v7, ee8⟩ : ∃ z : Int32, f1 0 = z := ⟨_, rfl⟩
  have b9 : Bd v7 (0) (12) := (by rw [← ee8]; exact b3.1 0 (by decide))
  obtain ⟨v10, ee11⟩ : ∃ z : Int32, f1 3 = z := ⟨_, rfl⟩
  have b12 : Bd v10 (0) (12) := (by rw [← ee11]; exact b3.2.2.2.1 3 (by decide))
  obtain ⟨v13, ee14⟩ : ∃ z : Int32, f1 6 = z := ⟨_, rfl⟩
  have b15 : Bd v13 (0) (8) := (by rw [← ee14]; exact b3.2.2.2.2.1 6 (by decide))
  obtain ⟨v16, ee17⟩ : ∃ z : Int32, f1 8 = z := ⟨_, rfl⟩
  have b18 : Bd v16 (0) (3) := (by rw [← ee17]; exact b3.2.2.2.2.2.2.1 8 (by decide))
  obtain ⟨f19, c20, b21⟩ := invM_6 hI
  obtain ⟨v22, ee23⟩ : ∃ z : Int32, f19 0 = z := ⟨_, rfl⟩
  have b24 : Bd v22 (0) (40000) := (by rw [← ee23]; exact b21 0)
  obtain ⟨v25, ee26⟩ : ∃ z : Int32, f1 11 = z := ⟨_, rfl⟩
  have b27 : Bd v25 (0) (12) := (by rw [← ee26]; exact b3.2.1 11 (by decide))
  obtain ⟨v28, ee29⟩ : ∃ z : Int32, f1 10 = z := ⟨_, rfl⟩
  have b30 : Bd v28 (0) (12) := (by rw [← ee29]; exact b3.1 10 (by decide))
  obtain ⟨v31, ee32⟩ : ∃ z : Int32, f1 13 = z := ⟨_, rfl⟩
  have b33 : Bd v31 (0) (12) := (by rw [← ee32]; exact b3.2.2.2.1 13 (by decide))
  obtain ⟨v34, ee35⟩ : ∃ z : Int32, f1 16 = z := ⟨_, rfl⟩
  have b36 : Bd v34 (0) (8) := (by rw [← ee35]; exact b3.2.2.2.2.1 16 (by decide))
  obtain ⟨v37, ee38⟩ : ∃ z : Int32, f1 18 = z := ⟨_, rfl⟩
  have b39 : Bd v37 (0) (3) := (by rw [← ee38]; exact b3.2.2.2.2.2.2.1 18 (by decide))
  obtain ⟨v40, ee41⟩ : ∃ z : Int32, f19 1 = z := ⟨_, rfl⟩
  have b42 : Bd v40 (0) (40000) := (by rw [← ee41]; exact b21 1)
  obtain ⟨v43, ee44⟩ : ∃ z : Int32, f1 21 = z := ⟨_, rfl⟩
  have b45 : Bd v43 (0) (12) := (by rw [← ee44]; exact b3.2.1 21 (by decide))
  obtain ⟨v46, ee47⟩ : ∃ z : Int32, f1 20 = z := ⟨_, rfl⟩
  have b48 : Bd v46 (0) (12) := (by rw [← ee47]; exact b3.1 20 (by decide))
  obtain ⟨v49, ee50⟩ : ∃ z : Int32, f1 23 = z := ⟨_, rfl⟩
  have b51 : Bd v49 (0) (12) := (by rw [← ee50]; exact b3.2.2.2.1 23 (by decide))
  obtain ⟨v52, ee53⟩ : ∃ z : Int32, f1 26 = z := ⟨_, rfl⟩
  have b54 : Bd v52 (0) (8) := (by rw [← ee53]; exact b3.2.2.2.2.1 26 (by decide))
  obtain ⟨v55, ee56⟩ : ∃ z : Int32, f1 28 = z := ⟨_, rfl⟩
  have b57 : Bd v55 (0) (3) := (by rw [← ee56]; exact b3.2.2.2.2.2.2.1 28 (by decide))
  obtain ⟨v58, ee59⟩ : ∃ z : Int32, f19 2 = z := ⟨_, rfl⟩
  have b60 : Bd v58 (0) (40000) := (by rw [← ee59]; exact b21 2)
  obtain ⟨v61, ee62⟩ : ∃ z : Int32, f1 31 = z := ⟨_, rfl⟩
  have b63 : Bd v61 (0) (12) := (by rw [← ee62]; exact b3.2.1 31 (by decide))
  obtain ⟨v64, ee65⟩ : ∃ z : Int32, f1 30 = z := ⟨_, rfl⟩
  have b66 : Bd v64 (0) (12) := (by rw [← ee65]; exact b3.1 30 (by decide))
  obtain ⟨v67, ee68⟩ : ∃ z : Int32, f1 33 = z := ⟨_, rfl⟩
  have b69 : Bd v67 (0) (12) := (by rw [← ee68]; exact b3.2.2.2.1 33 (by decide))
  obtain ⟨v70, ee71⟩ : ∃ z : Int32, f1 36 = z := ⟨_, rfl⟩
  have b72 : Bd v70 (0) (8) := (by rw [← ee71]; exact b3.2.2.2.2.1 36 (by decide))
  obtain ⟨v73, ee74⟩ : ∃ z : Int32, f1 38 = z := ⟨_, rfl⟩
  have b75 : Bd v73 (0) (3) := (by rw [← ee74]; exact b3.2.2.2.2.2.2.1 38 (by decide))
  obtain ⟨v76, ee77⟩ : ∃ z : Int32, f19 3 = z := ⟨_, rfl⟩
  have b78 : Bd v76 (0) (40000) := (by rw [← ee77]; exact b21 3)
  obtain ⟨v79, ee80⟩ : ∃ z : Int32, f1 9 = z := ⟨_, rfl⟩
  have b81 : Bd v79 (0) (40) := (by rw [← ee80]; exact b3.2.2.2.2.2.2.2 9 (by decide))
  obtain ⟨v82, ee83⟩ : ∃ z : Int32, f1 19 = z := ⟨_, rfl⟩
  have b84 : Bd v82 (0) (40) := (by rw [← ee83]; exact b3.2.2.2.2.2.2.2 19 (by decide))
  obtain ⟨v85, ee86⟩ : ∃ z : Int32, f1 29 = z := ⟨_, rfl⟩
  have b87 : Bd v85 (0) (40) := (by rw [← ee86]; exact b3.2.2.2.2.2.2.2 29 (by decide))
  obtain ⟨v88, ee89⟩ : ∃ z : Int32, f1 39 = z := ⟨_, rfl⟩
  have b90 : Bd v88 (0) (40) := (by rw [← ee89]; exact b3.2.2.2.2.2.2.2 39 (by decide))
  have q91 : elm (S 7) 1 = v4.toInt := (elm_of c2 1).trans (congrArg Int32.toInt (ee5))
  have q92 : elm (S 7) 0 = v7.toInt := (elm_of c2 0).trans (congrArg Int32.toInt (ee8))
  have q93 : elm (S 7) 3 = v10.toInt := (elm_of c2 3).trans (congrArg Int32.toInt (ee11))
  have q94 : elm (S 7) 6 = v13.toInt := (elm_of c2 6).trans (congrArg Int32.toInt (ee14))
  have q95 : elm (S 7) 8 = v16.toInt := (elm_of c2 8).trans (congrArg Int32.toInt (ee17))
  have q96 : elm (S 6) 0 = v22.toInt := (elm_of c20 0).trans (congrArg Int32.toInt (ee23))
  have q97 : elm (S 7) 11 = v25.toInt := (elm_of c2 11).trans (congrArg Int32.toInt (ee26))
  have q98 : elm (S 7) 10 = v28.toInt := (elm_of c2 10).trans (congrArg Int32.toInt (ee29))
  have q99 : elm (S 7) 13 = v31.toInt := (elm_of c2 13).trans (congrArg Int32.toInt (ee32))
  have q100 : elm (S 7) 16 = v34.toInt := (elm_of c2 16).trans (congrArg Int32.toInt (ee35))
  have q101 : elm (S 7) 18 = v37.toInt := (elm_of c2 18).trans (congrArg Int32.toInt (ee38))
  have q102 : elm (S 6) 1 = v40.toInt := (elm_of c20 1).trans (congrArg Int32.toInt (ee41))
  have q103 : elm (S 7) 21 = v43.toInt := (elm_of c2 21).trans (congrArg Int32.toInt (ee44))
  have q104 : elm (S 7) 20 = v46.toInt := (elm_of c2 20).trans (congrArg Int32.toInt (ee47))
  have q105 : elm (S 7) 23 = v49.toInt := (elm_of c2 23).trans (congrArg Int32.toInt (ee50))
  have q106 : elm (S 7) 26 = v52.toInt := (elm_of c2 26).trans (congrArg Int32.toInt (ee53))
  have q107 : elm (S 7) 28 = v55.toInt := (elm_of c2 28).trans (congrArg Int32.toInt (ee56))
  have q108 : elm (S 6) 2 = v58.toInt := (elm_of c20 2).trans (congrArg Int32.toInt (ee59))
  have q109 : elm (S 7) 31 = v61.toInt := (elm_of c2 31).trans (congrArg Int32.toInt (ee62))
  have q110 : elm (S 7) 30 = v64.toInt := (elm_of c2 30).trans (congrArg Int32.toInt (ee65))
  have q111 : elm (S 7) 33 = v67.toInt := (elm_of c2 33).trans (congrArg Int32.toInt (ee68))
  have q112 : elm (S 7) 36 = v70.toInt := (elm_of c2 36).trans (congrArg Int32.toInt (ee71))
  have q113 : elm (S 7) 38 = v73.toInt := (elm_of c2 38).trans (congrArg Int32.toInt (ee74))
  have q114 : elm (S 6) 3 = v76.toInt := (elm_of c20 3).trans (congrArg Int32.toInt (ee77))
  have q115 : elm (S 7) 9 = v79.toInt := (elm_of c2 9).trans (congrArg Int32.toInt (ee80))
  have q116 : elm (S 7) 19 = v82.toInt := (elm_of c2 19).trans (congrArg Int32.toInt (ee83))
  have q117 : elm (S 7) 29 = v85.toInt := (elm_of c2 29).trans (congrArg Int32.toInt (ee86))
  have q118 : elm (S 7) 39 = v88.toInt := (elm_of c2 39).trans (congrArg Int32.toInt (ee89))
  obtain ⟨f119, c120, b121⟩ := invM_12 hI
  refine lv_aload_n hx hb dX12_anew_0 rfl (lv_at hl 0 rfl) ?_
  refine lv_iconst (v := 0) hx hb dX12_anew_1 (by decide) ?_
  obtain ⟨v122, v123, v125, v127, v129, v130, w131, v132, v134, v135, v136, v137, v139, v141, v143, v145, v147, v148, v149, c150, b124, b126, b128, b133, b138, b140, b142, b144, b146⟩ := invM_0 hI
  have c150 : S 0 = .inr (12, [.int v122, .ref (ad 1), .ref (ad 2), .ref (ad 3), .ref (ad 4), .ref (ad 5), .int v123, .int v125, .int v127, .int v129, .int v130, .long w131, .int v132, .int v134, .int v135, .int v136, .ref (ad 6), .ref (ad 7), .ref (ad 8), .ref (ad 9), .ref (ad 10), .ref (ad 11), .ref (ad 12), .ref (ad 13), .ref (ad 14), .ref (ad 15), .int v137, .int v139, .ref (ad 16), .int v141, .int v143, .int v145, .int v147, .int v148, .ref (ad 17), .ref (ad 18), .int v149, .ref (ad 19)]) := c150
  refine xputi E hs hQ 0 (by decide) c150 rfl 0 (by decide) q1468 rfl rfl (Nat.le_of_ble_eq_true rfl) dX12_anew_2 (fun H locs S151 eS151 hQ => ?_)
  have hI := invM_up_0 hI eS151 ⟨0, v123, v125, v127, v129, v130, w131, v132, v134, v135, v136, v137, v139, v141, v143, v145, v147, v148, v149, rfl, b124, b126, b128, b133, b138, b140, b142, b144, b146⟩
  have c152 : S151 0 = .inr (12, [.int 0, .ref (ad 1), .ref (ad 2), .ref (ad 3), .ref (ad 4), .ref (ad 5), .int v123, .int v125, .int v127, .int v129, .int v130, .long w131, .int v132, .int v134, .int v135, .int v136, .ref (ad 6), .ref (ad 7), .ref (ad 8), .ref (ad 9), .ref (ad 10), .ref (ad 11), .ref (ad 12), .ref (ad 13), .ref (ad 14), .ref (ad 15), .int v137, .int v139, .ref (ad 16), .int v141, .int v143, .int v145, .int v147, .int v148, .ref (ad 17), .ref (ad 18), .int v149, .ref (ad 19)]) := up_at eS151 rfl
  refine lv_aload_n hx hb dX12_anew_5 rfl (lv_at hl 0 rfl) ?_
  have c153 : S151 6 = .inl (g.2 0, 5, .inl f19) := (up_ne eS151 (by decide) c20)
  refine xcVi E hs hQ hml hl.1 0 (gX12_isShore_0 l g ad hD S151 hI ) mX12_isShore q1782 (by decide) c152 rfl rfl ⟨(Nat.le_of_ble_eq_true rfl), (Nat.le_of_ble_eq_true rfl)⟩ ⟨(Nat.le_of_ble_eq_true rfl), (Nat.le_of_ble_eq_true rfl)⟩ (Nat.le_of_ble_eq_true rfl) rfl dX12_anew_6 (fun r154 S154 H locs hp154 hQ _ => ?_)
  obtain ⟨rfl, b154, g154_0⟩ := hp154
  have q155 : elm (S151 6) 0 = v22.toInt := (elm_of c153 0).trans (congrArg Int32.toInt (ee23))
  refine lv_if_ne (tgt := 15) hx hb dX12_anew_9 (by decide) (fun k156 => ?_) (fun k156 => ?_)
  · have h157 := ib_ne k156
    have b158 : Bd r154 (1) (1) := rf_nlo b154 (by decide : Bd 0 (0) (0)) h157
    have g159 := g154_0.resolve_left (by omega)
    clear g154_0
    have b160 : Bd v22 (1) (40000) := ⟨by omega, (b24).2⟩
    refine lv_aload_n hx hb dX12_anew_15 rfl (lv_at hl 0 rfl) ?_
    refine xget E hQ 0 (by decide) c152 rfl 17 (by decide) q1485 rfl dX12_anew_16 ?_
    refine lv_bipush (v := 9) hx hb dX12_anew_19 (by decide) ?_
    have c161 : S151 7 = .inl (g.2 0, 50, .inl f1) := (up_ne eS151 (by decide) c2)
    refine xiald E hQ 7 (by decide) c161 (vp_in_lit 9 50 (by decide)) dX12_anew_21 ?_
    refine sb_at (P := fun z => W _ _ _ _ _ _ _ _ _ _ _ _ _ _ _ (F0 _ _ _ (.int z :: _))) (show f1 (9 : Int32).toNatClampNeg = v79 from ee80) ?_
    refine lv_istore_n (lv' := [(1, .int v79), (0, .ref (ad 0))]) hx hb dX12_anew_22 rfl hl (by decide) rfl (fun ls hl => ?_)
    refine lv_aload_n hx hb dX12_anew_23 rfl (lv_at hl 1 rfl) ?_
    refine xget E hQ 0 (by decide) c152 rfl 17 (by decide) q1485 rfl dX12_anew_24 ?_
    refine lv_bipush (v := 9) hx hb dX12_anew_27 (by decide) ?_
    refine lv_iconst (v := 0) hx hb dX12_anew_29 (by decide) ?_
    refine xiast E hs hQ 7 (by decide) c161 (vp_in_lit 9 50 (by decide)) dX12_anew_30 (fun H locs S162 eS162 hQ => ?_)
    have hI := invM_up_7 hI eS162 ⟨_, rfl, ⟨upd_mn b3.1 (by decide), upd_mn b3.2.1 (by decide), upd_mn b3.2.2.1 (by decide), upd_mn b3.2.2.2.1 (by decide), upd_mn b3.2.2.2.2.1 (by decide), upd_mn b3.2.2.2.2.2.1 (by decide), upd_mn b3.2.2.2.2.2.2.1 (by decide), upd_m b3.2.2.2.2.2.2.2 (ib_wk (by decide : Bd 0 (0) (0)) (by decide) (by decide))⟩⟩
    have b164 : (∀ j, j % 10 = 0 → Bd ((upd f1 (9 : Int32).toNatClampNeg 0) j) (0) (12)) ∧ (∀ j, j % 10 = 1 → Bd ((upd f1 (9 : Int32).toNatClampNeg 0) j) (0) (12)) ∧ (∀ j, j % 10 = 2 → Bd ((upd f1 (9 : Int32).toNatClampNeg 0) j) (0) (6)) ∧ (∀ j, j % 10 = 3 → Bd ((upd f1 (9 : Int32).toNatClampNeg 0) j) (0) (12)) ∧ (∀ j, j % 10 = 6 → Bd ((upd f1 (9 : Int32).toNatClampNeg 0) j) (0) (8)) ∧ (∀ j, j % 10 = 7 → Bd ((upd f1 (9 : Int32).toNatClampNeg 0) j) (0) (6)) ∧ (∀ j, j % 10 = 8 → Bd ((upd f1 (9 : Int32).toNatClampNeg 0) j) (0) (3)) ∧ (∀ j, j % 10 = 9 → Bd ((upd f1 (9 : Int32).toNatClampNeg 0) j) (0) (40)) := ⟨upd_mn b3.1 (by decide), upd_mn b3.2.1 (by decide), upd_mn b3.2.2.1 (by decide), upd_mn b3.2.2.2.1 (by decide), upd_mn b3.2.2.2.2.1 (by decide), upd_mn b3.2.2.2.2.2.1 (by decide), upd_mn b3.2.2.2.2.2.2.1 (by decide), upd_m b3.2.2.2.2.2.2.2 (ib_wk (by decide : Bd 0 (0) (0)) (by decide) (by decide))⟩
    have c163 : S162 7 = .inl (g.2 0, 50, .inl (upd f1 (9 : Int32).toNatClampNeg 0)) := up_at eS162 rfl
    refine lv_iload_n hx hb dX12_anew_31 rfl (lv_at hl 0 rfl) ?_
    have q165 : elm (S162 7) 1 = v4.toInt := (elm_of c163 1).trans (congrArg Int32.toInt (((upd_o (by decide)).trans (ee5))))
    have q166 : elm (S162 7) 0 = v7.toInt := (elm_of c163 0).trans (congrArg Int32.toInt (((upd_o (by decide)).trans (ee8))))
    have q167 : elm (S162 7) 3 = v10.toInt := (elm_of c163 3).trans (congrArg Int32.toInt (((upd_o (by decide)).trans (ee11))))
    have q168 : elm (S162 7) 6 = v13.toInt := (elm_of c163 6).trans (congrArg Int32.toInt (((upd_o (by decide)).trans (ee14))))
    have q169 : elm (S162 7) 8 = v16.toInt := (elm_of c163 8).trans (congrArg Int32.toInt (((upd_o (by decide)).trans (ee17))))
    have c170 : S162 6 = .inl (g.2 0, 5, .inl f19) := (up_ne eS162 (by decide) c153)
    have q171 : elm (S162 6) 0 = v22.toInt := (elm_of c170 0).trans (congrArg Int32.toInt (ee23))
    have q172 : elm (S162 7) 11 = v25.toInt := (elm_of c163 11).trans (congrArg Int32.toInt (((upd_o (by decide)).trans (ee26))))
    have q173 : elm (S162 7) 10 = v28.toInt := (elm_of c163 10).trans (congrArg Int32.toInt (((upd_o (by decide)).trans (ee29))))
    have q174 : elm (S162 7) 13 = v31.toInt := (elm_of c163 13).trans (congrArg Int32.toInt (((upd_o (by decide)).trans (ee32))))
    have q175 : elm (S162 7) 16 = v34.toInt := (elm_of c163 16).trans (congrArg Int32.toInt (((upd_o (by decide)).trans (ee35))))
    have q176 : elm (S162 7) 18 = v37.toInt := (elm_of c163 18).trans (congrArg Int32.toInt (((upd_o (by decide)).trans (ee38))))
    have q177 : elm (S162 6) 1 = v40.toInt := (elm_of c170 1).trans (congrArg Int32.toInt (ee41))
    have q178 : elm (S162 7) 21 = v43.toInt := (elm_of c163 21).trans (congrArg Int32.toInt (((upd_o (by decide)).trans (ee44))))
    have q179 : elm (S162 7) 20 = v46.toInt := (elm_of c163 20).trans (congrArg Int32.toInt (((upd_o (by decide)).trans (ee47))))
    have q180 : elm (S162 7) 23 = v49.toInt := (elm_of c163 23).trans (congrArg Int32.toInt (((upd_o (by decide)).trans (ee50))))
    have q181 : elm (S162 7) 26 = v52.toInt := (elm_of c163 26).trans (congrArg Int32.toInt (((upd_o (by decide)).trans (ee53))))
    have q182 : elm (S162 7) 28 = v55.toInt := (elm_of c163 28).trans (congrArg Int32.toInt (((upd_o (by decide)).trans (ee56))))
    have q183 : elm (S162 6) 2 = v58.toInt := (elm_of c170 2).trans (congrArg Int32.toInt (ee59))
    have q184 : elm (S162 7) 31 = v61.toInt := (elm_of c163 31).trans (congrArg Int32.toInt (((upd_o (by decide)).trans (ee62))))
    have q185 : elm (S162 7) 30 = v64.toInt := (elm_of c163 30).trans (congrArg Int32.toInt (((upd_o (by decide)).trans (ee65))))
    have q186 : elm (S162 7) 33 = v67.toInt := (elm_of c163 33).trans (congrArg Int32.toInt (((upd_o (by decide)).trans (ee68))))
    have q187 : elm (S162 7) 36 = v70.toInt := (elm_of c163 36).trans (congrArg Int32.toInt (((upd_o (by decide)).trans (ee71))))
    have q188 : elm (S162 7) 38 = v73.toInt := (elm_of c163 38).trans (congrArg Int32.toInt (((upd_o (by decide)).trans (ee74))))
    have q189 : elm (S162 6) 3 = v76.toInt := (elm_of c170 3).trans (congrArg Int32.toInt (ee77))
    have q190 : elm (S162 7) 9 = 0 := (elm_of c163 9).trans ((congrArg Int32.toInt ((upd_s))).trans (by decide))
    have q191 : elm (S162 7) 19 = v82.toInt := (elm_of c163 19).trans (congrArg Int32.toInt (((upd_o (by decide)).trans (ee83))))
    have q192 : elm (S162 7) 29 = v85.toInt := (elm_of c163 29).trans (congrArg Int32.toInt (((upd_o (by decide)).trans (ee86))))
    have q193 : elm (S162 7) 39 = v88.toInt := (elm_of c163 39).trans (congrArg Int32.toInt (((upd_o (by decide)).trans (ee89))))
    exact xri E hr hlk hQ (⟨hI, (up_o (up_o o_refl eS151 (by decide)) eS162 (by decide)), (ib_wk b81 (by decide) (by decide)), (by omega), (by omega), (by omega), (by omega), (by omega), (by omega), (by omega), (by omega), (by omega), (by omega), (by omega), (by omega), (by omega), (by omega), (by omega), (by omega), (by omega), (by omega), (by omega), (by omega), (at_mono hAT0 (by show elm _ 9 ≤ elm _ 9; omega) ((up_eq (j := 12) eS162 (by decide)).trans (up_eq (j := 12) eS151 (by decide)))), (at_mono hAT1 (by show elm _ 19 ≤ elm _ 19; omega) ((up_eq (j := 12) eS162 (by decide)).trans (up_eq (j := 12) eS151 (by decide)))), (at_mono hAT2 (by show elm _ 29 ≤ elm _ 29; omega) ((up_eq (j := 12) eS162 (by decide)).trans (up_eq (j := 12) eS151 (by decide)))), (at_mono hAT3 (by show elm _ 39 ≤ elm _ 39; omega) ((up_eq (j := 12) eS162 (by decide)).trans (up_eq (j := 12) eS151 (by decide))))⟩) dX12_anew_32
  · have h194 := ib_eq k156
    have b195 : Bd r154 (0) (0) := ⟨(b154).1, ((rf_eq b154 (by decide : Bd 0 (0) (0)) h194).1).2⟩
    clear g154_0
    refine lv_bipush (v := (-2)) hx hb dX12_anew_12 (by decide) ?_
    have c196 : S151 7 = .inl (g.2 0, 50, .inl f1) := (up_ne eS151 (by decide) c2)
    have q197 : elm (S151 7) 1 = v4.toInt := (elm_of c196 1).trans (congrArg Int32.toInt (ee5))
    have q198 : elm (S151 7) 0 = v7.toInt := (elm_of c196 0).trans (congrArg Int32.toInt (ee8))
    have q199 : elm (S151 7) 3 = v10.toInt := (elm_of c196 3).trans (congrArg Int32.toInt (ee11))
    have q200 : elm (S151 7) 6 = v13.toInt := (elm_of c196 6).trans (congrArg Int32.toInt (ee14))
    have q201 : elm (S151 7) 8 = v16.toInt := (elm_of c196 8).trans (congrArg Int32.toInt (ee17))
    have q202 : elm (S151 7) 11 = v25.toInt := (elm_of c196 11).trans (congrArg Int32.toInt (ee26))
    have q203 : elm (S151 7) 10 = v28.toInt := (elm_of c196 10).trans (congrArg Int32.toInt (ee29))
    have q204 : elm (S151 7) 13 = v31.toInt := (elm_of c196 13).trans (congrArg Int32.toInt (ee32))
    have q205 : elm (S151 7) 16 = v34.toInt := (elm_of c196 16).trans (congrArg Int32.toInt (ee35))
    have q206 : elm (S151 7) 18 = v37.toInt := (elm_of c196 18).trans (congrArg Int32.toInt (ee38))
    have q207 : elm (S151 6) 1 = v40.toInt := (elm_of c153 1).trans (congrArg Int32.toInt (ee41))
    have q208 : elm (S151 7) 21 = v43.toInt := (elm_of c196 21).trans (congrArg Int32.toInt (ee44))
    have q209 : elm (S151 7) 20 = v46.toInt := (elm_of c196 20).trans (congrArg Int32.toInt (ee47))
    have q210 : elm (S151 7) 23 = v49.toInt := (elm_of c196 23).trans (congrArg Int32.toInt (ee50))
    have q211 : elm (S151 7) 26 = v52.toInt := (elm_of c196 26).trans (congrArg Int32.toInt (ee53))
    have q212 : elm (S151 7) 28 = v55.toInt := (elm_of c196 28).trans (congrArg Int32.toInt (ee56))
    have q213 : elm (S151 6) 2 = v58.toInt := (elm_of c153 2).trans (congrArg Int32.toInt (ee59))
    have q214 : elm (S151 7) 31 = v61.toInt := (elm_of c196 31).trans (congrArg Int32.toInt (ee62))
    have q215 : elm (S151 7) 30 = v64.toInt := (elm_of c196 30).trans (congrArg Int32.toInt (ee65))
    have q216 : elm (S151 7) 33 = v67.toInt := (elm_of c196 33).trans (congrArg Int32.toInt (ee68))
    have q217 : elm (S151 7) 36 = v70.toInt := (elm_of c196 36).trans (congrArg Int32.toInt (ee71))
    have q218 : elm (S151 7) 38 = v73.toInt := (elm_of c196 38).trans (congrArg Int32.toInt (ee74))
    have q219 : elm (S151 6) 3 = v76.toInt := (elm_of c153 3).trans (congrArg Int32.toInt (ee77))
    exact xri E hr hlk hQ (⟨hI, (up_o o_refl eS151 (by decide)), (ib_wk (by decide : Bd (-2) (-2) (-2)) (by decide) (by decide)), (by omega), (by omega), (by omega), (by omega), (by omega), (by omega), (by omega), (by omega), (by omega), (by omega), (by omega), (by omega), (by omega), (by omega), (by omega), (by omega), (by omega), (by omega), (by omega), (by omega), (at_tr hAT0 (up_eq (j := 7) eS151 (by decide)) (up_eq (j := 12) eS151 (by decide))), (at_tr hAT1 (up_eq (j := 7) eS151 (by decide)) (up_eq (j := 12) eS151 (by decide))), (at_tr hAT2 (up_eq (j := 7) eS151 (by decide)) (up_eq (j := 12) eS151 (by decide))), (at_tr hAT3 (up_eq (j := 7) eS151 (by decide)) (up_eq (j := 12) eS151 (by decide)))⟩) dX12_anew_14
set_option maxHeartbeats 4000000 in
set_option maxRecDepth 100000 in
theorem gX12_image_0 (l : Launch) (g : GG) (ad : Nat → Nat) (hD : Dj ad 20) (S : SS) (hI : InvM g ad S) (a1 : Int32) (hq1 : 0 ≤ 12 * elm (S 7) 1 + (-1) * elm (S 7) 0) (hq2 : 0 ≤ 12 * elm (S 7) 3 + (-1) * elm (S 7) 0) (hq3 : 0 ≤ 8 * elm (S 7) 0 + (-1) * elm (S 7) 6) (hq4 : 0 ≤ 3 * elm (S 7) 0 + (-1) * elm (S 7) 8) (hq5 : 0 ≤ 40000 * elm (S 7) 0 + (-1) * elm (S 6) 0) (hq6 : 0 ≤ 12 * elm (S 7) 11 + (-1) * elm (S 7) 10) (hq7 : 0 ≤ 12 * elm (S 7) 13 + (-1) * elm (S 7) 10) (hq8 : 0 ≤ 8 * elm (S 7) 10 + (-1) * elm (S 7) 16) (hq9 : 0 ≤ 3 * elm (S 7) 10 + (-1) * elm (S 7) 18) (hq10 : 0 ≤ 40000 * elm (S 7) 10 + (-1) * elm (S 6) 1) (hq11 : 0 ≤ 12 * elm (S 7) 21 + (-1) * elm (S 7) 20) (hq12 : 0 ≤ 12 * elm (S 7) 23 + (-1) * elm (S 7) 20) (hq13 : 0 ≤ 8 * elm (S 7) 20 + (-1) * elm (S 7) 26) (hq14 : 0 ≤ 3 * elm (S 7) 20 + (-1) * elm (S 7) 28) (hq15 : 0 ≤ 40000 * elm (S 7) 20 + (-1) * elm (S 6) 2) (hq16 : 0 ≤ 12 * elm (S 7) 31 + (-1) * elm (S 7) 30) (hq17 : 0 ≤ 12 * elm (S 7) 33 + (-1) * elm (S 7) 30) (hq18 : 0 ≤ 8 * elm (S 7) 30 + (-1) * elm (S 7) 36) (hq19 : 0 ≤ 3 * elm (S 7) 30 + (-1) * elm (S 7) 38) (hq20 : 0 ≤ 40000 * elm (S 7) 30 + (-1) * elm (S 6) 3) (hAT0 : ATp (S 7) (S 12) 0) (hAT1 : ATp (S 7) (S 12) 1) (hAT2 : ATp (S 7) (S 12) 2) (hAT3 : ATp (S 7) (S 12) 3) : Met l yX12_image (wG (.code yX12_image cX12_image 2 (some .int))) (Rm 2) (XPre g ad 20 S [.ref (ad 0), .int a1]) (va_Qi (fun r S' => InvM g ad S' ∧ (∀ j, j ∉ ([0, 6, 7, 8, 9, 10, 11, 12, 13] : List Nat) → S' j = S j) ∧ Bd r (-2) (0) ∧ (0 ≤ 12 * elm (S' 7) 1 + (-1) * elm (S' 7) 0) ∧ (0 ≤ 12 * elm (S' 7) 3 + (-1) * elm (S' 7) 0) ∧ (0 ≤ 8 * elm (S' 7) 0 + (-1) * elm (S' 7) 6) ∧ (0 ≤ 3 * elm (S' 7) 0 + (-1) * elm (S' 7) 8) ∧ (0 ≤ 40000 * elm (S' 7) 0 + (-1) * elm (S' 6) 0) ∧ (0 ≤ 12 * elm (S' 7) 11 + (-1) * elm (S' 7) 10) ∧ (0 ≤ 12 * elm (S' 7) 13 + (-1) * elm (S' 7) 10) ∧ (0 ≤ 8 * elm (S' 7) 10 + (-1) * elm (S' 7) 16) ∧ (0 ≤ 3 * elm (S' 7) 10 + (-1) * elm (S' 7) 18) ∧ (0 ≤ 40000 * elm (S' 7) 10 + (-1) * elm (S' 6) 1) ∧ (0 ≤ 12 * elm (S' 7) 21 + (-1) * elm (S' 7) 20) ∧ (0 ≤ 12 * elm (S' 7) 23 + (-1) * elm (S' 7) 20) ∧ (0 ≤ 8 * elm (S' 7) 20 + (-1) * elm (S' 7) 26) ∧ (0 ≤ 3 * elm (S' 7) 20 + (-1) * elm (S' 7) 28) ∧ (0 ≤ 40000 * elm (S' 7) 20 + (-1) * elm (S' 6) 2) ∧ (0 ≤ 12 * elm (S' 7) 31 + (-1) * elm (S' 7) 30) ∧ (0 ≤ 12 * elm (S' 7) 33 + (-1) * elm (S' 7) 30) ∧ (0 ≤ 8 * elm (S' 7) 30 + (-1) * elm (S' 7) 36) ∧ (0 ≤ 3 * elm (S' 7) 30 + (-1) * elm (S' 7) 38) ∧ (0 ≤ 40000 * elm (S' 7) 30 + (-1) * elm (S' 6) 3) ∧ (ATp (S' 7) (S' 12) 0) ∧ (ATp (S' 7) (S' 12) 1) ∧ (ATp (S' 7) (S' 12) 2) ∧ (ATp (S' 7) (S' 12) 3)) (QB g ad 20) (FA ad 20)) 0 0 (FA ad 20) := by
  refine xmet cX12_image "EbbWreckModel" (by decide) rfl (Nat.le_of_ble_eq_true rfl) (fun p e s m below meth c E hr hlk hml hQ ls hl => ?_)
  have hx := E.1
  have hb := E.2.1
  have hs : Sp ad 20 (FA ad 20) := Sp.fa hD
  have hl : lv_has ls 2 [(0, .ref (ad 0)), (1, .int a1)] := hl
  obtain ⟨f1, c2, b3⟩ := invM_7 hI
  obtain ⟨v4, ee5⟩ : ∃ z : Int32, f1 1 = z := ⟨_, rfl⟩
  have b6 : Bd v4 (0) (12) := (by rw [← ee5]; exact b3.2.1 1 (by decide))
  obtain ⟨v7, ee8⟩ : ∃ z : Int32, f1 0 = z := ⟨_, rfl⟩
  have b9 : Bd v7 (0) (12) := (by rw [← ee8]; exact b3.1 0 (by decide))
  obtain ⟨v10, ee11⟩ : ∃ z : Int32, f1 3 = z := ⟨_, rfl⟩
  have b12 : Bd v10 (0) (12) := (by rw [← ee11]; exact b3.2.2.2.1 3 (by decide))
  obtain ⟨v13, ee14⟩ : ∃ z : Int32, f1 6 = z := ⟨_, rfl⟩
  have b15 : Bd v13 (0) (8) := (by rw [← ee14]; exact b3.2.2.2.2.1 6 (by decide))
  obtain ⟨v16, ee17⟩ : ∃ z : Int32, f1 8 = z := ⟨_, rfl⟩
  have b18 : Bd v16 (0) (3) := (by rw [← ee17]; exact b3.2.2.2.2.2.2.1 8 (by decide))
  obtain ⟨f19, c20, b21⟩ := invM_6 hI
  obtain ⟨v22, ee23⟩ : ∃ z : Int32, f19 0 = z := ⟨_, rfl⟩
  have b24 : Bd v22 (0) (40000) := (by rw [← ee23]; exact b21 0)
  obtain ⟨v25, ee26⟩ : ∃ z : Int32, f1 11 = z := ⟨_, rfl⟩
  have b27 : Bd v25 (0) (12) := (by rw [← ee26]; exact b3.2.1 11 (by decide))
  obtain ⟨v28, ee29⟩ : ∃ z : Int32, f1 10 = z := ⟨_, rfl⟩
  have b30 : Bd v28 (0) (12) := (by rw [← ee29]; exact b3.1 10 (by decide))
  obtain ⟨v31, ee32⟩ : ∃ z : Int32, f1 13 = z := ⟨_, rfl⟩
  have b33 : Bd v31 (0) (12) := (by rw [← ee32]; exact b3.2.2.2.1 13 (by decide))
  obtain ⟨v34, ee35⟩ : ∃ z : Int32, f1 16 = z := ⟨_, rfl⟩
  have b36 : Bd v34 (0) (8) := (by rw [← ee35]; exact b3.2.2.2.2.1 16 (by decide))
  obtain ⟨v37, ee38⟩ : ∃ z : Int32, f1 18 = z := ⟨_, rfl⟩
  have b39 : Bd v37 (0) (3) := (by rw [← ee38]; exact b3.2.2.2.2.2.2.1 18 (by decide))
  obtain ⟨v40, ee41⟩ : ∃ z : Int32, f19 1 = z := ⟨_, rfl⟩
  have b42 : Bd v40 (0) (40000) := (by rw [← ee41]; exact b21 1)
  obtain ⟨v43, ee44⟩ : ∃ z : Int32, f1 21 = z := ⟨_, rfl⟩
  have b45 : Bd v43 (0) (12) := (by rw [← ee44]; exact b3.2.1 21 (by decide))
  obtain ⟨v46, ee47⟩ : ∃ z : Int32, f1 20 = z := ⟨_, rfl⟩
  have b48 : Bd v46 (0) (12) := (by rw [← ee47]; exact b3.1 20 (by decide))
  obtain ⟨v49, ee50⟩ : ∃ z : Int32, f1 23 = z := ⟨_, rfl⟩
  have b51 : Bd v49 (0) (12) := (by rw [← ee50]; exact b3.2.2.2.1 23 (by decide))
  obtain ⟨v52, ee53⟩ : ∃ z : Int32, f1 26 = z := ⟨_, rfl⟩
  have b54 : Bd v52 (0) (8) := (by rw [← ee53]; exact b3.2.2.2.2.1 26 (by decide))
  obtain ⟨v55, ee56⟩ : ∃ z : Int32, f1 28 = z := ⟨_, rfl⟩
  have b57 : Bd v55 (0) (3) := (by rw [← ee56]; exact b3.2.2.2.2.2.2.1 28 (by decide))
  obtain ⟨v58, ee59⟩ : ∃ z : Int32, f19 2 = z := ⟨_, rfl⟩
  have b60 : Bd v58 (0) (40000) := (by rw [← ee59]; exact b21 2)
  obtain ⟨v61, ee62⟩ : ∃ z : Int32, f1 31 = z := ⟨_, rfl⟩
  have b63 : Bd v61 (0) (12) := (by rw [← ee62]; exact b3.2.1 31 (by decide))
  obtain ⟨v64, ee65⟩ : ∃ z : Int32, f1 30 = z := ⟨_, rfl⟩
  have b66 : Bd v64 (0) (12) := (by rw [← ee65]; exact b3.1 30 (by decide))
  obtain ⟨v67, ee68⟩ : ∃ z : Int32, f1 33 = z := ⟨_, rfl⟩
  have b69 : Bd v67 (0) (12) := (by rw [← ee68]; exact b3.2.2.2.1 33 (by decide))
  obtain ⟨v70, ee71⟩ : ∃ z : Int32, f1 36 = z := ⟨_, rfl⟩
  have b72 : Bd v70 (0) (8) := (by rw [← ee71]; exact b3.2.2.2.2.1 36 (by decide))
  obtain ⟨v73, ee74⟩ : ∃ z : Int32, f1 38 = z := ⟨_, rfl⟩
  have b75 : Bd v73 (0) (3) := (by rw [← ee74]; exact b3.2.2.2.2.2.2.1 38 (by decide))
  obtain ⟨v76, ee77⟩ : ∃ z : Int32, f19 3 = z := ⟨_, rfl⟩
  have b78 : Bd v76 (0) (40000) := (by rw [← ee77]; exact b21 3)
  have q79 : elm (S 7) 1 = v4.toInt := (elm_of c2 1).trans (congrArg Int32.toInt (ee5))
  have q80 : elm (S 7) 0 = v7.toInt := (elm_of c2 0).trans (congrArg Int32.toInt (ee8))
  have q81 : elm (S 7) 3 = v10.toInt := (elm_of c2 3).trans (congrArg Int32.toInt (ee11))
  have q82 : elm (S 7) 6 = v13.toInt := (elm_of c2 6).trans (congrArg Int32.toInt (ee14))
  have q83 : elm (S 7) 8 = v16.toInt := (elm_of c2 8).trans (congrArg Int32.toInt (ee17))
  have q84 : elm (S 6) 0 = v22.toInt := (elm_of c20 0).trans (congrArg Int32.toInt (ee23))
  have q85 : elm (S 7) 11 = v25.toInt := (elm_of c2 11).trans (congrArg Int32.toInt (ee26))
  have q86 : elm (S 7) 10 = v28.toInt := (elm_of c2 10).trans (congrArg Int32.toInt (ee29))
  have q87 : elm (S 7) 13 = v31.toInt := (elm_of c2 13).trans (congrArg Int32.toInt (ee32))
  have q88 : elm (S 7) 16 = v34.toInt := (elm_of c2 16).trans (congrArg Int32.toInt (ee35))
  have q89 : elm (S 7) 18 = v37.toInt := (elm_of c2 18).trans (congrArg Int32.toInt (ee38))
  have q90 : elm (S 6) 1 = v40.toInt := (elm_of c20 1).trans (congrArg Int32.toInt (ee41))
  have q91 : elm (S 7) 21 = v43.toInt := (elm_of c2 21).trans (congrArg Int32.toInt (ee44))
  have q92 : elm (S 7) 20 = v46.toInt := (elm_of c2 20).trans (congrArg Int32.toInt (ee47))
  have q93 : elm (S 7) 23 = v49.toInt := (elm_of c2 23).trans (congrArg Int32.toInt (ee50))
  have q94 : elm (S 7) 26 = v52.toInt := (elm_of c2 26).trans (congrArg Int32.toInt (ee53))
  have q95 : elm (S 7) 28 = v55.toInt := (elm_of c2 28).trans (congrArg Int32.toInt (ee56))
  have q96 : elm (S 6) 2 = v58.toInt := (elm_of c20 2).trans (congrArg Int32.toInt (ee59))
  have q97 : elm (S 7) 31 = v61.toInt := (elm_of c2 31).trans (congrArg Int32.toInt (ee62))
  have q98 : elm (S 7) 30 = v64.toInt := (elm_of c2 30).trans (congrArg Int32.toInt (ee65))
  have q99 : elm (S 7) 33 = v67.toInt := (elm_of c2 33).trans (congrArg Int32.toInt (ee68))
  have q100 : elm (S 7) 36 = v70.toInt := (elm_of c2 36).trans (congrArg Int32.toInt (ee71))
  have q101 : elm (S 7) 38 = v73.toInt := (elm_of c2 38).trans (congrArg Int32.toInt (ee74))
  have q102 : elm (S 6) 3 = v76.toInt := (elm_of c20 3).trans (congrArg Int32.toInt (ee77))
  obtain ⟨f103, c104, b105⟩ := invM_12 hI
  obtain ⟨v106, ee107⟩ : ∃ z : Int32, f1 9 = z := ⟨_, rfl⟩
  have b108 : Bd v106 (0) (40) := (by rw [← ee107]; exact b3.2.2.2.2.2.2.2 9 (by decide))
  obtain ⟨v109, ee110⟩ : ∃ z : Int32, f1 19 = z := ⟨_, rfl⟩
  have b111 : Bd v109 (0) (40) := (by rw [← ee110]; exact b3.2.2.2.2.2.2.2 19 (by decide))
  obtain ⟨v112, ee113⟩ : ∃ z : Int32, f1 29 = z := ⟨_, rfl⟩
  have b114 : Bd v112 (0) (40) := (by rw [← ee113]; exact b3.2.2.2.2.2.2.2 29 (by decide))
  obtain ⟨v115, ee116⟩ : ∃ z : Int32, f1 39 = z := ⟨_, rfl⟩
  have b117 : Bd v115 (0) (40) := (by rw [← ee116]; exact b3.2.2.2.2.2.2.2 39 (by decide))
  refine lv_aload_n hx hb dX12_image_0 rfl (lv_at hl 0 rfl) ?_
  refine lv_iconst (v := 0) hx hb dX12_image_1 (by decide) ?_
  obtain ⟨v118, v119, v121, v123, v125, v126, w127, v128, v130, v131, v132, v133, v135, v137, v139, v141, v143, v144, v145, c146, b120, b122, b124, b129, b134, b136, b138, b140, b142⟩ := invM_0 hI
  have c146 : S 0 = .inr (12, [.int v118, .ref (ad 1), .ref (ad 2), .ref (ad 3), .ref (ad 4), .ref (ad 5), .int v119, .int v121, .int v123, .int v125, .int v126, .long w127, .int v128, .int v130, .int v131, .int v132, .ref (ad 6), .ref (ad 7), .ref (ad 8), .ref (ad 9), .ref (ad 10), .ref (ad 11), .ref (ad 12), .ref (ad 13), .ref (ad 14), .ref (ad 15), .int v133, .int v135, .ref (ad 16), .int v137, .int v139, .int v141, .int v143, .int v144, .ref (ad 17), .ref (ad 18), .int v145, .ref (ad 19)]) := c146
  refine xputi E hs hQ 0 (by decide) c146 rfl 0 (by decide) q1468 rfl rfl (Nat.le_of_ble_eq_true rfl) dX12_image_2 (fun H locs S147 eS147 hQ => ?_)
  have hI := invM_up_0 hI eS147 ⟨0, v119, v121, v123, v125, v126, w127, v128, v130, v131, v132, v133, v135, v137, v139, v141, v143, v144, v145, rfl, b120, b122, b124, b129, b134, b136, b138, b140, b142⟩
  have c148 : S147 0 = .inr (12, [.int 0, .ref (ad 1), .ref (ad 2), .ref (ad 3), .ref (ad 4), .ref (ad 5), .int v119, .int v121, .int v123, .int v125, .int v126, .long w127, .int v128, .int v130, .int v131, .int v132, .ref (ad 6), .ref (ad 7), .ref (ad 8), .ref (ad 9), .ref (ad 10), .ref (ad 11), .ref (ad 12), .ref (ad 13), .ref (ad 14), .ref (ad 15), .int v133, .int v135, .ref (ad 16), .int v137, .int v139, .int v141, .int v143, .int v144, .ref (ad 17), .ref (ad 18), .int v145, .ref (ad 19)]) := up_at eS147 rfl
  refine lv_iload_n hx hb dX12_image_5 rfl (lv_at hl 1 rfl) ?_
  refine lv_i2l hx hb dX12_image_6 rfl ?_
  refine lv_topl (fun w149 e150 => ?_)
  have t151 : w149.toInt = a1.toInt := by rw [e150]; exact i2l_i _
  have b152 : BdL w149 (-2147483648) (2147483647) := (by have h1 := ((ib_full a1)).1; have h2 := ((ib_full a1)).2; exact ⟨by omega, by omega⟩)
  refine lv_lconst (v := 0) hx hb dX12_image_7 (by decide) ?_
  refine lv_ldc2 (v := 2) hx hb E.2.2.1 (E.2.2.2.1 _ q1754) dX12_image_8 ?_
  refine xcSi E hs hQ hml hl.1 (gX12_in l g ad hD S147 hI w149 0 2) mX12_in q1591 rfl ⟨(Nat.le_of_ble_eq_true rfl), (Nat.le_of_ble_eq_true rfl)⟩ ⟨(Nat.le_of_ble_eq_true rfl), (Nat.le_of_ble_eq_true rfl)⟩ (Nat.le_of_ble_eq_true rfl) rfl dX12_image_11 (fun r153 S153 H locs hp153 hQ => ?_)
  obtain ⟨rfl, b153, g153_0⟩ := hp153
  have q154 : (0 : Int64).toInt = 0 := by decide
  have q155 : (2 : Int64).toInt = 2 := by decide
  refine lv_if_ne (tgt := 20) hx hb dX12_image_14 (by decide) (fun k156 => ?_) (fun k156 => ?_)
  · have h157 := ib_ne k156
    have b158 : Bd r153 (1) (1) := rf_nlo b153 (by decide : Bd 0 (0) (0)) h157
    have g159 := g153_0.resolve_left (by omega)
    clear g153_0
    have b160 : BdL w149 (0) (2) := ⟨by omega, by omega⟩
    have b161 : Bd a1 (0) (2) := ⟨by omega, by omega⟩
    refine lv_aload_n hx hb dX12_image_20 rfl (lv_at hl 0 rfl) ?_
    refine lv_iconst (v := 0) hx hb dX12_image_21 (by decide) ?_
    refine lv_iconst (v := 1) hx hb dX12_image_22 (by decide) ?_
    refine lv_iload_n hx hb dX12_image_23 rfl (lv_at hl 1 rfl) ?_
    refine lv_iadd hx hb dX12_image_24 ?_
    refine lv_topi (fun z162 e163 => ?_)
    have t164 := ib_add e163 (by decide : Bd 1 (1) (1)) b161 (by decide) (by decide)
    have b165 : Bd z162 (1) (3) := ib_addb t164 (by decide : Bd 1 (1) (1)) b161
    have t164 : z162.toInt = 1 + a1.toInt := fold_add t164 (by decide) rfl
    rcases bd_r13 b165 with h166 | h166 | h166
    · subst h166
      have c167 : S147 7 = .inl (g.2 0, 50, .inl f1) := (up_ne eS147 (by decide) c2)
      have c168 : S147 6 = .inl (g.2 0, 5, .inl f19) := (up_ne eS147 (by decide) c20)
      refine xcVv E hs hQ hml hl.1 0 (gX12_copyShore_0_1 l g ad hD S147 hI (at_tr hAT0 (up_eq (j := 7) eS147 (by decide)) (up_eq (j := 12) eS147 (by decide))) (at_tr hAT1 (up_eq (j := 7) eS147 (by decide)) (up_eq (j := 12) eS147 (by decide))) (at_tr hAT2 (up_eq (j := 7) eS147 (by decide)) (up_eq (j := 12) eS147 (by decide))) (at_tr hAT3 (up_eq (j := 7) eS147 (by decide)) (up_eq (j := 12) eS147 (by decide)))) mX12_copyShore q1739 (by decide) c148 rfl rfl ⟨(Nat.le_of_ble_eq_true rfl), (Nat.le_of_ble_eq_true rfl)⟩ ⟨(Nat.le_of_ble_eq_true rfl), (Nat.le_of_ble_eq_true rfl)⟩ (Nat.le_of_ble_eq_true rfl) rfl dX12_image_25 (fun S169 H locs hp169 hQ _ => ?_)
      obtain ⟨hI, o169, g169_0, g169_1, g169_2, g169_3, g169_4, g169_5, g169_6, g169_7, g169_8, g169_9, g169_10, g169_11, g169_12, g169_13, g169_14, g169_15, g169_16, g169_17, g169_18, g169_19, g169_20, g169_21, g169_22, g169_23, g169_24, g169_25, g169_26, g169_27, u169_0, u169_1, u169_2, u169_3⟩ := hp169
      have q170 : elm (S147 7) 0 = v7.toInt := (elm_of c167 0).trans (congrArg Int32.toInt (ee8))
      obtain ⟨f171, c172, b173⟩ := invM_7 hI
      obtain ⟨v174, ee175⟩ : ∃ z : Int32, f171 10 = z := ⟨_, rfl⟩
      have b176 : Bd v174 (0) (12) := (by rw [← ee175]; exact b173.1 10 (by decide))
      have q177 : elm (S169 7) 10 = v174.toInt := (elm_of c172 10).trans (congrArg Int32.toInt (ee175))
      have q178 : elm (S147 7) 1 = v4.toInt := (elm_of c167 1).trans (congrArg Int32.toInt (ee5))
      obtain ⟨v179, ee180⟩ : ∃ z : Int32, f171 11 = z := ⟨_, rfl⟩
      have b181 : Bd v179 (0) (12) := (by rw [← ee180]; exact b173.2.1 11 (by decide))
      have q182 : elm (S169 7) 11 = v179.toInt := (elm_of c172 11).trans (congrArg Int32.toInt (ee180))
      have q183 : elm (S147 7) 3 = v10.toInt := (elm_of c167 3).trans (congrArg Int32.toInt (ee11))
      obtain ⟨v184, ee185⟩ : ∃ z : Int32, f171 13 = z := ⟨_, rfl⟩
      have b186 : Bd v184 (0) (12) := (by rw [← ee185]; exact b173.2.2.2.1 13 (by decide))
      have q187 : elm (S169 7) 13 = v184.toInt := (elm_of c172 13).trans (congrArg Int32.toInt (ee185))
      have q188 : elm (S147 7) 6 = v13.toInt := (elm_of c167 6).trans (congrArg Int32.toInt (ee14))
      obtain ⟨v189, ee190⟩ : ∃ z : Int32, f171 16 = z := ⟨_, rfl⟩
      have b191 : Bd v189 (0) (8) := (by rw [← ee190]; exact b173.2.2.2.2.1 16 (by decide))
      have q192 : elm (S169 7) 16 = v189.toInt := (elm_of c172 16).trans (congrArg Int32.toInt (ee190))
      have q193 : elm (S147 7) 8 = v16.toInt := (elm_of c167 8).trans (congrArg Int32.toInt (ee17))
      obtain ⟨v194, ee195⟩ : ∃ z : Int32, f171 18 = z := ⟨_, rfl⟩
      have b196 : Bd v194 (0) (3) := (by rw [← ee195]; exact b173.2.2.2.2.2.2.1 18 (by decide))
      have q197 : elm (S169 7) 18 = v194.toInt := (elm_of c172 18).trans (congrArg Int32.toInt (ee195))
      have q198 : elm (S147 7) 9 = v106.toInt := (elm_of c167 9).trans (congrArg Int32.toInt (ee107))
      obtain ⟨v199, ee200⟩ : ∃ z : Int32, f171 19 = z := ⟨_, rfl⟩
      have b201 : Bd v199 (0) (40) := (by rw [← ee200]; exact b173.2.2.2.2.2.2.2 19 (by decide))
      have q202 : elm (S169 7) 19 = v199.toInt := (elm_of c172 19).trans (congrArg Int32.toInt (ee200))
      obtain ⟨v203, ee204⟩ : ∃ z : Int32, f171 0 = z := ⟨_, rfl⟩
      have b205 : Bd v203 (0) (12) := (by rw [← ee204]; exact b173.1 0 (by decide))
      have q206 : elm (S169 7) 0 = v203.toInt := (elm_of c172 0).trans (congrArg Int32.toInt (ee204))
      obtain ⟨v207, ee208⟩ : ∃ z : Int32, f171 1 = z := ⟨_, rfl⟩
      have b209 : Bd v207 (0) (12) := (by rw [← ee208]; exact b173.2.1 1 (by decide))
      have q210 : elm (S169 7) 1 = v207.toInt := (elm_of c172 1).trans (congrArg Int32.toInt (ee208))
      obtain ⟨v211, ee212⟩ : ∃ z : Int32, f171 3 = z := ⟨_, rfl⟩
      have b213 : Bd v211 (0) (12) := (by rw [← ee212]; exact b173.2.2.2.1 3 (by decide))
      have q214 : elm (S169 7) 3 = v211.toInt := (elm_of c172 3).trans (congrArg Int32.toInt (ee212))
      obtain ⟨v215, ee216⟩ : ∃ z : Int32, f171 6 = z := ⟨_, rfl⟩
      have b217 : Bd v215 (0) (8) := (by rw [← ee216]; exact b173.2.2.2.2.1 6 (by decide))
      have q218 : elm (S169 7) 6 = v215.toInt := (elm_of c172 6).trans (congrArg Int32.toInt (ee216))
      obtain ⟨v219, ee220⟩ : ∃ z : Int32, f171 8 = z := ⟨_, rfl⟩
      have b221 : Bd v219 (0) (3) := (by rw [← ee220]; exact b173.2.2.2.2.2.2.1 8 (by decide))
      have q222 : elm (S169 7) 8 = v219.toInt := (elm_of c172 8).trans (congrArg Int32.toInt (ee220))
      obtain ⟨v223, ee224⟩ : ∃ z : Int32, f171 9 = z := ⟨_, rfl⟩
      have b225 : Bd v223 (0) (40) := (by rw [← ee224]; exact b173.2.2.2.2.2.2.2 9 (by decide))
      have q226 : elm (S169 7) 9 = v223.toInt := (elm_of c172 9).trans (congrArg Int32.toInt (ee224))
      have q227 : elm (S147 7) 20 = v46.toInt := (elm_of c167 20).trans (congrArg Int32.toInt (ee47))
      obtain ⟨v228, ee229⟩ : ∃ z : Int32, f171 20 = z := ⟨_, rfl⟩
      have b230 : Bd v228 (0) (12) := (by rw [← ee229]; exact b173.1 20 (by decide))
      have q231 : elm (S169 7) 20 = v228.toInt := (elm_of c172 20).trans (congrArg Int32.toInt (ee229))
      have q232 : elm (S147 7) 21 = v43.toInt := (elm_of c167 21).trans (congrArg Int32.toInt (ee44))
      obtain ⟨v233, ee234⟩ : ∃ z : Int32, f171 21 = z := ⟨_, rfl⟩
      have b235 : Bd v233 (0) (12) := (by rw [← ee234]; exact b173.2.1 21 (by decide))
      have q236 : elm (S169 7) 21 = v233.toInt := (elm_of c172 21).trans (congrArg Int32.toInt (ee234))
      have q237 : elm (S147 7) 23 = v49.toInt := (elm_of c167 23).trans (congrArg Int32.toInt (ee50))
      obtain ⟨v238, ee239⟩ : ∃ z : Int32, f171 23 = z := ⟨_, rfl⟩
      have b240 : Bd v238 (0) (12) := (by rw [← ee239]; exact b173.2.2.2.1 23 (by decide))
      have q241 : elm (S169 7) 23 = v238.toInt := (elm_of c172 23).trans (congrArg Int32.toInt (ee239))
      have q242 : elm (S147 7) 26 = v52.toInt := (elm_of c167 26).trans (congrArg Int32.toInt (ee53))
      obtain ⟨v243, ee244⟩ : ∃ z : Int32, f171 26 = z := ⟨_, rfl⟩
      have b245 : Bd v243 (0) (8) := (by rw [← ee244]; exact b173.2.2.2.2.1 26 (by decide))
      have q246 : elm (S169 7) 26 = v243.toInt := (elm_of c172 26).trans (congrArg Int32.toInt (ee244))
      have q247 : elm (S147 7) 28 = v55.toInt := (elm_of c167 28).trans (congrArg Int32.toInt (ee56))
      obtain ⟨v248, ee249⟩ : ∃ z : Int32, f171 28 = z := ⟨_, rfl⟩
      have b250 : Bd v248 (0) (3) := (by rw [← ee249]; exact b173.2.2.2.2.2.2.1 28 (by decide))
      have q251 : elm (S169 7) 28 = v248.toInt := (elm_of c172 28).trans (congrArg Int32.toInt (ee249))
      have q252 : elm (S147 7) 29 = v112.toInt := (elm_of c167 29).trans (congrArg Int32.toInt (ee113))
      obtain ⟨v253, ee254⟩ : ∃ z : Int32, f171 29 = z := ⟨_, rfl⟩
      have b255 : Bd v253 (0) (40) := (by rw [← ee254]; exact b173.2.2.2.2.2.2.2 29 (by decide))
      have q256 : elm (S169 7) 29 = v253.toInt := (elm_of c172 29).trans (congrArg Int32.toInt (ee254))
      have q257 : elm (S147 7) 30 = v64.toInt := (elm_of c167 30).trans (congrArg Int32.toInt (ee65))
      obtain ⟨v258, ee259⟩ : ∃ z : Int32, f171 30 = z := ⟨_, rfl⟩
      have b260 : Bd v258 (0) (12) := (by rw [← ee259]; exact b173.1 30 (by decide))
      have q261 : elm (S169 7) 30 = v258.toInt := (elm_of c172 30).trans (congrArg Int32.toInt (ee259))
      have q262 : elm (S147 7) 31 = v61.toInt := (elm_of c167 31).trans (congrArg Int32.toInt (ee62))
      obtain ⟨v263, ee264⟩ : ∃ z : Int32, f171 31 = z := ⟨_, rfl⟩
      have b265 : Bd v263 (0) (12) := (by rw [← ee264]; exact b173.2.1 31 (by decide))
      have q266 : elm (S169 7) 31 = v263.toInt := (elm_of c172 31).trans (congrArg Int32.toInt (ee264))
      have q267 : elm (S147 7) 33 = v67.toInt := (elm_of c167 33).trans (congrArg Int32.toInt (ee68))
      obtain ⟨v268, ee269⟩ : ∃ z : Int32, f171 33 = z := ⟨_, rfl⟩
      have b270 : Bd v268 (0) (12) := (by rw [← ee269]; exact b173.2.2.2.1 33 (by decide))
      have q271 : elm (S169 7) 33 = v268.toInt := (elm_of c172 33).trans (congrArg Int32.toInt (ee269))
      have q272 : elm (S147 7) 36 = v70.toInt := (elm_of c167 36).trans (congrArg Int32.toInt (ee71))
      obtain ⟨v273, ee274⟩ : ∃ z : Int32, f171 36 = z := ⟨_, rfl⟩
      have b275 : Bd v273 (0) (8) := (by rw [← ee274]; exact b173.2.2.2.2.1 36 (by decide))
      have q276 : elm (S169 7) 36 = v273.toInt := (elm_of c172 36).trans (congrArg Int32.toInt (ee274))
      have q277 : elm (S147 7) 38 = v73.toInt := (elm_of c167 38).trans (congrArg Int32.toInt (ee74))
      obtain ⟨v278, ee279⟩ : ∃ z : Int32, f171 38 = z := ⟨_, rfl⟩
      have b280 : Bd v278 (0) (3) := (by rw [← ee279]; exact b173.2.2.2.2.2.2.1 38 (by decide))
      have q281 : elm (S169 7) 38 = v278.toInt := (elm_of c172 38).trans (congrArg Int32.toInt (ee279))
      have q282 : elm (S147 7) 39 = v115.toInt := (elm_of c167 39).trans (congrArg Int32.toInt (ee116))
      obtain ⟨v283, ee284⟩ : ∃ z : Int32, f171 39 = z := ⟨_, rfl⟩
      have b285 : Bd v283 (0) (40) := (by rw [← ee284]; exact b173.2.2.2.2.2.2.2 39 (by decide))
      have q286 : elm (S169 7) 39 = v283.toInt := (elm_of c172 39).trans (congrArg Int32.toInt (ee284))
      have q287 : elm (S147 6) 0 = v22.toInt := (elm_of c168 0).trans (congrArg Int32.toInt (ee23))
      obtain ⟨f288, c289, b290⟩ := invM_6 hI
      obtain ⟨v291, ee292⟩ : ∃ z : Int32, f288 1 = z := ⟨_, rfl⟩
      have b293 : Bd v291 (0) (40000) := (by rw [← ee292]; exact b290 1)
      have q294 : elm (S169 6) 1 = v291.toInt := (elm_of c289 1).trans (congrArg Int32.toInt (ee292))
      obtain ⟨v295, ee296⟩ : ∃ z : Int32, f288 0 = z := ⟨_, rfl⟩
      have b297 : Bd v295 (0) (40000) := (by rw [← ee296]; exact b290 0)
      have q298 : elm (S169 6) 0 = v295.toInt := (elm_of c289 0).trans (congrArg Int32.toInt (ee296))
      have q299 : elm (S147 6) 2 = v58.toInt := (elm_of c168 2).trans (congrArg Int32.toInt (ee59))
      obtain ⟨v300, ee301⟩ : ∃ z : Int32, f288 2 = z := ⟨_, rfl⟩
      have b302 : Bd v300 (0) (40000) := (by rw [← ee301]; exact b290 2)
      have q303 : elm (S169 6) 2 = v300.toInt := (elm_of c289 2).trans (congrArg Int32.toInt (ee301))
      have q304 : elm (S147 6) 3 = v76.toInt := (elm_of c168 3).trans (congrArg Int32.toInt (ee77))
      obtain ⟨v305, ee306⟩ : ∃ z : Int32, f288 3 = z := ⟨_, rfl⟩
      have b307 : Bd v305 (0) (40000) := (by rw [← ee306]; exact b290 3)
      have q308 : elm (S169 6) 3 = v305.toInt := (elm_of c289 3).trans (congrArg Int32.toInt (ee306))
      refine lv_aload_n hx hb dX12_image_28 rfl (lv_at hl 0 rfl) ?_
      have c309 : S169 0 = .inr (12, [.int 0, .ref (ad 1), .ref (ad 2), .ref (ad 3), .ref (ad 4), .ref (ad 5), .int v119, .int v121, .int v123, .int v125, .int v126, .long w127, .int v128, .int v130, .int v131, .int v132, .ref (ad 6), .ref (ad 7), .ref (ad 8), .ref (ad 9), .ref (ad 10), .ref (ad 11), .ref (ad 12), .ref (ad 13), .ref (ad 14), .ref (ad 15), .int v133, .int v135, .ref (ad 16), .int v137, .int v139, .int v141, .int v143, .int v144, .ref (ad 17), .ref (ad 18), .int v145, .ref (ad 19)]) := ((o169 0 (by decide)).trans c148)
      refine xget E hQ 0 (by decide) c309 rfl 23 (by decide) q1491 rfl dX12_image_29 ?_
      refine lv_iload_n hx hb dX12_image_32 rfl (lv_at hl 1 rfl) ?_
      refine lv_iconst (v := 1) hx hb dX12_image_33 (by decide) ?_
      obtain ⟨f310, c311, b312⟩ := invM_13 hI
      refine xzast E hs hQ 13 (by decide) c311 (ib_in b161 (by decide) (by decide)) dX12_image_34 (fun H locs S313 eS313 hQ => ?_)
      have hI := invM_up_13 hI eS313 ⟨_, rfl, upd_b b312 (nar_z _)⟩
      have b315 : ∀ j, Bd ((upd f310 (a1 : Int32).toNatClampNeg (vp_nar .boolean 1)) j) (0) (1) := upd_b b312 (nar_z _)
      have c314 : S313 13 = .inl (g.2 3, 3, .inl (upd f310 (a1 : Int32).toNatClampNeg (vp_nar .boolean 1))) := up_at eS313 rfl
      refine lv_iconst (v := 0) hx hb dX12_image_35 (by decide) ?_
      have c316 : S313 7 = .inl (g.2 0, 50, .inl f171) := (up_ne eS313 (by decide) c172)
      have q317 : elm (S313 7) 1 = v207.toInt := (elm_of c316 1).trans (congrArg Int32.toInt (ee208))
      have q318 : elm (S313 7) 0 = v203.toInt := (elm_of c316 0).trans (congrArg Int32.toInt (ee204))
      have q319 : elm (S313 7) 3 = v211.toInt := (elm_of c316 3).trans (congrArg Int32.toInt (ee212))
      have q320 : elm (S313 7) 6 = v215.toInt := (elm_of c316 6).trans (congrArg Int32.toInt (ee216))
      have q321 : elm (S313 7) 8 = v219.toInt := (elm_of c316 8).trans (congrArg Int32.toInt (ee220))
      have c322 : S313 6 = .inl (g.2 0, 5, .inl f288) := (up_ne eS313 (by decide) c289)
      have q323 : elm (S313 6) 0 = v295.toInt := (elm_of c322 0).trans (congrArg Int32.toInt (ee296))
      have q324 : elm (S313 7) 11 = v179.toInt := (elm_of c316 11).trans (congrArg Int32.toInt (ee180))
      have q325 : elm (S313 7) 10 = v174.toInt := (elm_of c316 10).trans (congrArg Int32.toInt (ee175))
      have q326 : elm (S313 7) 13 = v184.toInt := (elm_of c316 13).trans (congrArg Int32.toInt (ee185))
      have q327 : elm (S313 7) 16 = v189.toInt := (elm_of c316 16).trans (congrArg Int32.toInt (ee190))
      have q328 : elm (S313 7) 18 = v194.toInt := (elm_of c316 18).trans (congrArg Int32.toInt (ee195))
      have q329 : elm (S313 6) 1 = v291.toInt := (elm_of c322 1).trans (congrArg Int32.toInt (ee292))
      have q330 : elm (S313 7) 21 = v233.toInt := (elm_of c316 21).trans (congrArg Int32.toInt (ee234))
      have q331 : elm (S313 7) 20 = v228.toInt := (elm_of c316 20).trans (congrArg Int32.toInt (ee229))
      have q332 : elm (S313 7) 23 = v238.toInt := (elm_of c316 23).trans (congrArg Int32.toInt (ee239))
      have q333 : elm (S313 7) 26 = v243.toInt := (elm_of c316 26).trans (congrArg Int32.toInt (ee244))
      have q334 : elm (S313 7) 28 = v248.toInt := (elm_of c316 28).trans (congrArg Int32.toInt (ee249))
      have q335 : elm (S313 6) 2 = v300.toInt := (elm_of c322 2).trans (congrArg Int32.toInt (ee301))
      have q336 : elm (S313 7) 31 = v263.toInt := (elm_of c316 31).trans (congrArg Int32.toInt (ee264))
      have q337 : elm (S313 7) 30 = v258.toInt := (elm_of c316 30).trans (congrArg Int32.toInt (ee259))
      have q338 : elm (S313 7) 33 = v268.toInt := (elm_of c316 33).trans (congrArg Int32.toInt (ee269))
      have q339 : elm (S313 7) 36 = v273.toInt := (elm_of c316 36).trans (congrArg Int32.toInt (ee274))
      have q340 : elm (S313 7) 38 = v278.toInt := (elm_of c316 38).trans (congrArg Int32.toInt (ee279))
      have q341 : elm (S313 6) 3 = v305.toInt := (elm_of c322 3).trans (congrArg Int32.toInt (ee306))
      exact xri E hr hlk hQ (⟨hI, (up_o (o_trans (up_o o_refl eS147 (by decide)) o169 (by decide)) eS313 (by decide)), (ib_wk (by decide : Bd 0 (0) (0)) (by decide) (by decide)), (by omega), (by omega), (by omega), (by omega), (by omega), (by omega), (by omega), (by omega), (by omega), (by omega), (by omega), (by omega), (by omega), (by omega), (by omega), (by omega), (by omega), (by omega), (by omega), (by omega), (at_tr u169_0 (up_eq (j := 7) eS313 (by decide)) (up_eq (j := 12) eS313 (by decide))), (at_tr u169_1 (up_eq (j := 7) eS313 (by decide)) (up_eq (j := 12) eS313 (by decide))), (at_tr u169_2 (up_eq (j := 7) eS313 (by decide)) (up_eq (j := 12) eS313 (by decide))), (at_tr u169_3 (up_eq (j := 7) eS313 (by decide)) (up_eq (j := 12) eS313 (by decide)))⟩) dX12_image_36
    · subst h166
      have c342 : S147 7 = .inl (g.2 0, 50, .inl f1) := (up_ne eS147 (by decide) c2)
      have c343 : S147 6 = .inl (g.2 0, 5, .inl f19) := (up_ne eS147 (by decide) c20)
      refine xcVv E hs hQ hml hl.1 0 (gX12_copyShore_0_2 l g ad hD S147 hI (at_tr hAT0 (up_eq (j := 7) eS147 (by decide)) (up_eq (j := 12) eS147 (by decide))) (at_tr hAT1 (up_eq (j := 7) eS147 (by decide)) (up_eq (j := 12) eS147 (by decide))) (at_tr hAT2 (up_eq (j := 7) eS147 (by decide)) (up_eq (j := 12) eS147 (by decide))) (at_tr hAT3 (up_eq (j := 7) eS147 (by decide)) (up_eq (j := 12) eS147 (by decide)))) mX12_copyShore q1739 (by decide) c148 rfl rfl ⟨(Nat.le_of_ble_eq_true rfl), (Nat.le_of_ble_eq_true rfl)⟩ ⟨(Nat.le_of_ble_eq_true rfl), (Nat.le_of_ble_eq_true rfl)⟩ (Nat.le_of_ble_eq_true rfl) rfl dX12_image_25 (fun S344 H locs hp344 hQ _ => ?_)
      obtain ⟨hI, o344, g344_0, g344_1, g344_2, g344_3, g344_4, g344_5, g344_6, g344_7, g344_8, g344_9, g344_10, g344_11, g344_12, g344_13, g344_14, g344_15, g344_16, g344_17, g344_18, g344_19, g344_20, g344_21, g344_22, g344_23, g344_24, g344_25, g344_26, g344_27, u344_0, u344_1, u344_2, u344_3⟩ := hp344
      have q345 : elm (S147 7) 0 = v7.toInt := (elm_of c342 0).trans (congrArg Int32.toInt (ee8))
      obtain ⟨f346, c347, b348⟩ := invM_7 hI
      obtain ⟨v349, ee350⟩ : ∃ z : Int32, f346 20 = z := ⟨_, rfl⟩
      have b351 : Bd v349 (0) (12) := (by rw [← ee350]; exact b348.1 20 (by decide))
      have q352 : elm (S344 7) 20 = v349.toInt := (elm_of c347 20).trans (congrArg Int32.toInt (ee350))
      have q353 : elm (S147 7) 1 = v4.toInt := (elm_of c342 1).trans (congrArg Int32.toInt (ee5))
      obtain ⟨v354, ee355⟩ : ∃ z : Int32, f346 21 = z := ⟨_, rfl⟩
      have b356 : Bd v354 (0) (12) := (by rw [← ee355]; exact b348.2.1 21 (by decide))
      have q357 : elm (S344 7) 21 = v354.toInt := (elm_of c347 21).trans (congrArg Int32.toInt (ee355))
      have q358 : elm (S147 7) 3 = v10.toInt := (elm_of c342 3).trans (congrArg Int32.toInt (ee11))
      obtain ⟨v359, ee360⟩ : ∃ z : Int32, f346 23 = z := ⟨_, rfl⟩
      have b361 : Bd v359 (0) (12) := (by rw [← ee360]; exact b348.2.2.2.1 23 (by decide))
      have q362 : elm (S344 7) 23 = v359.toInt := (elm_of c347 23).trans (congrArg Int32.toInt (ee360))
      have q363 : elm (S147 7) 6 = v13.toInt := (elm_of c342 6).trans (congrArg Int32.toInt (ee14))
      obtain ⟨v364, ee365⟩ : ∃ z : Int32, f346 26 = z := ⟨_, rfl⟩
      have b366 : Bd v364 (0) (8) := (by rw [← ee365]; exact b348.2.2.2.2.1 26 (by decide))
      have q367 : elm (S344 7) 26 = v364.toInt := (elm_of c347 26).trans (congrArg Int32.toInt (ee365))
      have q368 : elm (S147 7) 8 = v16.toInt := (elm_of c342 8).trans (congrArg Int32.toInt (ee17))
      obtain ⟨v369, ee370⟩ : ∃ z : Int32, f346 28 = z := ⟨_, rfl⟩
      have b371 : Bd v369 (0) (3) := (by rw [← ee370]; exact b348.2.2.2.2.2.2.1 28 (by decide))
      have q372 : elm (S344 7) 28 = v369.toInt := (elm_of c347 28).trans (congrArg Int32.toInt (ee370))
      have q373 : elm (S147 7) 9 = v106.toInt := (elm_of c342 9).trans (congrArg Int32.toInt (ee107))
      obtain ⟨v374, ee375⟩ : ∃ z : Int32, f346 29 = z := ⟨_, rfl⟩
      have b376 : Bd v374 (0) (40) := (by rw [← ee375]; exact b348.2.2.2.2.2.2.2 29 (by decide))
      have q377 : elm (S344 7) 29 = v374.toInt := (elm_of c347 29).trans (congrArg Int32.toInt (ee375))
      obtain ⟨v378, ee379⟩ : ∃ z : Int32, f346 0 = z := ⟨_, rfl⟩
      have b380 : Bd v378 (0) (12) := (by rw [← ee379]; exact b348.1 0 (by decide))
      have q381 : elm (S344 7) 0 = v378.toInt := (elm_of c347 0).trans (congrArg Int32.toInt (ee379))
      obtain ⟨v382, ee383⟩ : ∃ z : Int32, f346 1 = z := ⟨_, rfl⟩
      have b384 : Bd v382 (0) (12) := (by rw [← ee383]; exact b348.2.1 1 (by decide))
      have q385 : elm (S344 7) 1 = v382.toInt := (elm_of c347 1).trans (congrArg Int32.toInt (ee383))
      obtain ⟨v386, ee387⟩ : ∃ z : Int32, f346 3 = z := ⟨_, rfl⟩
      have b388 : Bd v386 (0) (12) := (by rw [← ee387]; exact b348.2.2.2.1 3 (by decide))
      have q389 : elm (S344 7) 3 = v386.toInt := (elm_of c347 3).trans (congrArg Int32.toInt (ee387))
      obtain ⟨v390, ee391⟩ : ∃ z : Int32, f346 6 = z := ⟨_, rfl⟩
      have b392 : Bd v390 (0) (8) := (by rw [← ee391]; exact b348.2.2.2.2.1 6 (by decide))
      have q393 : elm (S344 7) 6 = v390.toInt := (elm_of c347 6).trans (congrArg Int32.toInt (ee391))
      obtain ⟨v394, ee395⟩ : ∃ z : Int32, f346 8 = z := ⟨_, rfl⟩
      have b396 : Bd v394 (0) (3) := (by rw [← ee395]; exact b348.2.2.2.2.2.2.1 8 (by decide))
      have q397 : elm (S344 7) 8 = v394.toInt := (elm_of c347 8).trans (congrArg Int32.toInt (ee395))
      obtain ⟨v398, ee399⟩ : ∃ z : Int32, f346 9 = z := ⟨_, rfl⟩
      have b400 : Bd v398 (0) (40) := (by rw [← ee399]; exact b348.2.2.2.2.2.2.2 9 (by decide))
      have q401 : elm (S344 7) 9 = v398.toInt := (elm_of c347 9).trans (congrArg Int32.toInt (ee399))
      have q402 : elm (S147 7) 10 = v28.toInt := (elm_of c342 10).trans (congrArg Int32.toInt (ee29))
      obtain ⟨v403, ee404⟩ : ∃ z : Int32, f346 10 = z := ⟨_, rfl⟩
      have b405 : Bd v403 (0) (12) := (by rw [← ee404]; exact b348.1 10 (by decide))
      have q406 : elm (S344 7) 10 = v403.toInt := (elm_of c347 10).trans (congrArg Int32.toInt (ee404))
      have q407 : elm (S147 7) 11 = v25.toInt := (elm_of c342 11).trans (congrArg Int32.toInt (ee26))
      obtain ⟨v408, ee409⟩ : ∃ z : Int32, f346 11 = z := ⟨_, rfl⟩
      have b410 : Bd v408 (0) (12) := (by rw [← ee409]; exact b348.2.1 11 (by decide))
      have q411 : elm (S344 7) 11 = v408.toInt := (elm_of c347 11).trans (congrArg Int32.toInt (ee409))
      have q412 : elm (S147 7) 13 = v31.toInt := (elm_of c342 13).trans (congrArg Int32.toInt (ee32))
      obtain ⟨v413, ee414⟩ : ∃ z : Int32, f346 13 = z := ⟨_, rfl⟩
      have b415 : Bd v413 (0) (12) := (by rw [← ee414]; exact b348.2.2.2.1 13 (by decide))
      have q416 : elm (S344 7) 13 = v413.toInt := (elm_of c347 13).trans (congrArg Int32.toInt (ee414))
      have q417 : elm (S147 7) 16 = v34.toInt := (elm_of c342 16).trans (congrArg Int32.toInt (ee35))
      obtain ⟨v418, ee419⟩ : ∃ z : Int32, f346 16 = z := ⟨_, rfl⟩
      have b420 : Bd v418 (0) (8) := (by rw [← ee419]; exact b348.2.2.2.2.1 16 (by decide))
      have q421 : elm (S344 7) 16 = v418.toInt := (elm_of c347 16).trans (congrArg Int32.toInt (ee419))
      have q422 : elm (S147 7) 18 = v37.toInt := (elm_of c342 18).trans (congrArg Int32.toInt (ee38))
      obtain ⟨v423, ee424⟩ : ∃ z : Int32, f346 18 = z := ⟨_, rfl⟩
      have b425 : Bd v423 (0) (3) := (by rw [← ee424]; exact b348.2.2.2.2.2.2.1 18 (by decide))
      have q426 : elm (S344 7) 18 = v423.toInt := (elm_of c347 18).trans (congrArg Int32.toInt (ee424))
      have q427 : elm (S147 7) 19 = v109.toInt := (elm_of c342 19).trans (congrArg Int32.toInt (ee110))
      obtain ⟨v428, ee429⟩ : ∃ z : Int32, f346 19 = z := ⟨_, rfl⟩
      have b430 : Bd v428 (0) (40) := (by rw [← ee429]; exact b348.2.2.2.2.2.2.2 19 (by decide))
      have q431 : elm (S344 7) 19 = v428.toInt := (elm_of c347 19).trans (congrArg Int32.toInt (ee429))
      have q432 : elm (S147 7) 30 = v64.toInt := (elm_of c342 30).trans (congrArg Int32.toInt (ee65))
      obtain ⟨v433, ee434⟩ : ∃ z : Int32, f346 30 = z := ⟨_, rfl⟩
      have b435 : Bd v433 (0) (12) := (by rw [← ee434]; exact b348.1 30 (by decide))
      have q436 : elm (S344 7) 30 = v433.toInt := (elm_of c347 30).trans (congrArg Int32.toInt (ee434))
      have q437 : elm (S147 7) 31 = v61.toInt := (elm_of c342 31).trans (congrArg Int32.toInt (ee62))
      obtain ⟨v438, ee439⟩ : ∃ z : Int32, f346 31 = z := ⟨_, rfl⟩
      have b440 : Bd v438 (0) (12) := (by rw [← ee439]; exact b348.2.1 31 (by decide))
      have q441 : elm (S344 7) 31 = v438.toInt := (elm_of c347 31).trans (congrArg Int32.toInt (ee439))
      have q442 : elm (S147 7) 33 = v67.toInt := (elm_of c342 33).trans (congrArg Int32.toInt (ee68))
      obtain ⟨v443, ee444⟩ : ∃ z : Int32, f346 33 = z := ⟨_, rfl⟩
      have b445 : Bd v443 (0) (12) := (by rw [← ee444]; exact b348.2.2.2.1 33 (by decide))
      have q446 : elm (S344 7) 33 = v443.toInt := (elm_of c347 33).trans (congrArg Int32.toInt (ee444))
      have q447 : elm (S147 7) 36 = v70.toInt := (elm_of c342 36).trans (congrArg Int32.toInt (ee71))
      obtain ⟨v448, ee449⟩ : ∃ z : Int32, f346 36 = z := ⟨_, rfl⟩
      have b450 : Bd v448 (0) (8) := (by rw [← ee449]; exact b348.2.2.2.2.1 36 (by decide))
      have q451 : elm (S344 7) 36 = v448.toInt := (elm_of c347 36).trans (congrArg Int32.toInt (ee449))
      have q452 : elm (S147 7) 38 = v73.toInt := (elm_of c342 38).trans (congrArg Int32.toInt (ee74))
      obtain ⟨v453, ee454⟩ : ∃ z : Int32, f346 38 = z := ⟨_, rfl⟩
      have b455 : Bd v453 (0) (3) := (by rw [← ee454]; exact b348.2.2.2.2.2.2.1 38 (by decide))
      have q456 : elm (S344 7) 38 = v453.toInt := (elm_of c347 38).trans (congrArg Int32.toInt (ee454))
      have q457 : elm (S147 7) 39 = v115.toInt := (elm_of c342 39).trans (congrArg Int32.toInt (ee116))
      obtain ⟨v458, ee459⟩ : ∃ z : Int32, f346 39 = z := ⟨_, rfl⟩
      have b460 : Bd v458 (0) (40) := (by rw [← ee459]; exact b348.2.2.2.2.2.2.2 39 (by decide))
      have q461 : elm (S344 7) 39 = v458.toInt := (elm_of c347 39).trans (congrArg Int32.toInt (ee459))
      have q462 : elm (S147 6) 0 = v22.toInt := (elm_of c343 0).trans (congrArg Int32.toInt (ee23))
      obtain ⟨f463, c464, b465⟩ := invM_6 hI
      obtain ⟨v466, ee467⟩ : ∃ z : Int32, f463 2 = z := ⟨_, rfl⟩
      have b468 : Bd v466 (0) (40000) := (by rw [← ee467]; exact b465 2)
      have q469 : elm (S344 6) 2 = v466.toInt := (elm_of c464 2).trans (congrArg Int32.toInt (ee467))
      obtain ⟨v470, ee471⟩ : ∃ z : Int32, f463 0 = z := ⟨_, rfl⟩
      have b472 : Bd v470 (0) (40000) := (by rw [← ee471]; exact b465 0)
      have q473 : elm (S344 6) 0 = v470.toInt := (elm_of c464 0).trans (congrArg Int32.toInt (ee471))
      have q474 : elm (S147 6) 1 = v40.toInt := (elm_of c343 1).trans (congrArg Int32.toInt (ee41))
      obtain ⟨v475, ee476⟩ : ∃ z : Int32, f463 1 = z := ⟨_, rfl⟩
      have b477 : Bd v475 (0) (40000) := (by rw [← ee476]; exact b465 1)
      have q478 : elm (S344 6) 1 = v475.toInt := (elm_of c464 1).trans (congrArg Int32.toInt (ee476))
      have q479 : elm (S147 6) 3 = v76.toInt := (elm_of c343 3).trans (congrArg Int32.toInt (ee77))
      obtain ⟨v480, ee481⟩ : ∃ z : Int32, f463 3 = z := ⟨_, rfl⟩
      have b482 : Bd v480 (0) (40000) := (by rw [← ee481]; exact b465 3)
      have q483 : elm (S344 6) 3 = v480.toInt := (elm_of c464 3).trans (congrArg Int32.toInt (ee481))
      refine lv_aload_n hx hb dX12_image_28 rfl (lv_at hl 0 rfl) ?_
      have c484 : S344 0 = .inr (12, [.int 0, .ref (ad 1), .ref (ad 2), .ref (ad 3), .ref (ad 4), .ref (ad 5), .int v119, .int v121, .int v123, .int v125, .int v126, .long w127, .int v128, .int v130, .int v131, .int v132, .ref (ad 6), .ref (ad 7), .ref (ad 8), .ref (ad 9), .ref (ad 10), .ref (ad 11), .ref (ad 12), .ref (ad 13), .ref (ad 14), .ref (ad 15), .int v133, .int v135, .ref (ad 16), .int v137, .int v139, .int v141, .int v143, .int v144, .ref (ad 17), .ref (ad 18), .int v145, .ref (ad 19)]) := ((o344 0 (by decide)).trans c148)
      refine xget E hQ 0 (by decide) c484 rfl 23 (by decide) q1491 rfl dX12_image_29 ?_
      refine lv_iload_n hx hb dX12_image_32 rfl (lv_at hl 1 rfl) ?_
      refine lv_iconst (v := 1) hx hb dX12_image_33 (by decide) ?_
      obtain ⟨f485, c486, b487⟩ := invM_13 hI
      refine xzast E hs hQ 13 (by decide) c486 (ib_in b161 (by decide) (by decide)) dX12_image_34 (fun H locs S488 eS488 hQ => ?_)
      have hI := invM_up_13 hI eS488 ⟨_, rfl, upd_b b487 (nar_z _)⟩
      have b490 : ∀ j, Bd ((upd f485 (a1 : Int32).toNatClampNeg (vp_nar .boolean 1)) j) (0) (1) := upd_b b487 (nar_z _)
      have c489 : S488 13 = .inl (g.2 3, 3, .inl (upd f485 (a1 : Int32).toNatClampNeg (vp_nar .boolean 1))) := up_at eS488 rfl
      refine lv_iconst (v := 0) hx hb dX12_image_35 (by decide) ?_
      have c491 : S488 7 = .inl (g.2 0, 50, .inl f346) := (up_ne eS488 (by decide) c347)
      have q492 : elm (S488 7) 1 = v382.toInt := (elm_of c491 1).trans (congrArg Int32.toInt (ee383))
      have q493 : elm (S488 7) 0 = v378.toInt := (elm_of c491 0).trans (congrArg Int32.toInt (ee379))
      have q494 : elm (S488 7) 3 = v386.toInt := (elm_of c491 3).trans (congrArg Int32.toInt (ee387))
      have q495 : elm (S488 7) 6 = v390.toInt := (elm_of c491 6).trans (congrArg Int32.toInt (ee391))
      have q496 : elm (S488 7) 8 = v394.toInt := (elm_of c491 8).trans (congrArg Int32.toInt (ee395))
      have c497 : S488 6 = .inl (g.2 0, 5, .inl f463) := (up_ne eS488 (by decide) c464)
      have q498 : elm (S488 6) 0 = v470.toInt := (elm_of c497 0).trans (congrArg Int32.toInt (ee471))
      have q499 : elm (S488 7) 11 = v408.toInt := (elm_of c491 11).trans (congrArg Int32.toInt (ee409))
      have q500 : elm (S488 7) 10 = v403.toInt := (elm_of c491 10).trans (congrArg Int32.toInt (ee404))
      have q501 : elm (S488 7) 13 = v413.toInt := (elm_of c491 13).trans (congrArg Int32.toInt (ee414))
      have q502 : elm (S488 7) 16 = v418.toInt := (elm_of c491 16).trans (congrArg Int32.toInt (ee419))
      have q503 : elm (S488 7) 18 = v423.toInt := (elm_of c491 18).trans (congrArg Int32.toInt (ee424))
      have q504 : elm (S488 6) 1 = v475.toInt := (elm_of c497 1).trans (congrArg Int32.toInt (ee476))
      have q505 : elm (S488 7) 21 = v354.toInt := (elm_of c491 21).trans (congrArg Int32.toInt (ee355))
      have q506 : elm (S488 7) 20 = v349.toInt := (elm_of c491 20).trans (congrArg Int32.toInt (ee350))
      have q507 : elm (S488 7) 23 = v359.toInt := (elm_of c491 23).trans (congrArg Int32.toInt (ee360))
      have q508 : elm (S488 7) 26 = v364.toInt := (elm_of c491 26).trans (congrArg Int32.toInt (ee365))
      have q509 : elm (S488 7) 28 = v369.toInt := (elm_of c491 28).trans (congrArg Int32.toInt (ee370))
      have q510 : elm (S488 6) 2 = v466.toInt := (elm_of c497 2).trans (congrArg Int32.toInt (ee467))
      have q511 : elm (S488 7) 31 = v438.toInt := (elm_of c491 31).trans (congrArg Int32.toInt (ee439))
      have q512 : elm (S488 7) 30 = v433.toInt := (elm_of c491 30).trans (congrArg Int32.toInt (ee434))
      have q513 : elm (S488 7) 33 = v443.toInt := (elm_of c491 33).trans (congrArg Int32.toInt (ee444))
      have q514 : elm (S488 7) 36 = v448.toInt := (elm_of c491 36).trans (congrArg Int32.toInt (ee449))
      have q515 : elm (S488 7) 38 = v453.toInt := (elm_of c491 38).trans (congrArg Int32.toInt (ee454))
      have q516 : elm (S488 6) 3 = v480.toInt := (elm_of c497 3).trans (congrArg Int32.toInt (ee481))
      exact xri E hr hlk hQ (⟨hI, (up_o (o_trans (up_o o_refl eS147 (by decide)) o344 (by decide)) eS488 (by decide)), (ib_wk (by decide : Bd 0 (0) (0)) (by decide) (by decide)), (by omega), (by omega), (by omega), (by omega), (by omega), (by omega), (by omega), (by omega), (by omega), (by omega), (by omega), (by omega), (by omega), (by omega), (by omega), (by omega), (by omega), (by omega), (by omega), (by omega), (at_tr u344_0 (up_eq (j := 7) eS488 (by decide)) (up_eq (j := 12) eS488 (by decide))), (at_tr u344_1 (up_eq (j := 7) eS488 (by decide)) (up_eq (j := 12) eS488 (by decide))), (at_tr u344_2 (up_eq (j := 7) eS488 (by decide)) (up_eq (j := 12) eS488 (by decide))), (at_tr u344_3 (up_eq (j := 7) eS488 (by decide)) (up_eq (j := 12) eS488 (by decide)))⟩) dX12_image_36
    · subst h166
      have c517 : S147 7 = .inl (g.2 0, 50, .inl f1) := (up_ne eS147 (by decide) c2)
      have c518 : S147 6 = .inl (g.2 0, 5, .inl f19) := (up_ne eS147 (by decide) c20)
      refine xcVv E hs hQ hml hl.1 0 (gX12_copyShore_0_3 l g ad hD S147 hI (at_tr hAT0 (up_eq (j := 7) eS147 (by decide)) (up_eq (j := 12) eS147 (by decide))) (at_tr hAT1 (up_eq (j := 7) eS147 (by decide)) (up_eq (j := 12) eS147 (by decide))) (at_tr hAT2 (up_eq (j := 7) eS147 (by decide)) (up_eq (j := 12) eS147 (by decide))) (at_tr hAT3 (up_eq (j := 7) eS147 (by decide)) (up_eq (j := 12) eS147 (by decide)))) mX12_copyShore q1739 (by decide) c148 rfl rfl ⟨(Nat.le_of_ble_eq_true rfl), (Nat.le_of_ble_eq_true rfl)⟩ ⟨(Nat.le_of_ble_eq_true rfl), (Nat.le_of_ble_eq_true rfl)⟩ (Nat.le_of_ble_eq_true rfl) rfl dX12_image_25 (fun S519 H locs hp519 hQ _ => ?_)
      obtain ⟨hI, o519, g519_0, g519_1, g519_2, g519_3, g519_4, g519_5, g519_6, g519_7, g519_8, g519_9, g519_10, g519_11, g519_12, g519_13, g519_14, g519_15, g519_16, g519_17, g519_18, g519_19, g519_20, g519_21, g519_22, g519_23, g519_24, g519_25, g519_26, g519_27, u519_0, u519_1, u519_2, u519_3⟩ := hp519
      have q520 : elm (S147 7) 0 = v7.toInt := (elm_of c517 0).trans (congrArg Int32.toInt (ee8))
      obtain ⟨f521, c522, b523⟩ := invM_7 hI
      obtain ⟨v524, ee525⟩ : ∃ z : Int32, f521 30 = z := ⟨_, rfl⟩
      have b526 : Bd v524 (0) (12) := (by rw [← ee525]; exact b523.1 30 (by decide))
      have q527 : elm (S519 7) 30 = v524.toInt := (elm_of c522 30).trans (congrArg Int32.toInt (ee525))
      have q528 : elm (S147 7) 1 = v4.toInt := (elm_of c517 1).trans (congrArg Int32.toInt (ee5))
      obtain ⟨v529, ee530⟩ : ∃ z : Int32, f521 31 = z := ⟨_, rfl⟩
      have b531 : Bd v529 (0) (12) := (by rw [← ee530]; exact b523.2.1 31 (by decide))
      have q532 : elm (S519 7) 31 = v529.toInt := (elm_of c522 31).trans (congrArg Int32.toInt (ee530))
      have q533 : elm (S147 7) 3 = v10.toInt := (elm_of c517 3).trans (congrArg Int32.toInt (ee11))
      obtain ⟨v534, ee535⟩ : ∃ z : Int32, f521 33 = z := ⟨_, rfl⟩
      have b536 : Bd v534 (0) (12) := (by rw [← ee535]; exact b523.2.2.2.1 33 (by decide))
      have q537 : elm (S519 7) 33 = v534.toInt := (elm_of c522 33).trans (congrArg Int32.toInt (ee535))
      have q538 : elm (S147 7) 6 = v13.toInt := (elm_of c517 6).trans (congrArg Int32.toInt (ee14))
      obtain ⟨v539, ee540⟩ : ∃ z : Int32, f521 36 = z := ⟨_, rfl⟩
      have b541 : Bd v539 (0) (8) := (by rw [← ee540]; exact b523.2.2.2.2.1 36 (by decide))
      have q542 : elm (S519 7) 36 = v539.toInt := (elm_of c522 36).trans (congrArg Int32.toInt (ee540))
      have q543 : elm (S147 7) 8 = v16.toInt := (elm_of c517 8).trans (congrArg Int32.toInt (ee17))
      obtain ⟨v544, ee545⟩ : ∃ z : Int32, f521 38 = z := ⟨_, rfl⟩
      have b546 : Bd v544 (0) (3) := (by rw [← ee545]; exact b523.2.2.2.2.2.2.1 38 (by decide))
      have q547 : elm (S519 7) 38 = v544.toInt := (elm_of c522 38).trans (congrArg Int32.toInt (ee545))
      have q548 : elm (S147 7) 9 = v106.toInt := (elm_of c517 9).trans (congrArg Int32.toInt (ee107))
      obtain ⟨v549, ee550⟩ : ∃ z : Int32, f521 39 = z := ⟨_, rfl⟩
      have b551 : Bd v549 (0) (40) := (by rw [← ee550]; exact b523.2.2.2.2.2.2.2 39 (by decide))
      have q552 : elm (S519 7) 39 = v549.toInt := (elm_of c522 39).trans (congrArg Int32.toInt (ee550))
      obtain ⟨v553, ee554⟩ : ∃ z : Int32, f521 0 = z := ⟨_, rfl⟩
      have b555 : Bd v553 (0) (12) := (by rw [← ee554]; exact b523.1 0 (by decide))
      have q556 : elm (S519 7) 0 = v553.toInt := (elm_of c522 0).trans (congrArg Int32.toInt (ee554))
      obtain ⟨v557, ee558⟩ : ∃ z : Int32, f521 1 = z := ⟨_, rfl⟩
      have b559 : Bd v557 (0) (12) := (by rw [← ee558]; exact b523.2.1 1 (by decide))
      have q560 : elm (S519 7) 1 = v557.toInt := (elm_of c522 1).trans (congrArg Int32.toInt (ee558))
      obtain ⟨v561, ee562⟩ : ∃ z : Int32, f521 3 = z := ⟨_, rfl⟩
      have b563 : Bd v561 (0) (12) := (by rw [← ee562]; exact b523.2.2.2.1 3 (by decide))
      have q564 : elm (S519 7) 3 = v561.toInt := (elm_of c522 3).trans (congrArg Int32.toInt (ee562))
      obtain ⟨v565, ee566⟩ : ∃ z : Int32, f521 6 = z := ⟨_, rfl⟩
      have b567 : Bd v565 (0) (8) := (by rw [← ee566]; exact b523.2.2.2.2.1 6 (by decide))
      have q568 : elm (S519 7) 6 = v565.toInt := (elm_of c522 6).trans (congrArg Int32.toInt (ee566))
      obtain ⟨v569, ee570⟩ : ∃ z : Int32, f521 8 = z := ⟨_, rfl⟩
      have b571 : Bd v569 (0) (3) := (by rw [← ee570]; exact b523.2.2.2.2.2.2.1 8 (by decide))
      have q572 : elm (S519 7) 8 = v569.toInt := (elm_of c522 8).trans (congrArg Int32.toInt (ee570))
      obtain ⟨v573, ee574⟩ : ∃ z : Int32, f521 9 = z := ⟨_, rfl⟩
      have b575 : Bd v573 (0) (40) := (by rw [← ee574]; exact b523.2.2.2.2.2.2.2 9 (by decide))
      have q576 : elm (S519 7) 9 = v573.toInt := (elm_of c522 9).trans (congrArg Int32.toInt (ee574))
      have q577 : elm (S147 7) 10 = v28.toInt := (elm_of c517 10).trans (congrArg Int32.toInt (ee29))
      obtain ⟨v578, ee579⟩ : ∃ z : Int32, f521 10 = z := ⟨_, rfl⟩
      have b580 : Bd v578 (0) (12) := (by rw [← ee579]; exact b523.1 10 (by decide))
      have q581 : elm (S519 7) 10 = v578.toInt := (elm_of c522 10).trans (congrArg Int32.toInt (ee579))
      have q582 : elm (S147 7) 11 = v25.toInt := (elm_of c517 11).trans (congrArg Int32.toInt (ee26))
      obtain ⟨v583, ee584⟩ : ∃ z : Int32, f521 11 = z := ⟨_, rfl⟩
      have b585 : Bd v583 (0) (12) := (by rw [← ee584]; exact b523.2.1 11 (by decide))
      have q586 : elm (S519 7) 11 = v583.toInt := (elm_of c522 11).trans (congrArg Int32.toInt (ee584))
      have q587 : elm (S147 7) 13 = v31.toInt := (elm_of c517 13).trans (congrArg Int32.toInt (ee32))
      obtain ⟨v588, ee589⟩ : ∃ z : Int32, f521 13 = z := ⟨_, rfl⟩
      have b590 : Bd v588 (0) (12) := (by rw [← ee589]; exact b523.2.2.2.1 13 (by decide))
      have q591 : elm (S519 7) 13 = v588.toInt := (elm_of c522 13).trans (congrArg Int32.toInt (ee589))
      have q592 : elm (S147 7) 16 = v34.toInt := (elm_of c517 16).trans (congrArg Int32.toInt (ee35))
      obtain ⟨v593, ee594⟩ : ∃ z : Int32, f521 16 = z := ⟨_, rfl⟩
      have b595 : Bd v593 (0) (8) := (by rw [← ee594]; exact b523.2.2.2.2.1 16 (by decide))
      have q596 : elm (S519 7) 16 = v593.toInt := (elm_of c522 16).trans (congrArg Int32.toInt (ee594))
      have q597 : elm (S147 7) 18 = v37.toInt := (elm_of c517 18).trans (congrArg Int32.toInt (ee38))
      obtain ⟨v598, ee599⟩ : ∃ z : Int32, f521 18 = z := ⟨_, rfl⟩
      have b600 : Bd v598 (0) (3) := (by rw [← ee599]; exact b523.2.2.2.2.2.2.1 18 (by decide))
      have q601 : elm (S519 7) 18 = v598.toInt := (elm_of c522 18).trans (congrArg Int32.toInt (ee599))
      have q602 : elm (S147 7) 19 = v109.toInt := (elm_of c517 19).trans (congrArg Int32.toInt (ee110))
      obtain ⟨v603, ee604⟩ : ∃ z : Int32, f521 19 = z := ⟨_, rfl⟩
      have b605 : Bd v603 (0) (40) := (by rw [← ee604]; exact b523.2.2.2.2.2.2.2 19 (by decide))
      have q606 : elm (S519 7) 19 = v603.toInt := (elm_of c522 19).trans (congrArg Int32.toInt (ee604))
      have q607 : elm (S147 7) 20 = v46.toInt := (elm_of c517 20).trans (congrArg Int32.toInt (ee47))
      obtain ⟨v608, ee609⟩ : ∃ z : Int32, f521 20 = z := ⟨_, rfl⟩
      have b610 : Bd v608 (0) (12) := (by rw [← ee609]; exact b523.1 20 (by decide))
      have q611 : elm (S519 7) 20 = v608.toInt := (elm_of c522 20).trans (congrArg Int32.toInt (ee609))
      have q612 : elm (S147 7) 21 = v43.toInt := (elm_of c517 21).trans (congrArg Int32.toInt (ee44))
      obtain ⟨v613, ee614⟩ : ∃ z : Int32, f521 21 = z := ⟨_, rfl⟩
      have b615 : Bd v613 (0) (12) := (by rw [← ee614]; exact b523.2.1 21 (by decide))
      have q616 : elm (S519 7) 21 = v613.toInt := (elm_of c522 21).trans (congrArg Int32.toInt (ee614))
      have q617 : elm (S147 7) 23 = v49.toInt := (elm_of c517 23).trans (congrArg Int32.toInt (ee50))
      obtain ⟨v618, ee619⟩ : ∃ z : Int32, f521 23 = z := ⟨_, rfl⟩
      have b620 : Bd v618 (0) (12) := (by rw [← ee619]; exact b523.2.2.2.1 23 (by decide))
      have q621 : elm (S519 7) 23 = v618.toInt := (elm_of c522 23).trans (congrArg Int32.toInt (ee619))
      have q622 : elm (S147 7) 26 = v52.toInt := (elm_of c517 26).trans (congrArg Int32.toInt (ee53))
      obtain ⟨v623, ee624⟩ : ∃ z : Int32, f521 26 = z := ⟨_, rfl⟩
      have b625 : Bd v623 (0) (8) := (by rw [← ee624]; exact b523.2.2.2.2.1 26 (by decide))
      have q626 : elm (S519 7) 26 = v623.toInt := (elm_of c522 26).trans (congrArg Int32.toInt (ee624))
      have q627 : elm (S147 7) 28 = v55.toInt := (elm_of c517 28).trans (congrArg Int32.toInt (ee56))
      obtain ⟨v628, ee629⟩ : ∃ z : Int32, f521 28 = z := ⟨_, rfl⟩
      have b630 : Bd v628 (0) (3) := (by rw [← ee629]; exact b523.2.2.2.2.2.2.1 28 (by decide))
      have q631 : elm (S519 7) 28 = v628.toInt := (elm_of c522 28).trans (congrArg Int32.toInt (ee629))
      have q632 : elm (S147 7) 29 = v112.toInt := (elm_of c517 29).trans (congrArg Int32.toInt (ee113))
      obtain ⟨v633, ee634⟩ : ∃ z : Int32, f521 29 = z := ⟨_, rfl⟩
      have b635 : Bd v633 (0) (40) := (by rw [← ee634]; exact b523.2.2.2.2.2.2.2 29 (by decide))
      have q636 : elm (S519 7) 29 = v633.toInt := (elm_of c522 29).trans (congrArg Int32.toInt (ee634))
      have q637 : elm (S147 6) 0 = v22.toInt := (elm_of c518 0).trans (congrArg Int32.toInt (ee23))
      obtain ⟨f638, c639, b640⟩ := invM_6 hI
      obtain ⟨v641, ee642⟩ : ∃ z : Int32, f638 3 = z := ⟨_, rfl⟩
      have b643 : Bd v641 (0) (40000) := (by rw [← ee642]; exact b640 3)
      have q644 : elm (S519 6) 3 = v641.toInt := (elm_of c639 3).trans (congrArg Int32.toInt (ee642))
      obtain ⟨v645, ee646⟩ : ∃ z : Int32, f638 0 = z := ⟨_, rfl⟩
      have b647 : Bd v645 (0) (40000) := (by rw [← ee646]; exact b640 0)
      have q648 : elm (S519 6) 0 = v645.toInt := (elm_of c639 0).trans (congrArg Int32.toInt (ee646))
      have q649 : elm (S147 6) 1 = v40.toInt := (elm_of c518 1).trans (congrArg Int32.toInt (ee41))
      obtain ⟨v650, ee651⟩ : ∃ z : Int32, f638 1 = z := ⟨_, rfl⟩
      have b652 : Bd v650 (0) (40000) := (by rw [← ee651]; exact b640 1)
      have q653 : elm (S519 6) 1 = v650.toInt := (elm_of c639 1).trans (congrArg Int32.toInt (ee651))
      have q654 : elm (S147 6) 2 = v58.toInt := (elm_of c518 2).trans (congrArg Int32.toInt (ee59))
      obtain ⟨v655, ee656⟩ : ∃ z : Int32, f638 2 = z := ⟨_, rfl⟩
      have b657 : Bd v655 (0) (40000) := (by rw [← ee656]; exact b640 2)
      have q658 : elm (S519 6) 2 = v655.toInt := (elm_of c639 2).trans (congrArg Int32.toInt (ee656))
      refine lv_aload_n hx hb dX12_image_28 rfl (lv_at hl 0 rfl) ?_
      have c659 : S519 0 = .inr (12, [.int 0, .ref (ad 1), .ref (ad 2), .ref (ad 3), .ref (ad 4), .ref (ad 5), .int v119, .int v121, .int v123, .int v125, .int v126, .long w127, .int v128, .int v130, .int v131, .int v132, .ref (ad 6), .ref (ad 7), .ref (ad 8), .ref (ad 9), .ref (ad 10), .ref (ad 11), .ref (ad 12), .ref (ad 13), .ref (ad 14), .ref (ad 15), .int v133, .int v135, .ref (ad 16), .int v137, .int v139, .int v141, .int v143, .int v144, .ref (ad 17), .ref (ad 18), .int v145, .ref (ad 19)]) := ((o519 0 (by decide)).trans c148)
      refine xget E hQ 0 (by decide) c659 rfl 23 (by decide) q1491 rfl dX12_image_29 ?_
      refine lv_iload_n hx hb dX12_image_32 rfl (lv_at hl 1 rfl) ?_
      refine lv_iconst (v := 1) hx hb dX12_image_33 (by decide) ?_
      obtain ⟨f660, c661, b662⟩ := invM_13 hI
      refine xzast E hs hQ 13 (by decide) c661 (ib_in b161 (by decide) (by decide)) dX12_image_34 (fun H locs S663 eS663 hQ => ?_)
      have hI := invM_up_13 hI eS663 ⟨_, rfl, upd_b b662 (nar_z _)⟩
      have b665 : ∀ j, Bd ((upd f660 (a1 : Int32).toNatClampNeg (vp_nar .boolean 1)) j) (0) (1) := upd_b b662 (nar_z _)
      have c664 : S663 13 = .inl (g.2 3, 3, .inl (upd f660 (a1 : Int32).toNatClampNeg (vp_nar .boolean 1))) := up_at eS663 rfl
      refine lv_iconst (v := 0) hx hb dX12_image_35 (by decide) ?_
      have c666 : S663 7 = .inl (g.2 0, 50, .inl f521) := (up_ne eS663 (by decide) c522)
      have q667 : elm (S663 7) 1 = v557.toInt := (elm_of c666 1).trans (congrArg Int32.toInt (ee558))
      have q668 : elm (S663 7) 0 = v553.toInt := (elm_of c666 0).trans (congrArg Int32.toInt (ee554))
      have q669 : elm (S663 7) 3 = v561.toInt := (elm_of c666 3).trans (congrArg Int32.toInt (ee562))
      have q670 : elm (S663 7) 6 = v565.toInt := (elm_of c666 6).trans (congrArg Int32.toInt (ee566))
      have q671 : elm (S663 7) 8 = v569.toInt := (elm_of c666 8).trans (congrArg Int32.toInt (ee570))
      have c672 : S663 6 = .inl (g.2 0, 5, .inl f638) := (up_ne eS663 (by decide) c639)
      have q673 : elm (S663 6) 0 = v645.toInt := (elm_of c672 0).trans (congrArg Int32.toInt (ee646))
      have q674 : elm (S663 7) 11 = v583.toInt := (elm_of c666 11).trans (congrArg Int32.toInt (ee584))
      have q675 : elm (S663 7) 10 = v578.toInt := (elm_of c666 10).trans (congrArg Int32.toInt (ee579))
      have q676 : elm (S663 7) 13 = v588.toInt := (elm_of c666 13).trans (congrArg Int32.toInt (ee589))
      have q677 : elm (S663 7) 16 = v593.toInt := (elm_of c666 16).trans (congrArg Int32.toInt (ee594))
      have q678 : elm (S663 7) 18 = v598.toInt := (elm_of c666 18).trans (congrArg Int32.toInt (ee599))
      have q679 : elm (S663 6) 1 = v650.toInt := (elm_of c672 1).trans (congrArg Int32.toInt (ee651))
      have q680 : elm (S663 7) 21 = v613.toInt := (elm_of c666 21).trans (congrArg Int32.toInt (ee614))
      have q681 : elm (S663 7) 20 = v608.toInt := (elm_of c666 20).trans (congrArg Int32.toInt (ee609))
      have q682 : elm (S663 7) 23 = v618.toInt := (elm_of c666 23).trans (congrArg Int32.toInt (ee619))
      have q683 : elm (S663 7) 26 = v623.toInt := (elm_of c666 26).trans (congrArg Int32.toInt (ee624))
      have q684 : elm (S663 7) 28 = v628.toInt := (elm_of c666 28).trans (congrArg Int32.toInt (ee629))
      have q685 : elm (S663 6) 2 = v655.toInt := (elm_of c672 2).trans (congrArg Int32.toInt (ee656))
      have q686 : elm (S663 7) 31 = v529.toInt := (elm_of c666 31).trans (congrArg Int32.toInt (ee530))
      have q687 : elm (S663 7) 30 = v524.toInt := (elm_of c666 30).trans (congrArg Int32.toInt (ee525))
      have q688 : elm (S663 7) 33 = v534.toInt := (elm_of c666 33).trans (congrArg Int32.toInt (ee535))
      have q689 : elm (S663 7) 36 = v539.toInt := (elm_of c666 36).trans (congrArg Int32.toInt (ee540))
      have q690 : elm (S663 7) 38 = v544.toInt := (elm_of c666 38).trans (congrArg Int32.toInt (ee545))
      have q691 : elm (S663 6) 3 = v641.toInt := (elm_of c672 3).trans (congrArg Int32.toInt (ee642))
      exact xri E hr hlk hQ (⟨hI, (up_o (o_trans (up_o o_refl eS147 (by decide)) o519 (by decide)) eS663 (by decide)), (ib_wk (by decide : Bd 0 (0) (0)) (by decide) (by decide)), (by omega), (by omega), (by omega), (by omega), (by omega), (by omega), (by omega), (by omega), (by omega), (by omega), (by omega), (by omega), (by omega), (by omega), (by omega), (by omega), (by omega), (by omega), (by omega), (by omega), (at_tr u519_0 (up_eq (j := 7) eS663 (by decide)) (up_eq (j := 12) eS663 (by decide))), (at_tr u519_1 (up_eq (j := 7) eS663 (by decide)) (up_eq (j := 12) eS663 (by decide))), (at_tr u519_2 (up_eq (j := 7) eS663 (by decide)) (up_eq (j := 12) eS663 (by decide))), (at_tr u519_3 (up_eq (j := 7) eS663 (by decide)) (up_eq (j := 12) eS663 (by decide)))⟩) dX12_image_36
  · have h692 := ib_eq k156
    have b693 : Bd r153 (0) (0) := ⟨(b153).1, ((rf_eq b153 (by decide : Bd 0 (0) (0)) h692).1).2⟩
    clear g153_0
    refine lv_bipush (v := (-2)) hx hb dX12_image_17 (by decide) ?_
    have c694 : S147 7 = .inl (g.2 0, 50, .inl f1) := (up_ne eS147 (by decide) c2)
    have q695 : elm (S147 7) 1 = v4.toInt := (elm_of c694 1).trans (congrArg Int32.toInt (ee5))
    have q696 : elm (S147 7) 0 = v7.toInt := (elm_of c694 0).trans (congrArg Int32.toInt (ee8))
    have q697 : elm (S147 7) 3 = v10.toInt := (elm_of c694 3).trans (congrArg Int32.toInt (ee11))
    have q698 : elm (S147 7) 6 = v13.toInt := (elm_of c694 6).trans (congrArg Int32.toInt (ee14))
    have q699 : elm (S147 7) 8 = v16.toInt := (elm_of c694 8).trans (congrArg Int32.toInt (ee17))
    have c700 : S147 6 = .inl (g.2 0, 5, .inl f19) := (up_ne eS147 (by decide) c20)
    have q701 : elm (S147 6) 0 = v22.toInt := (elm_of c700 0).trans (congrArg Int32.toInt (ee23))
    have q702 : elm (S147 7) 11 = v25.toInt := (elm_of c694 11).trans (congrArg Int32.toInt (ee26))
    have q703 : elm (S147 7) 10 = v28.toInt := (elm_of c694 10).trans (congrArg Int32.toInt (ee29))
    have q704 : elm (S147 7) 13 = v31.toInt := (elm_of c694 13).trans (congrArg Int32.toInt (ee32))
    have q705 : elm (S147 7) 16 = v34.toInt := (elm_of c694 16).trans (congrArg Int32.toInt (ee35))
    have q706 : elm (S147 7) 18 = v37.toInt := (elm_of c694 18).trans (congrArg Int32.toInt (ee38))
    have q707 : elm (S147 6) 1 = v40.toInt := (elm_of c700 1).trans (congrArg Int32.toInt (ee41))
    have q708 : elm (S147 7) 21 = v43.toInt := (elm_of c694 21).trans (congrArg Int32.toInt (ee44))
    have q709 : elm (S147 7) 20 = v46.toInt := (elm_of c694 20).trans (congrArg Int32.toInt (ee47))
    have q710 : elm (S147 7) 23 = v49.toInt := (elm_of c694 23).trans (congrArg Int32.toInt (ee50))
    have q711 : elm (S147 7) 26 = v52.toInt := (elm_of c694 26).trans (congrArg Int32.toInt (ee53))
    have q712 : elm (S147 7) 28 = v55.toInt := (elm_of c694 28).trans (congrArg Int32.toInt (ee56))
    have q713 : elm (S147 6) 2 = v58.toInt := (elm_of c700 2).trans (congrArg Int32.toInt (ee59))
    have q714 : elm (S147 7) 31 = v61.toInt := (elm_of c694 31).trans (congrArg Int32.toInt (ee62))
    have q715 : elm (S147 7) 30 = v64.toInt := (elm_of c694 30).trans (congrArg Int32.toInt (ee65))
    have q716 : elm (S147 7) 33 = v67.toInt := (elm_of c694 33).trans (congrArg Int32.toInt (ee68))
    have q717 : elm (S147 7) 36 = v70.toInt := (elm_of c694 36).trans (congrArg Int32.toInt (ee71))
    have q718 : elm (S147 7) 38 = v73.toInt := (elm_of c694 38).trans (congrArg Int32.toInt (ee74))
    have q719 : elm (S147 6) 3 = v76.toInt := (elm_of c700 3).trans (congrArg Int32.toInt (ee77))
    exact xri E hr hlk hQ (⟨hI, (up_o o_refl eS147 (by decide)), (ib_wk (by decide : Bd (-2) (-2) (-2)) (by decide) (by decide)), (by omega), (by omega), (by omega), (by omega), (by omega), (by omega), (by omega), (by omega), (by omega), (by omega), (by omega), (by omega), (by omega), (by omega), (by omega), (by omega), (by omega), (by omega), (by omega), (by omega), (at_tr hAT0 (up_eq (j := 7) eS147 (by decide)) (up_eq (j := 12) eS147 (by decide))), (at_tr hAT1 (up_eq (j := 7) eS147 (by decide)) (up_eq (j := 12) eS147 (by decide))), (at_tr hAT2 (up_eq (j := 7) eS147 (by decide)) (up_eq (j := 12) eS147 (by decide))), (at_tr hAT3 (up_eq (j := 7) eS147 (by decide)) (up_eq (j := 12) eS147 (by decide)))⟩) dX12_image_19
set_option maxHeartbeats 4000000 in
set_option maxRecDepth 100000 in
theorem gX12_back_0 (l : Launch) (g : GG) (ad : Nat → Nat) (hD : Dj ad 20) (S : SS) (hI : InvM g ad S) (a1 : Int32) (hq1 : 0 ≤ 12 * elm (S 7) 1 + (-1) * elm (S 7) 0) (hq2 : 0 ≤ 12 * elm (S 7) 3 + (-1) * elm (S 7) 0) (hq3 : 0 ≤ 8 * elm (S 7) 0 + (-1) * elm (S 7) 6) (hq4 : 0 ≤ 3 * elm (S 7) 0 + (-1) * elm (S 7) 8) (hq5 : 0 ≤ 40000 * elm (S 7) 0 + (-1) * elm (S 6) 0) (hq6 : 0 ≤ 12 * elm (S 7) 11 + (-1) * elm (S 7) 10) (hq7 : 0 ≤ 12 * elm (S 7) 13 + (-1) * elm (S 7) 10) (hq8 : 0 ≤ 8 * elm (S 7) 10 + (-1) * elm (S 7) 16) (hq9 : 0 ≤ 3 * elm (S 7) 10 + (-1) * elm (S 7) 18) (hq10 : 0 ≤ 40000 * elm (S 7) 10 + (-1) * elm (S 6) 1) (hq11 : 0 ≤ 12 * elm (S 7) 21 + (-1) * elm (S 7) 20) (hq12 : 0 ≤ 12 * elm (S 7) 23 + (-1) * elm (S 7) 20) (hq13 : 0 ≤ 8 * elm (S 7) 20 + (-1) * elm (S 7) 26) (hq14 : 0 ≤ 3 * elm (S 7) 20 + (-1) * elm (S 7) 28) (hq15 : 0 ≤ 40000 * elm (S 7) 20 + (-1) * elm (S 6) 2) (hq16 : 0 ≤ 12 * elm (S 7) 31 + (-1) * elm (S 7) 30) (hq17 : 0 ≤ 12 * elm (S 7) 33 + (-1) * elm (S 7) 30) (hq18 : 0 ≤ 8 * elm (S 7) 30 + (-1) * elm (S 7) 36) (hq19 : 0 ≤ 3 * elm (S 7) 30 + (-1) * elm (S 7) 38) (hq20 : 0 ≤ 40000 * elm (S 7) 30 + (-1) * elm (S 6) 3) (hAT0 : ATp (S 7) (S 12) 0) (hAT1 : ATp (S 7) (S 12) 1) (hAT2 : ATp (S 7) (S 12) 2) (hAT3 : ATp (S 7) (S 12) 3) : Met l yX12_back (wG (.code yX12_back cX12_back 2 (some .int))) (Rm 2) (XPre g ad 20 S [.ref (ad 0), .int a1]) (va_Qi (fun r S' => InvM g ad S' ∧ (∀ j, j ∉ ([0, 6, 7, 8, 9, 10, 11, 12] : List Nat) → S' j = S j) ∧ Bd r (-6) (0) ∧ (0 ≤ 12 * elm (S' 7) 1 + (-1) * elm (S' 7) 0) ∧ (0 ≤ 12 * elm (S' 7) 3 + (-1) * elm (S' 7) 0) ∧ (0 ≤ 8 * elm (S' 7) 0 + (-1) * elm (S' 7) 6) ∧ (0 ≤ 3 * elm (S' 7) 0 + (-1) * elm (S' 7) 8) ∧ (0 ≤ 40000 * elm (S' 7) 0 + (-1) * elm (S' 6) 0) ∧ (0 ≤ 12 * elm (S' 7) 11 + (-1) * elm (S' 7) 10) ∧ (0 ≤ 12 * elm (S' 7) 13 + (-1) * elm (S' 7) 10) ∧ (0 ≤ 8 * elm (S' 7) 10 + (-1) * elm (S' 7) 16) ∧ (0 ≤ 3 * elm (S' 7) 10 + (-1) * elm (S' 7) 18) ∧ (0 ≤ 40000 * elm (S' 7) 10 + (-1) * elm (S' 6) 1) ∧ (0 ≤ 12 * elm (S' 7) 21 + (-1) * elm (S' 7) 20) ∧ (0 ≤ 12 * elm (S' 7) 23 + (-1) * elm (S' 7) 20) ∧ (0 ≤ 8 * elm (S' 7) 20 + (-1) * elm (S' 7) 26) ∧ (0 ≤ 3 * elm (S' 7) 20 + (-1) * elm (S' 7) 28) ∧ (0 ≤ 40000 * elm (S' 7) 20 + (-1) * elm (S' 6) 2) ∧ (0 ≤ 12 * elm (S' 7) 31 + (-1) * elm (S' 7) 30) ∧ (0 ≤ 12 * elm (S' 7) 33 + (-1) * elm (S' 7) 30) ∧ (0 ≤ 8 * elm (S' 7) 30 + (-1) * elm (S' 7) 36) ∧ (0 ≤ 3 * elm (S' 7) 30 + (-1) * elm (S' 7) 38) ∧ (0 ≤ 40000 * elm (S' 7) 30 + (-1) * elm (S' 6) 3) ∧ (ATp (S' 7) (S' 12) 0) ∧ (ATp (S' 7) (S' 12) 1) ∧ (ATp (S' 7) (S' 12) 2) ∧ (ATp (S' 7) (S' 12) 3)) (QB g ad 20) (FA ad 20)) 0 0 (FA ad 20) := by
  refine xmet cX12_back "EbbWreckModel" (by decide) rfl (Nat.le_of_ble_eq_true rfl) (fun p e s m below meth c E hr hlk hml hQ ls hl => ?_)
  have hx := E.1
  have hb := E.2.1
  have hs : Sp ad 20 (FA ad 20) := Sp.fa hD
  have hl : lv_has ls 2 [(0, .ref (ad 0)), (1, .int a1)] := hl
  obtain ⟨f1, c2, b3⟩ := invM_7 hI
  obtain ⟨v4, ee5⟩ : ∃ z : Int32, f1 1 = z := ⟨_, rfl⟩
  have b6 : Bd v4 (0) (12) := (by rw [← ee5]; exact b3.2.1 1 (by decide))
  obtain ⟨v7, ee8⟩ : ∃ z : Int32, f1 0 = z := ⟨_, rfl⟩
  have b9 : Bd v7 (0) (12) := (by rw [← ee8]; exact b3.1 0 (by decide))
  obtain ⟨v10, ee11⟩ : ∃ z : Int32, f1 3 = z := ⟨_, rfl⟩
  have b12 : Bd v10 (0) (12) := (by rw [← ee11]; exact b3.2.2.2.1 3 (by decide))
  obtain ⟨v13, ee14⟩ : ∃ z : Int32, f1 6 = z := ⟨_, rfl⟩
  have b15 : Bd v13 (0) (8) := (by rw [← ee14]; exact b3.2.2.2.2.1 6 (by decide))
  obtain ⟨v16, ee17⟩ : ∃ z : Int32, f1 8 = z := ⟨_, rfl⟩
  have b18 : Bd v16 (0) (3) := (by rw [← ee17]; exact b3.2.2.2.2.2.2.1 8 (by decide))
  obtain ⟨f19, c20, b21⟩ := invM_6 hI
  obtain ⟨v22, ee23⟩ : ∃ z : Int32, f19 0 = z := ⟨_, rfl⟩
  have b24 : Bd v22 (0) (40000) := (by rw [← ee23]; exact b21 0)
  obtain ⟨v25, ee26⟩ : ∃ z : Int32, f1 11 = z := ⟨_, rfl⟩
  have b27 : Bd v25 (0) (12) := (by rw [← ee26]; exact b3.2.1 11 (by decide))
  obtain ⟨v28, ee29⟩ : ∃ z : Int32, f1 10 = z := ⟨_, rfl⟩
  have b30 : Bd v28 (0) (12) := (by rw [← ee29]; exact b3.1 10 (by decide))
  obtain ⟨v31, ee32⟩ : ∃ z : Int32, f1 13 = z := ⟨_, rfl⟩
  have b33 : Bd v31 (0) (12) := (by rw [← ee32]; exact b3.2.2.2.1 13 (by decide))
  obtain ⟨v34, ee35⟩ : ∃ z : Int32, f1 16 = z := ⟨_, rfl⟩
  have b36 : Bd v34 (0) (8) := (by rw [← ee35]; exact b3.2.2.2.2.1 16 (by decide))
  obtain ⟨v37, ee38⟩ : ∃ z : Int32, f1 18 = z := ⟨_, rfl⟩
  have b39 : Bd v37 (0) (3) := (by rw [← ee38]; exact b3.2.2.2.2.2.2.1 18 (by decide))
  obtain ⟨v40, ee41⟩ : ∃ z : Int32, f19 1 = z := ⟨_, rfl⟩
  have b42 : Bd v40 (0) (40000) := (by rw [← ee41]; exact b21 1)
  obtain ⟨v43, ee44⟩ : ∃ z : Int32, f1 21 = z := ⟨_, rfl⟩
  have b45 : Bd v43 (0) (12) := (by rw [← ee44]; exact b3.2.1 21 (by decide))
  obtain ⟨v46, ee47⟩ : ∃ z : Int32, f1 20 = z := ⟨_, rfl⟩
  have b48 : Bd v46 (0) (12) := (by rw [← ee47]; exact b3.1 20 (by decide))
  obtain ⟨v49, ee50⟩ : ∃ z : Int32, f1 23 = z := ⟨_, rfl⟩
  have b51 : Bd v49 (0) (12) := (by rw [← ee50]; exact b3.2.2.2.1 23 (by decide))
  obtain ⟨v52, ee53⟩ : ∃ z : Int32, f1 26 = z := ⟨_, rfl⟩
  have b54 : Bd v52 (0) (8) := (by rw [← ee53]; exact b3.2.2.2.2.1 26 (by decide))
  obtain ⟨v55, ee56⟩ : ∃ z : Int32, f1 28 = z := ⟨_, rfl⟩
  have b57 : Bd v55 (0) (3) := (by rw [← ee56]; exact b3.2.2.2.2.2.2.1 28 (by decide))
  obtain ⟨v58, ee59⟩ : ∃ z : Int32, f19 2 = z := ⟨_, rfl⟩
  have b60 : Bd v58 (0) (40000) := (by rw [← ee59]; exact b21 2)
  obtain ⟨v61, ee62⟩ : ∃ z : Int32, f1 31 = z := ⟨_, rfl⟩
  have b63 : Bd v61 (0) (12) := (by rw [← ee62]; exact b3.2.1 31 (by decide))
  obtain ⟨v64, ee65⟩ : ∃ z : Int32, f1 30 = z := ⟨_, rfl⟩
  have b66 : Bd v64 (0) (12) := (by rw [← ee65]; exact b3.1 30 (by decide))
  obtain ⟨v67, ee68⟩ : ∃ z : Int32, f1 33 = z := ⟨_, rfl⟩
  have b69 : Bd v67 (0) (12) := (by rw [← ee68]; exact b3.2.2.2.1 33 (by decide))
  obtain ⟨v70, ee71⟩ : ∃ z : Int32, f1 36 = z := ⟨_, rfl⟩
  have b72 : Bd v70 (0) (8) := (by rw [← ee71]; exact b3.2.2.2.2.1 36 (by decide))
  obtain ⟨v73, ee74⟩ : ∃ z : Int32, f1 38 = z := ⟨_, rfl⟩
  have b75 : Bd v73 (0) (3) := (by rw [← ee74]; exact b3.2.2.2.2.2.2.1 38 (by decide))
  obtain ⟨v76, ee77⟩ : ∃ z : Int32, f19 3 = z := ⟨_, rfl⟩
  have b78 : Bd v76 (0) (40000) := (by rw [← ee77]; exact b21 3)
  have q79 : elm (S 7) 1 = v4.toInt := (elm_of c2 1).trans (congrArg Int32.toInt (ee5))
  have q80 : elm (S 7) 0 = v7.toInt := (elm_of c2 0).trans (congrArg Int32.toInt (ee8))
  have q81 : elm (S 7) 3 = v10.toInt := (elm_of c2 3).trans (congrArg Int32.toInt (ee11))
  have q82 : elm (S 7) 6 = v13.toInt := (elm_of c2 6).trans (congrArg Int32.toInt (ee14))
  have q83 : elm (S 7) 8 = v16.toInt := (elm_of c2 8).trans (congrArg Int32.toInt (ee17))
  have q84 : elm (S 6) 0 = v22.toInt := (elm_of c20 0).trans (congrArg Int32.toInt (ee23))
  have q85 : elm (S 7) 11 = v25.toInt := (elm_of c2 11).trans (congrArg Int32.toInt (ee26))
  have q86 : elm (S 7) 10 = v28.toInt := (elm_of c2 10).trans (congrArg Int32.toInt (ee29))
  have q87 : elm (S 7) 13 = v31.toInt := (elm_of c2 13).trans (congrArg Int32.toInt (ee32))
  have q88 : elm (S 7) 16 = v34.toInt := (elm_of c2 16).trans (congrArg Int32.toInt (ee35))
  have q89 : elm (S 7) 18 = v37.toInt := (elm_of c2 18).trans (congrArg Int32.toInt (ee38))
  have q90 : elm (S 6) 1 = v40.toInt := (elm_of c20 1).trans (congrArg Int32.toInt (ee41))
  have q91 : elm (S 7) 21 = v43.toInt := (elm_of c2 21).trans (congrArg Int32.toInt (ee44))
  have q92 : elm (S 7) 20 = v46.toInt := (elm_of c2 20).trans (congrArg Int32.toInt (ee47))
  have q93 : elm (S 7) 23 = v49.toInt := (elm_of c2 23).trans (congrArg Int32.toInt (ee50))
  have q94 : elm (S 7) 26 = v52.toInt := (elm_of c2 26).trans (congrArg Int32.toInt (ee53))
  have q95 : elm (S 7) 28 = v55.toInt := (elm_of c2 28).trans (congrArg Int32.toInt (ee56))
  have q96 : elm (S 6) 2 = v58.toInt := (elm_of c20 2).trans (congrArg Int32.toInt (ee59))
  have q97 : elm (S 7) 31 = v61.toInt := (elm_of c2 31).trans (congrArg Int32.toInt (ee62))
  have q98 : elm (S 7) 30 = v64.toInt := (elm_of c2 30).trans (congrArg Int32.toInt (ee65))
  have q99 : elm (S 7) 33 = v67.toInt := (elm_of c2 33).trans (congrArg Int32.toInt (ee68))
  have q100 : elm (S 7) 36 = v70.toInt := (elm_of c2 36).trans (congrArg Int32.toInt (ee71))
  have q101 : elm (S 7) 38 = v73.toInt := (elm_of c2 38).trans (congrArg Int32.toInt (ee74))
  have q102 : elm (S 6) 3 = v76.toInt := (elm_of c20 3).trans (congrArg Int32.toInt (ee77))
  obtain ⟨f103, c104, b105⟩ := invM_12 hI
  obtain ⟨v106, ee107⟩ : ∃ z : Int32, f1 9 = z := ⟨_, rfl⟩
  have b108 : Bd v106 (0) (40) := (by rw [← ee107]; exact b3.2.2.2.2.2.2.2 9 (by decide))
  obtain ⟨v109, ee110⟩ : ∃ z : Int32, f1 19 = z := ⟨_, rfl⟩
  have b111 : Bd v109 (0) (40) := (by rw [← ee110]; exact b3.2.2.2.2.2.2.2 19 (by decide))
  obtain ⟨v112, ee113⟩ : ∃ z : Int32, f1 29 = z := ⟨_, rfl⟩
  have b114 : Bd v112 (0) (40) := (by rw [← ee113]; exact b3.2.2.2.2.2.2.2 29 (by decide))
  obtain ⟨v115, ee116⟩ : ∃ z : Int32, f1 39 = z := ⟨_, rfl⟩
  have b117 : Bd v115 (0) (40) := (by rw [← ee116]; exact b3.2.2.2.2.2.2.2 39 (by decide))
  refine lv_aload_n hx hb dX12_back_0 rfl (lv_at hl 0 rfl) ?_
  refine lv_iconst (v := 0) hx hb dX12_back_1 (by decide) ?_
  obtain ⟨v118, v119, v121, v123, v125, v126, w127, v128, v130, v131, v132, v133, v135, v137, v139, v141, v143, v144, v145, c146, b120, b122, b124, b129, b134, b136, b138, b140, b142⟩ := invM_0 hI
  have c146 : S 0 = .inr (12, [.int v118, .ref (ad 1), .ref (ad 2), .ref (ad 3), .ref (ad 4), .ref (ad 5), .int v119, .int v121, .int v123, .int v125, .int v126, .long w127, .int v128, .int v130, .int v131, .int v132, .ref (ad 6), .ref (ad 7), .ref (ad 8), .ref (ad 9), .ref (ad 10), .ref (ad 11), .ref (ad 12), .ref (ad 13), .ref (ad 14), .ref (ad 15), .int v133, .int v135, .ref (ad 16), .int v137, .int v139, .int v141, .int v143, .int v144, .ref (ad 17), .ref (ad 18), .int v145, .ref (ad 19)]) := c146
  refine xputi E hs hQ 0 (by decide) c146 rfl 0 (by decide) q1468 rfl rfl (Nat.le_of_ble_eq_true rfl) dX12_back_2 (fun H locs S147 eS147 hQ => ?_)
  have hI := invM_up_0 hI eS147 ⟨0, v119, v121, v123, v125, v126, w127, v128, v130, v131, v132, v133, v135, v137, v139, v141, v143, v144, v145, rfl, b120, b122, b124, b129, b134, b136, b138, b140, b142⟩
  have c148 : S147 0 = .inr (12, [.int 0, .ref (ad 1), .ref (ad 2), .ref (ad 3), .ref (ad 4), .ref (ad 5), .int v119, .int v121, .int v123, .int v125, .int v126, .long w127, .int v128, .int v130, .int v131, .int v132, .ref (ad 6), .ref (ad 7), .ref (ad 8), .ref (ad 9), .ref (ad 10), .ref (ad 11), .ref (ad 12), .ref (ad 13), .ref (ad 14), .ref (ad 15), .int v133, .int v135, .ref (ad 16), .int v137, .int v139, .int v141, .int v143, .int v144, .ref (ad 17), .ref (ad 18), .int v145, .ref (ad 19)]) := up_at eS147 rfl
  refine lv_iload_n hx hb dX12_back_5 rfl (lv_at hl 1 rfl) ?_
  refine lv_i2l hx hb dX12_back_6 rfl ?_
  refine lv_topl (fun w149 e150 => ?_)
  have t151 : w149.toInt = a1.toInt := by rw [e150]; exact i2l_i _
  have b152 : BdL w149 (-2147483648) (2147483647) := (by have h1 := ((ib_full a1)).1; have h2 := ((ib_full a1)).2; exact ⟨by omega, by omega⟩)
  refine lv_lconst (v := 0) hx hb dX12_back_7 (by decide) ?_
  refine lv_ldc2 (v := 2) hx hb E.2.2.1 (E.2.2.2.1 _ q1754) dX12_back_8 ?_
  refine xcSi E hs hQ hml hl.1 (gX12_in l g ad hD S147 hI w149 0 2) mX12_in q1591 rfl ⟨(Nat.le_of_ble_eq_true rfl), (Nat.le_of_ble_eq_true rfl)⟩ ⟨(Nat.le_of_ble_eq_true rfl), (Nat.le_of_ble_eq_true rfl)⟩ (Nat.le_of_ble_eq_true rfl) rfl dX12_back_11 (fun r153 S153 H locs hp153 hQ => ?_)
  obtain ⟨rfl, b153, g153_0⟩ := hp153
  have q154 : (0 : Int64).toInt = 0 := by decide
  have q155 : (2 : Int64).toInt = 2 := by decide
  refine lv_if_ne (tgt := 20) hx hb dX12_back_14 (by decide) (fun k156 => ?_) (fun k156 => ?_)
  · have h157 := ib_ne k156
    have b158 : Bd r153 (1) (1) := rf_nlo b153 (by decide : Bd 0 (0) (0)) h157
    have g159 := g153_0.resolve_left (by omega)
    clear g153_0
    have b160 : BdL w149 (0) (2) := ⟨by omega, by omega⟩
    have b161 : Bd a1 (0) (2) := ⟨by omega, by omega⟩
    refine lv_aload_n hx hb dX12_back_20 rfl (lv_at hl 0 rfl) ?_
    refine xget E hQ 0 (by decide) c148 rfl 23 (by decide) q1491 rfl dX12_back_21 ?_
    refine lv_iload_n hx hb dX12_back_24 rfl (lv_at hl 1 rfl) ?_
    obtain ⟨f162, c163, b164⟩ := invM_13 hI
    refine xzald E hQ 13 (by decide) c163 (ib_in b161 (by decide) (by decide)) dX12_back_25 ?_
    refine lv_topi (fun z165 e166 => ?_)
    have b167 : Bd z165 (0) (1) := (by rw [e166]; exact b164 _)
    refine lv_if_ne (tgt := 32) hx hb dX12_back_26 (by decide) (fun k168 => ?_) (fun k168 => ?_)
    · have h169 := ib_ne k168
      have b170 : Bd z165 (1) (1) := rf_nlo b167 (by decide : Bd 0 (0) (0)) h169
      refine lv_aload_n hx hb dX12_back_32 rfl (lv_at hl 0 rfl) ?_
      refine lv_iconst (v := 1) hx hb dX12_back_33 (by decide) ?_
      refine lv_iload_n hx hb dX12_back_34 rfl (lv_at hl 1 rfl) ?_
      refine lv_iadd hx hb dX12_back_35 ?_
      refine lv_topi (fun z171 e172 => ?_)
      have t173 := ib_add e172 (by decide : Bd 1 (1) (1)) b161 (by decide) (by decide)
      have b174 : Bd z171 (1) (3) := ib_addb t173 (by decide : Bd 1 (1) (1)) b161
      have t173 : z171.toInt = 1 + a1.toInt := fold_add t173 (by decide) rfl
      refine lv_iconst (v := 0) hx hb dX12_back_36 (by decide) ?_
      rcases bd_r13 b174 with h175 | h175 | h175
      · subst h175
        have c176 : S147 7 = .inl (g.2 0, 50, .inl f1) := (up_ne eS147 (by decide) c2)
        have c177 : S147 6 = .inl (g.2 0, 5, .inl f19) := (up_ne eS147 (by decide) c20)
        refine xcVv E hs hQ hml hl.1 0 (gX12_copyShore_1_0 l g ad hD S147 hI (at_tr hAT0 (up_eq (j := 7) eS147 (by decide)) (up_eq (j := 12) eS147 (by decide))) (at_tr hAT1 (up_eq (j := 7) eS147 (by decide)) (up_eq (j := 12) eS147 (by decide))) (at_tr hAT2 (up_eq (j := 7) eS147 (by decide)) (up_eq (j := 12) eS147 (by decide))) (at_tr hAT3 (up_eq (j := 7) eS147 (by decide)) (up_eq (j := 12) eS147 (by decide)))) mX12_copyShore q1739 (by decide) c148 rfl rfl ⟨(Nat.le_of_ble_eq_true rfl), (Nat.le_of_ble_eq_true rfl)⟩ ⟨(Nat.le_of_ble_eq_true rfl), (Nat.le_of_ble_eq_true rfl)⟩ (Nat.le_of_ble_eq_true rfl) rfl dX12_back_37 (fun S178 H locs hp178 hQ _ => ?_)
        obtain ⟨hI, o178, g178_0, g178_1, g178_2, g178_3, g178_4, g178_5, g178_6, g178_7, g178_8, g178_9, g178_10, g178_11, g178_12, g178_13, g178_14, g178_15, g178_16, g178_17, g178_18, g178_19, g178_20, g178_21, g178_22, g178_23, g178_24, g178_25, g178_26, g178_27, u178_0, u178_1, u178_2, u178_3⟩ := hp178
        have q179 : elm (S147 7) 10 = v28.toInt := (elm_of c176 10).trans (congrArg Int32.toInt (ee29))
        obtain ⟨f180, c181, b182⟩ := invM_7 hI
        obtain ⟨v183, ee184⟩ : ∃ z : Int32, f180 0 = z := ⟨_, rfl⟩
        have b185 : Bd v183 (0) (12) := (by rw [← ee184]; exact b182.1 0 (by decide))
        have q186 : elm (S178 7) 0 = v183.toInt := (elm_of c181 0).trans (congrArg Int32.toInt (ee184))
        have q187 : elm (S147 7) 11 = v25.toInt := (elm_of c176 11).trans (congrArg Int32.toInt (ee26))
        obtain ⟨v188, ee189⟩ : ∃ z : Int32, f180 1 = z := ⟨_, rfl⟩
        have b190 : Bd v188 (0) (12) := (by rw [← ee189]; exact b182.2.1 1 (by decide))
        have q191 : elm (S178 7) 1 = v188.toInt := (elm_of c181 1).trans (congrArg Int32.toInt (ee189))
        have q192 : elm (S147 7) 13 = v31.toInt := (elm_of c176 13).trans (congrArg Int32.toInt (ee32))
        obtain ⟨v193, ee194⟩ : ∃ z : Int32, f180 3 = z := ⟨_, rfl⟩
        have b195 : Bd v193 (0) (12) := (by rw [← ee194]; exact b182.2.2.2.1 3 (by decide))
        have q196 : elm (S178 7) 3 = v193.toInt := (elm_of c181 3).trans (congrArg Int32.toInt (ee194))
        have q197 : elm (S147 7) 16 = v34.toInt := (elm_of c176 16).trans (congrArg Int32.toInt (ee35))
        obtain ⟨v198, ee199⟩ : ∃ z : Int32, f180 6 = z := ⟨_, rfl⟩
        have b200 : Bd v198 (0) (8) := (by rw [← ee199]; exact b182.2.2.2.2.1 6 (by decide))
        have q201 : elm (S178 7) 6 = v198.toInt := (elm_of c181 6).trans (congrArg Int32.toInt (ee199))
        have q202 : elm (S147 7) 18 = v37.toInt := (elm_of c176 18).trans (congrArg Int32.toInt (ee38))
        obtain ⟨v203, ee204⟩ : ∃ z : Int32, f180 8 = z := ⟨_, rfl⟩
        have b205 : Bd v203 (0) (3) := (by rw [← ee204]; exact b182.2.2.2.2.2.2.1 8 (by decide))
        have q206 : elm (S178 7) 8 = v203.toInt := (elm_of c181 8).trans (congrArg Int32.toInt (ee204))
        have q207 : elm (S147 7) 19 = v109.toInt := (elm_of c176 19).trans (congrArg Int32.toInt (ee110))
        obtain ⟨v208, ee209⟩ : ∃ z : Int32, f180 9 = z := ⟨_, rfl⟩
        have b210 : Bd v208 (0) (40) := (by rw [← ee209]; exact b182.2.2.2.2.2.2.2 9 (by decide))
        have q211 : elm (S178 7) 9 = v208.toInt := (elm_of c181 9).trans (congrArg Int32.toInt (ee209))
        obtain ⟨v212, ee213⟩ : ∃ z : Int32, f180 10 = z := ⟨_, rfl⟩
        have b214 : Bd v212 (0) (12) := (by rw [← ee213]; exact b182.1 10 (by decide))
        have q215 : elm (S178 7) 10 = v212.toInt := (elm_of c181 10).trans (congrArg Int32.toInt (ee213))
        obtain ⟨v216, ee217⟩ : ∃ z : Int32, f180 11 = z := ⟨_, rfl⟩
        have b218 : Bd v216 (0) (12) := (by rw [← ee217]; exact b182.2.1 11 (by decide))
        have q219 : elm (S178 7) 11 = v216.toInt := (elm_of c181 11).trans (congrArg Int32.toInt (ee217))
        obtain ⟨v220, ee221⟩ : ∃ z : Int32, f180 13 = z := ⟨_, rfl⟩
        have b222 : Bd v220 (0) (12) := (by rw [← ee221]; exact b182.2.2.2.1 13 (by decide))
        have q223 : elm (S178 7) 13 = v220.toInt := (elm_of c181 13).trans (congrArg Int32.toInt (ee221))
        obtain ⟨v224, ee225⟩ : ∃ z : Int32, f180 16 = z := ⟨_, rfl⟩
        have b226 : Bd v224 (0) (8) := (by rw [← ee225]; exact b182.2.2.2.2.1 16 (by decide))
        have q227 : elm (S178 7) 16 = v224.toInt := (elm_of c181 16).trans (congrArg Int32.toInt (ee225))
        obtain ⟨v228, ee229⟩ : ∃ z : Int32, f180 18 = z := ⟨_, rfl⟩
        have b230 : Bd v228 (0) (3) := (by rw [← ee229]; exact b182.2.2.2.2.2.2.1 18 (by decide))
        have q231 : elm (S178 7) 18 = v228.toInt := (elm_of c181 18).trans (congrArg Int32.toInt (ee229))
        obtain ⟨v232, ee233⟩ : ∃ z : Int32, f180 19 = z := ⟨_, rfl⟩
        have b234 : Bd v232 (0) (40) := (by rw [← ee233]; exact b182.2.2.2.2.2.2.2 19 (by decide))
        have q235 : elm (S178 7) 19 = v232.toInt := (elm_of c181 19).trans (congrArg Int32.toInt (ee233))
        have q236 : elm (S147 7) 20 = v46.toInt := (elm_of c176 20).trans (congrArg Int32.toInt (ee47))
        obtain ⟨v237, ee238⟩ : ∃ z : Int32, f180 20 = z := ⟨_, rfl⟩
        have b239 : Bd v237 (0) (12) := (by rw [← ee238]; exact b182.1 20 (by decide))
        have q240 : elm (S178 7) 20 = v237.toInt := (elm_of c181 20).trans (congrArg Int32.toInt (ee238))
        have q241 : elm (S147 7) 21 = v43.toInt := (elm_of c176 21).trans (congrArg Int32.toInt (ee44))
        obtain ⟨v242, ee243⟩ : ∃ z : Int32, f180 21 = z := ⟨_, rfl⟩
        have b244 : Bd v242 (0) (12) := (by rw [← ee243]; exact b182.2.1 21 (by decide))
        have q245 : elm (S178 7) 21 = v242.toInt := (elm_of c181 21).trans (congrArg Int32.toInt (ee243))
        have q246 : elm (S147 7) 23 = v49.toInt := (elm_of c176 23).trans (congrArg Int32.toInt (ee50))
        obtain ⟨v247, ee248⟩ : ∃ z : Int32, f180 23 = z := ⟨_, rfl⟩
        have b249 : Bd v247 (0) (12) := (by rw [← ee248]; exact b182.2.2.2.1 23 (by decide))
        have q250 : elm (S178 7) 23 = v247.toInt := (elm_of c181 23).trans (congrArg Int32.toInt (ee248))
        have q251 : elm (S147 7) 26 = v52.toInt := (elm_of c176 26).trans (congrArg Int32.toInt (ee53))
        obtain ⟨v252, ee253⟩ : ∃ z : Int32, f180 26 = z := ⟨_, rfl⟩
        have b254 : Bd v252 (0) (8) := (by rw [← ee253]; exact b182.2.2.2.2.1 26 (by decide))
        have q255 : elm (S178 7) 26 = v252.toInt := (elm_of c181 26).trans (congrArg Int32.toInt (ee253))
        have q256 : elm (S147 7) 28 = v55.toInt := (elm_of c176 28).trans (congrArg Int32.toInt (ee56))
        obtain ⟨v257, ee258⟩ : ∃ z : Int32, f180 28 = z := ⟨_, rfl⟩
        have b259 : Bd v257 (0) (3) := (by rw [← ee258]; exact b182.2.2.2.2.2.2.1 28 (by decide))
        have q260 : elm (S178 7) 28 = v257.toInt := (elm_of c181 28).trans (congrArg Int32.toInt (ee258))
        have q261 : elm (S147 7) 29 = v112.toInt := (elm_of c176 29).trans (congrArg Int32.toInt (ee113))
        obtain ⟨v262, ee263⟩ : ∃ z : Int32, f180 29 = z := ⟨_, rfl⟩
        have b264 : Bd v262 (0) (40) := (by rw [← ee263]; exact b182.2.2.2.2.2.2.2 29 (by decide))
        have q265 : elm (S178 7) 29 = v262.toInt := (elm_of c181 29).trans (congrArg Int32.toInt (ee263))
        have q266 : elm (S147 7) 30 = v64.toInt := (elm_of c176 30).trans (congrArg Int32.toInt (ee65))
        obtain ⟨v267, ee268⟩ : ∃ z : Int32, f180 30 = z := ⟨_, rfl⟩
        have b269 : Bd v267 (0) (12) := (by rw [← ee268]; exact b182.1 30 (by decide))
        have q270 : elm (S178 7) 30 = v267.toInt := (elm_of c181 30).trans (congrArg Int32.toInt (ee268))
        have q271 : elm (S147 7) 31 = v61.toInt := (elm_of c176 31).trans (congrArg Int32.toInt (ee62))
        obtain ⟨v272, ee273⟩ : ∃ z : Int32, f180 31 = z := ⟨_, rfl⟩
        have b274 : Bd v272 (0) (12) := (by rw [← ee273]; exact b182.2.1 31 (by decide))
        have q275 : elm (S178 7) 31 = v272.toInt := (elm_of c181 31).trans (congrArg Int32.toInt (ee273))
        have q276 : elm (S147 7) 33 = v67.toInt := (elm_of c176 33).trans (congrArg Int32.toInt (ee68))
        obtain ⟨v277, ee278⟩ : ∃ z : Int32, f180 33 = z := ⟨_, rfl⟩
        have b279 : Bd v277 (0) (12) := (by rw [← ee278]; exact b182.2.2.2.1 33 (by decide))
        have q280 : elm (S178 7) 33 = v277.toInt := (elm_of c181 33).trans (congrArg Int32.toInt (ee278))
        have q281 : elm (S147 7) 36 = v70.toInt := (elm_of c176 36).trans (congrArg Int32.toInt (ee71))
        obtain ⟨v282, ee283⟩ : ∃ z : Int32, f180 36 = z := ⟨_, rfl⟩
        have b284 : Bd v282 (0) (8) := (by rw [← ee283]; exact b182.2.2.2.2.1 36 (by decide))
        have q285 : elm (S178 7) 36 = v282.toInt := (elm_of c181 36).trans (congrArg Int32.toInt (ee283))
        have q286 : elm (S147 7) 38 = v73.toInt := (elm_of c176 38).trans (congrArg Int32.toInt (ee74))
        obtain ⟨v287, ee288⟩ : ∃ z : Int32, f180 38 = z := ⟨_, rfl⟩
        have b289 : Bd v287 (0) (3) := (by rw [← ee288]; exact b182.2.2.2.2.2.2.1 38 (by decide))
        have q290 : elm (S178 7) 38 = v287.toInt := (elm_of c181 38).trans (congrArg Int32.toInt (ee288))
        have q291 : elm (S147 7) 39 = v115.toInt := (elm_of c176 39).trans (congrArg Int32.toInt (ee116))
        obtain ⟨v292, ee293⟩ : ∃ z : Int32, f180 39 = z := ⟨_, rfl⟩
        have b294 : Bd v292 (0) (40) := (by rw [← ee293]; exact b182.2.2.2.2.2.2.2 39 (by decide))
        have q295 : elm (S178 7) 39 = v292.toInt := (elm_of c181 39).trans (congrArg Int32.toInt (ee293))
        have q296 : elm (S147 6) 1 = v40.toInt := (elm_of c177 1).trans (congrArg Int32.toInt (ee41))
        obtain ⟨f297, c298, b299⟩ := invM_6 hI
        obtain ⟨v300, ee301⟩ : ∃ z : Int32, f297 0 = z := ⟨_, rfl⟩
        have b302 : Bd v300 (0) (40000) := (by rw [← ee301]; exact b299 0)
        have q303 : elm (S178 6) 0 = v300.toInt := (elm_of c298 0).trans (congrArg Int32.toInt (ee301))
        obtain ⟨v304, ee305⟩ : ∃ z : Int32, f297 1 = z := ⟨_, rfl⟩
        have b306 : Bd v304 (0) (40000) := (by rw [← ee305]; exact b299 1)
        have q307 : elm (S178 6) 1 = v304.toInt := (elm_of c298 1).trans (congrArg Int32.toInt (ee305))
        have q308 : elm (S147 6) 2 = v58.toInt := (elm_of c177 2).trans (congrArg Int32.toInt (ee59))
        obtain ⟨v309, ee310⟩ : ∃ z : Int32, f297 2 = z := ⟨_, rfl⟩
        have b311 : Bd v309 (0) (40000) := (by rw [← ee310]; exact b299 2)
        have q312 : elm (S178 6) 2 = v309.toInt := (elm_of c298 2).trans (congrArg Int32.toInt (ee310))
        have q313 : elm (S147 6) 3 = v76.toInt := (elm_of c177 3).trans (congrArg Int32.toInt (ee77))
        obtain ⟨v314, ee315⟩ : ∃ z : Int32, f297 3 = z := ⟨_, rfl⟩
        have b316 : Bd v314 (0) (40000) := (by rw [← ee315]; exact b299 3)
        have q317 : elm (S178 6) 3 = v314.toInt := (elm_of c298 3).trans (congrArg Int32.toInt (ee315))
        refine lv_iconst (v := 0) hx hb dX12_back_40 (by decide) ?_
        exact xri E hr hlk hQ (⟨hI, (o_trans (up_o o_refl eS147 (by decide)) o178 (by decide)), (ib_wk (by decide : Bd 0 (0) (0)) (by decide) (by decide)), (by omega), (by omega), (by omega), (by omega), (by omega), (by omega), (by omega), (by omega), (by omega), (by omega), (by omega), (by omega), (by omega), (by omega), (by omega), (by omega), (by omega), (by omega), (by omega), (by omega), u178_0, u178_1, u178_2, u178_3⟩) dX12_back_41
      · subst h175
        have c318 : S147 7 = .inl (g.2 0, 50, .inl f1) := (up_ne eS147 (by decide) c2)
        have c319 : S147 6 = .inl (g.2 0, 5, .inl f19) := (up_ne eS147 (by decide) c20)
        refine xcVv E hs hQ hml hl.1 0 (gX12_copyShore_2_0 l g ad hD S147 hI (at_tr hAT0 (up_eq (j := 7) eS147 (by decide)) (up_eq (j := 12) eS147 (by decide))) (at_tr hAT1 (up_eq (j := 7) eS147 (by decide)) (up_eq (j := 12) eS147 (by decide))) (at_tr hAT2 (up_eq (j := 7) eS147 (by decide)) (up_eq (j := 12) eS147 (by decide))) (at_tr hAT3 (up_eq (j := 7) eS147 (by decide)) (up_eq (j := 12) eS147 (by decide)))) mX12_copyShore q1739 (by decide) c148 rfl rfl ⟨(Nat.le_of_ble_eq_true rfl), (Nat.le_of_ble_eq_true rfl)⟩ ⟨(Nat.le_of_ble_eq_true rfl), (Nat.le_of_ble_eq_true rfl)⟩ (Nat.le_of_ble_eq_true rfl) rfl dX12_back_37 (fun S320 H locs hp320 hQ _ => ?_)
        obtain ⟨hI, o320, g320_0, g320_1, g320_2, g320_3, g320_4, g320_5, g320_6, g320_7, g320_8, g320_9, g320_10, g320_11, g320_12, g320_13, g320_14, g320_15, g320_16, g320_17, g320_18, g320_19, g320_20, g320_21, g320_22, g320_23, g320_24, g320_25, g320_26, g320_27, u320_0, u320_1, u320_2, u320_3⟩ := hp320
        have q321 : elm (S147 7) 20 = v46.toInt := (elm_of c318 20).trans (congrArg Int32.toInt (ee47))
        obtain ⟨f322, c323, b324⟩ := invM_7 hI
        obtain ⟨v325, ee326⟩ : ∃ z : Int32, f322 0 = z := ⟨_, rfl⟩
        have b327 : Bd v325 (0) (12) := (by rw [← ee326]; exact b324.1 0 (by decide))
        have q328 : elm (S320 7) 0 = v325.toInt := (elm_of c323 0).trans (congrArg Int32.toInt (ee326))
        have q329 : elm (S147 7) 21 = v43.toInt := (elm_of c318 21).trans (congrArg Int32.toInt (ee44))
        obtain ⟨v330, ee331⟩ : ∃ z : Int32, f322 1 = z := ⟨_, rfl⟩
        have b332 : Bd v330 (0) (12) := (by rw [← ee331]; exact b324.2.1 1 (by decide))
        have q333 : elm (S320 7) 1 = v330.toInt := (elm_of c323 1).trans (congrArg Int32.toInt (ee331))
        have q334 : elm (S147 7) 23 = v49.toInt := (elm_of c318 23).trans (congrArg Int32.toInt (ee50))
        obtain ⟨v335, ee336⟩ : ∃ z : Int32, f322 3 = z := ⟨_, rfl⟩
        have b337 : Bd v335 (0) (12) := (by rw [← ee336]; exact b324.2.2.2.1 3 (by decide))
        have q338 : elm (S320 7) 3 = v335.toInt := (elm_of c323 3).trans (congrArg Int32.toInt (ee336))
        have q339 : elm (S147 7) 26 = v52.toInt := (elm_of c318 26).trans (congrArg Int32.toInt (ee53))
        obtain ⟨v340, ee341⟩ : ∃ z : Int32, f322 6 = z := ⟨_, rfl⟩
        have b342 : Bd v340 (0) (8) := (by rw [← ee341]; exact b324.2.2.2.2.1 6 (by decide))
        have q343 : elm (S320 7) 6 = v340.toInt := (elm_of c323 6).trans (congrArg Int32.toInt (ee341))
        have q344 : elm (S147 7) 28 = v55.toInt := (elm_of c318 28).trans (congrArg Int32.toInt (ee56))
        obtain ⟨v345, ee346⟩ : ∃ z : Int32, f322 8 = z := ⟨_, rfl⟩
        have b347 : Bd v345 (0) (3) := (by rw [← ee346]; exact b324.2.2.2.2.2.2.1 8 (by decide))
        have q348 : elm (S320 7) 8 = v345.toInt := (elm_of c323 8).trans (congrArg Int32.toInt (ee346))
        have q349 : elm (S147 7) 29 = v112.toInt := (elm_of c318 29).trans (congrArg Int32.toInt (ee113))
        obtain ⟨v350, ee351⟩ : ∃ z : Int32, f322 9 = z := ⟨_, rfl⟩
        have b352 : Bd v350 (0) (40) := (by rw [← ee351]; exact b324.2.2.2.2.2.2.2 9 (by decide))
        have q353 : elm (S320 7) 9 = v350.toInt := (elm_of c323 9).trans (congrArg Int32.toInt (ee351))
        have q354 : elm (S147 7) 10 = v28.toInt := (elm_of c318 10).trans (congrArg Int32.toInt (ee29))
        obtain ⟨v355, ee356⟩ : ∃ z : Int32, f322 10 = z := ⟨_, rfl⟩
        have b357 : Bd v355 (0) (12) := (by rw [← ee356]; exact b324.1 10 (by decide))
        have q358 : elm (S320 7) 10 = v355.toInt := (elm_of c323 10).trans (congrArg Int32.toInt (ee356))
        have q359 : elm (S147 7) 11 = v25.toInt := (elm_of c318 11).trans (congrArg Int32.toInt (ee26))
        obtain ⟨v360, ee361⟩ : ∃ z : Int32, f322 11 = z := ⟨_, rfl⟩
        have b362 : Bd v360 (0) (12) := (by rw [← ee361]; exact b324.2.1 11 (by decide))
        have q363 : elm (S320 7) 11 = v360.toInt := (elm_of c323 11).trans (congrArg Int32.toInt (ee361))
        have q364 : elm (S147 7) 13 = v31.toInt := (elm_of c318 13).trans (congrArg Int32.toInt (ee32))
        obtain ⟨v365, ee366⟩ : ∃ z : Int32, f322 13 = z := ⟨_, rfl⟩
        have b367 : Bd v365 (0) (12) := (by rw [← ee366]; exact b324.2.2.2.1 13 (by decide))
        have q368 : elm (S320 7) 13 = v365.toInt := (elm_of c323 13).trans (congrArg Int32.toInt (ee366))
        have q369 : elm (S147 7) 16 = v34.toInt := (elm_of c318 16).trans (congrArg Int32.toInt (ee35))
        obtain ⟨v370, ee371⟩ : ∃ z : Int32, f322 16 = z := ⟨_, rfl⟩
        have b372 : Bd v370 (0) (8) := (by rw [← ee371]; exact b324.2.2.2.2.1 16 (by decide))
        have q373 : elm (S320 7) 16 = v370.toInt := (elm_of c323 16).trans (congrArg Int32.toInt (ee371))
        have q374 : elm (S147 7) 18 = v37.toInt := (elm_of c318 18).trans (congrArg Int32.toInt (ee38))
        obtain ⟨v375, ee376⟩ : ∃ z : Int32, f322 18 = z := ⟨_, rfl⟩
        have b377 : Bd v375 (0) (3) := (by rw [← ee376]; exact b324.2.2.2.2.2.2.1 18 (by decide))
        have q378 : elm (S320 7) 18 = v375.toInt := (elm_of c323 18).trans (congrArg Int32.toInt (ee376))
        have q379 : elm (S147 7) 19 = v109.toInt := (elm_of c318 19).trans (congrArg Int32.toInt (ee110))
        obtain ⟨v380, ee381⟩ : ∃ z : Int32, f322 19 = z := ⟨_, rfl⟩
        have b382 : Bd v380 (0) (40) := (by rw [← ee381]; exact b324.2.2.2.2.2.2.2 19 (by decide))
        have q383 : elm (S320 7) 19 = v380.toInt := (elm_of c323 19).trans (congrArg Int32.toInt (ee381))
        obtain ⟨v384, ee385⟩ : ∃ z : Int32, f322 20 = z := ⟨_, rfl⟩
        have b386 : Bd v384 (0) (12) := (by rw [← ee385]; exact b324.1 20 (by decide))
        have q387 : elm (S320 7) 20 = v384.toInt := (elm_of c323 20).trans (congrArg Int32.toInt (ee385))
        obtain ⟨v388, ee389⟩ : ∃ z : Int32, f322 21 = z := ⟨_, rfl⟩
        have b390 : Bd v388 (0) (12) := (by rw [← ee389]; exact b324.2.1 21 (by decide))
        have q391 : elm (S320 7) 21 = v388.toInt := (elm_of c323 21).trans (congrArg Int32.toInt (ee389))
        obtain ⟨v392, ee393⟩ : ∃ z : Int32, f322 23 = z := ⟨_, rfl⟩
        have b394 : Bd v392 (0) (12) := (by rw [← ee393]; exact b324.2.2.2.1 23 (by decide))
        have q395 : elm (S320 7) 23 = v392.toInt := (elm_of c323 23).trans (congrArg Int32.toInt (ee393))
        obtain ⟨v396, ee397⟩ : ∃ z : Int32, f322 26 = z := ⟨_, rfl⟩
        have b398 : Bd v396 (0) (8) := (by rw [← ee397]; exact b324.2.2.2.2.1 26 (by decide))
        have q399 : elm (S320 7) 26 = v396.toInt := (elm_of c323 26).trans (congrArg Int32.toInt (ee397))
        obtain ⟨v400, ee401⟩ : ∃ z : Int32, f322 28 = z := ⟨_, rfl⟩
        have b402 : Bd v400 (0) (3) := (by rw [← ee401]; exact b324.2.2.2.2.2.2.1 28 (by decide))
        have q403 : elm (S320 7) 28 = v400.toInt := (elm_of c323 28).trans (congrArg Int32.toInt (ee401))
        obtain ⟨v404, ee405⟩ : ∃ z : Int32, f322 29 = z := ⟨_, rfl⟩
        have b406 : Bd v404 (0) (40) := (by rw [← ee405]; exact b324.2.2.2.2.2.2.2 29 (by decide))
        have q407 : elm (S320 7) 29 = v404.toInt := (elm_of c323 29).trans (congrArg Int32.toInt (ee405))
        have q408 : elm (S147 7) 30 = v64.toInt := (elm_of c318 30).trans (congrArg Int32.toInt (ee65))
        obtain ⟨v409, ee410⟩ : ∃ z : Int32, f322 30 = z := ⟨_, rfl⟩
        have b411 : Bd v409 (0) (12) := (by rw [← ee410]; exact b324.1 30 (by decide))
        have q412 : elm (S320 7) 30 = v409.toInt := (elm_of c323 30).trans (congrArg Int32.toInt (ee410))
        have q413 : elm (S147 7) 31 = v61.toInt := (elm_of c318 31).trans (congrArg Int32.toInt (ee62))
        obtain ⟨v414, ee415⟩ : ∃ z : Int32, f322 31 = z := ⟨_, rfl⟩
        have b416 : Bd v414 (0) (12) := (by rw [← ee415]; exact b324.2.1 31 (by decide))
        have q417 : elm (S320 7) 31 = v414.toInt := (elm_of c323 31).trans (congrArg Int32.toInt (ee415))
        have q418 : elm (S147 7) 33 = v67.toInt := (elm_of c318 33).trans (congrArg Int32.toInt (ee68))
        obtain ⟨v419, ee420⟩ : ∃ z : Int32, f322 33 = z := ⟨_, rfl⟩
        have b421 : Bd v419 (0) (12) := (by rw [← ee420]; exact b324.2.2.2.1 33 (by decide))
        have q422 : elm (S320 7) 33 = v419.toInt := (elm_of c323 33).trans (congrArg Int32.toInt (ee420))
        have q423 : elm (S147 7) 36 = v70.toInt := (elm_of c318 36).trans (congrArg Int32.toInt (ee71))
        obtain ⟨v424, ee425⟩ : ∃ z : Int32, f322 36 = z := ⟨_, rfl⟩
        have b426 : Bd v424 (0) (8) := (by rw [← ee425]; exact b324.2.2.2.2.1 36 (by decide))
        have q427 : elm (S320 7) 36 = v424.toInt := (elm_of c323 36).trans (congrArg Int32.toInt (ee425))
        have q428 : elm (S147 7) 38 = v73.toInt := (elm_of c318 38).trans (congrArg Int32.toInt (ee74))
        obtain ⟨v429, ee430⟩ : ∃ z : Int32, f322 38 = z := ⟨_, rfl⟩
        have b431 : Bd v429 (0) (3) := (by rw [← ee430]; exact b324.2.2.2.2.2.2.1 38 (by decide))
        have q432 : elm (S320 7) 38 = v429.toInt := (elm_of c323 38).trans (congrArg Int32.toInt (ee430))
        have q433 : elm (S147 7) 39 = v115.toInt := (elm_of c318 39).trans (congrArg Int32.toInt (ee116))
        obtain ⟨v434, ee435⟩ : ∃ z : Int32, f322 39 = z := ⟨_, rfl⟩
        have b436 : Bd v434 (0) (40) := (by rw [← ee435]; exact b324.2.2.2.2.2.2.2 39 (by decide))
        have q437 : elm (S320 7) 39 = v434.toInt := (elm_of c323 39).trans (congrArg Int32.toInt (ee435))
        have q438 : elm (S147 6) 2 = v58.toInt := (elm_of c319 2).trans (congrArg Int32.toInt (ee59))
        obtain ⟨f439, c440, b441⟩ := invM_6 hI
        obtain ⟨v442, ee443⟩ : ∃ z : Int32, f439 0 = z := ⟨_, rfl⟩
        have b444 : Bd v442 (0) (40000) := (by rw [← ee443]; exact b441 0)
        have q445 : elm (S320 6) 0 = v442.toInt := (elm_of c440 0).trans (congrArg Int32.toInt (ee443))
        have q446 : elm (S147 6) 1 = v40.toInt := (elm_of c319 1).trans (congrArg Int32.toInt (ee41))
        obtain ⟨v447, ee448⟩ : ∃ z : Int32, f439 1 = z := ⟨_, rfl⟩
        have b449 : Bd v447 (0) (40000) := (by rw [← ee448]; exact b441 1)
        have q450 : elm (S320 6) 1 = v447.toInt := (elm_of c440 1).trans (congrArg Int32.toInt (ee448))
        obtain ⟨v451, ee452⟩ : ∃ z : Int32, f439 2 = z := ⟨_, rfl⟩
        have b453 : Bd v451 (0) (40000) := (by rw [← ee452]; exact b441 2)
        have q454 : elm (S320 6) 2 = v451.toInt := (elm_of c440 2).trans (congrArg Int32.toInt (ee452))
        have q455 : elm (S147 6) 3 = v76.toInt := (elm_of c319 3).trans (congrArg Int32.toInt (ee77))
        obtain ⟨v456, ee457⟩ : ∃ z : Int32, f439 3 = z := ⟨_, rfl⟩
        have b458 : Bd v456 (0) (40000) := (by rw [← ee457]; exact b441 3)
        have q459 : elm (S320 6) 3 = v456.toInt := (elm_of c440 3).trans (congrArg Int32.toInt (ee457))
        refine lv_iconst (v := 0) hx hb dX12_back_40 (by decide) ?_
        exact xri E hr hlk hQ (⟨hI, (o_trans (up_o o_refl eS147 (by decide)) o320 (by decide)), (ib_wk (by decide : Bd 0 (0) (0)) (by decide) (by decide)), (by omega), (by omega), (by omega), (by omega), (by omega), (by omega), (by omega), (by omega), (by omega), (by omega), (by omega), (by omega), (by omega), (by omega), (by omega), (by omega), (by omega), (by omega), (by omega), (by omega), u320_0, u320_1, u320_2, u320_3⟩) dX12_back_41
      · subst h175
        have c460 : S147 7 = .inl (g.2 0, 50, .inl f1) := (up_ne eS147 (by decide) c2)
        have c461 : S147 6 = .inl (g.2 0, 5, .inl f19) := (up_ne eS147 (by decide) c20)
        refine xcVv E hs hQ hml hl.1 0 (gX12_copyShore_3_0 l g ad hD S147 hI (at_tr hAT0 (up_eq (j := 7) eS147 (by decide)) (up_eq (j := 12) eS147 (by decide))) (at_tr hAT1 (up_eq (j := 7) eS147 (by decide)) (up_eq (j := 12) eS147 (by decide))) (at_tr hAT2 (up_eq (j := 7) eS147 (by decide)) (up_eq (j := 12) eS147 (by decide))) (at_tr hAT3 (up_eq (j := 7) eS147 (by decide)) (up_eq (j := 12) eS147 (by decide)))) mX12_copyShore q1739 (by decide) c148 rfl rfl ⟨(Nat.le_of_ble_eq_true rfl), (Nat.le_of_ble_eq_true rfl)⟩ ⟨(Nat.le_of_ble_eq_true rfl), (Nat.le_of_ble_eq_true rfl)⟩ (Nat.le_of_ble_eq_true rfl) rfl dX12_back_37 (fun S462 H locs hp462 hQ _ => ?_)
        obtain ⟨hI, o462, g462_0, g462_1, g462_2, g462_3, g462_4, g462_5, g462_6, g462_7, g462_8, g462_9, g462_10, g462_11, g462_12, g462_13, g462_14, g462_15, g462_16, g462_17, g462_18, g462_19, g462_20, g462_21, g462_22, g462_23, g462_24, g462_25, g462_26, g462_27, u462_0, u462_1, u462_2, u462_3⟩ := hp462
        have q463 : elm (S147 7) 30 = v64.toInt := (elm_of c460 30).trans (congrArg Int32.toInt (ee65))
        obtain ⟨f464, c465, b466⟩ := invM_7 hI
        obtain ⟨v467, ee468⟩ : ∃ z : Int32, f464 0 = z := ⟨_, rfl⟩
        have b469 : Bd v467 (0) (12) := (by rw [← ee468]; exact b466.1 0 (by decide))
        have q470 : elm (S462 7) 0 = v467.toInt := (elm_of c465 0).trans (congrArg Int32.toInt (ee468))
        have q471 : elm (S147 7) 31 = v61.toInt := (elm_of c460 31).trans (congrArg Int32.toInt (ee62))
        obtain ⟨v472, ee473⟩ : ∃ z : Int32, f464 1 = z := ⟨_, rfl⟩
        have b474 : Bd v472 (0) (12) := (by rw [← ee473]; exact b466.2.1 1 (by decide))
        have q475 : elm (S462 7) 1 = v472.toInt := (elm_of c465 1).trans (congrArg Int32.toInt (ee473))
        have q476 : elm (S147 7) 33 = v67.toInt := (elm_of c460 33).trans (congrArg Int32.toInt (ee68))
        obtain ⟨v477, ee478⟩ : ∃ z : Int32, f464 3 = z := ⟨_, rfl⟩
        have b479 : Bd v477 (0) (12) := (by rw [← ee478]; exact b466.2.2.2.1 3 (by decide))
        have q480 : elm (S462 7) 3 = v477.toInt := (elm_of c465 3).trans (congrArg Int32.toInt (ee478))
        have q481 : elm (S147 7) 36 = v70.toInt := (elm_of c460 36).trans (congrArg Int32.toInt (ee71))
        obtain ⟨v482, ee483⟩ : ∃ z : Int32, f464 6 = z := ⟨_, rfl⟩
        have b484 : Bd v482 (0) (8) := (by rw [← ee483]; exact b466.2.2.2.2.1 6 (by decide))
        have q485 : elm (S462 7) 6 = v482.toInt := (elm_of c465 6).trans (congrArg Int32.toInt (ee483))
        have q486 : elm (S147 7) 38 = v73.toInt := (elm_of c460 38).trans (congrArg Int32.toInt (ee74))
        obtain ⟨v487, ee488⟩ : ∃ z : Int32, f464 8 = z := ⟨_, rfl⟩
        have b489 : Bd v487 (0) (3) := (by rw [← ee488]; exact b466.2.2.2.2.2.2.1 8 (by decide))
        have q490 : elm (S462 7) 8 = v487.toInt := (elm_of c465 8).trans (congrArg Int32.toInt (ee488))
        have q491 : elm (S147 7) 39 = v115.toInt := (elm_of c460 39).trans (congrArg Int32.toInt (ee116))
        obtain ⟨v492, ee493⟩ : ∃ z : Int32, f464 9 = z := ⟨_, rfl⟩
        have b494 : Bd v492 (0) (40) := (by rw [← ee493]; exact b466.2.2.2.2.2.2.2 9 (by decide))
        have q495 : elm (S462 7) 9 = v492.toInt := (elm_of c465 9).trans (congrArg Int32.toInt (ee493))
        have q496 : elm (S147 7) 10 = v28.toInt := (elm_of c460 10).trans (congrArg Int32.toInt (ee29))
        obtain ⟨v497, ee498⟩ : ∃ z : Int32, f464 10 = z := ⟨_, rfl⟩
        have b499 : Bd v497 (0) (12) := (by rw [← ee498]; exact b466.1 10 (by decide))
        have q500 : elm (S462 7) 10 = v497.toInt := (elm_of c465 10).trans (congrArg Int32.toInt (ee498))
        have q501 : elm (S147 7) 11 = v25.toInt := (elm_of c460 11).trans (congrArg Int32.toInt (ee26))
        obtain ⟨v502, ee503⟩ : ∃ z : Int32, f464 11 = z := ⟨_, rfl⟩
        have b504 : Bd v502 (0) (12) := (by rw [← ee503]; exact b466.2.1 11 (by decide))
        have q505 : elm (S462 7) 11 = v502.toInt := (elm_of c465 11).trans (congrArg Int32.toInt (ee503))
        have q506 : elm (S147 7) 13 = v31.toInt := (elm_of c460 13).trans (congrArg Int32.toInt (ee32))
        obtain ⟨v507, ee508⟩ : ∃ z : Int32, f464 13 = z := ⟨_, rfl⟩
        have b509 : Bd v507 (0) (12) := (by rw [← ee508]; exact b466.2.2.2.1 13 (by decide))
        have q510 : elm (S462 7) 13 = v507.toInt := (elm_of c465 13).trans (congrArg Int32.toInt (ee508))
        have q511 : elm (S147 7) 16 = v34.toInt := (elm_of c460 16).trans (congrArg Int32.toInt (ee35))
        obtain ⟨v512, ee513⟩ : ∃ z : Int32, f464 16 = z := ⟨_, rfl⟩
        have b514 : Bd v512 (0) (8) := (by rw [← ee513]; exact b466.2.2.2.2.1 16 (by decide))
        have q515 : elm (S462 7) 16 = v512.toInt := (elm_of c465 16).trans (congrArg Int32.toInt (ee513))
        have q516 : elm (S147 7) 18 = v37.toInt := (elm_of c460 18).trans (congrArg Int32.toInt (ee38))
        obtain ⟨v517, ee518⟩ : ∃ z : Int32, f464 18 = z := ⟨_, rfl⟩
        have b519 : Bd v517 (0) (3) := (by rw [← ee518]; exact b466.2.2.2.2.2.2.1 18 (by decide))
        have q520 : elm (S462 7) 18 = v517.toInt := (elm_of c465 18).trans (congrArg Int32.toInt (ee518))
        have q521 : elm (S147 7) 19 = v109.toInt := (elm_of c460 19).trans (congrArg Int32.toInt (ee110))
        obtain ⟨v522, ee523⟩ : ∃ z : Int32, f464 19 = z := ⟨_, rfl⟩
        have b524 : Bd v522 (0) (40) := (by rw [← ee523]; exact b466.2.2.2.2.2.2.2 19 (by decide))
        have q525 : elm (S462 7) 19 = v522.toInt := (elm_of c465 19).trans (congrArg Int32.toInt (ee523))
        have q526 : elm (S147 7) 20 = v46.toInt := (elm_of c460 20).trans (congrArg Int32.toInt (ee47))
        obtain ⟨v527, ee528⟩ : ∃ z : Int32, f464 20 = z := ⟨_, rfl⟩
        have b529 : Bd v527 (0) (12) := (by rw [← ee528]; exact b466.1 20 (by decide))
        have q530 : elm (S462 7) 20 = v527.toInt := (elm_of c465 20).trans (congrArg Int32.toInt (ee528))
        have q531 : elm (S147 7) 21 = v43.toInt := (elm_of c460 21).trans (congrArg Int32.toInt (ee44))
        obtain ⟨v532, ee533⟩ : ∃ z : Int32, f464 21 = z := ⟨_, rfl⟩
        have b534 : Bd v532 (0) (12) := (by rw [← ee533]; exact b466.2.1 21 (by decide))
        have q535 : elm (S462 7) 21 = v532.toInt := (elm_of c465 21).trans (congrArg Int32.toInt (ee533))
        have q536 : elm (S147 7) 23 = v49.toInt := (elm_of c460 23).trans (congrArg Int32.toInt (ee50))
        obtain ⟨v537, ee538⟩ : ∃ z : Int32, f464 23 = z := ⟨_, rfl⟩
        have b539 : Bd v537 (0) (12) := (by rw [← ee538]; exact b466.2.2.2.1 23 (by decide))
        have q540 : elm (S462 7) 23 = v537.toInt := (elm_of c465 23).trans (congrArg Int32.toInt (ee538))
        have q541 : elm (S147 7) 26 = v52.toInt := (elm_of c460 26).trans (congrArg Int32.toInt (ee53))
        obtain ⟨v542, ee543⟩ : ∃ z : Int32, f464 26 = z := ⟨_, rfl⟩
        have b544 : Bd v542 (0) (8) := (by rw [← ee543]; exact b466.2.2.2.2.1 26 (by decide))
        have q545 : elm (S462 7) 26 = v542.toInt := (elm_of c465 26).trans (congrArg Int32.toInt (ee543))
        have q546 : elm (S147 7) 28 = v55.toInt := (elm_of c460 28).trans (congrArg Int32.toInt (ee56))
        obtain ⟨v547, ee548⟩ : ∃ z : Int32, f464 28 = z := ⟨_, rfl⟩
        have b549 : Bd v547 (0) (3) := (by rw [← ee548]; exact b466.2.2.2.2.2.2.1 28 (by decide))
        have q550 : elm (S462 7) 28 = v547.toInt := (elm_of c465 28).trans (congrArg Int32.toInt (ee548))
        have q551 : elm (S147 7) 29 = v112.toInt := (elm_of c460 29).trans (congrArg Int32.toInt (ee113))
        obtain ⟨v552, ee553⟩ : ∃ z : Int32, f464 29 = z := ⟨_, rfl⟩
        have b554 : Bd v552 (0) (40) := (by rw [← ee553]; exact b466.2.2.2.2.2.2.2 29 (by decide))
        have q555 : elm (S462 7) 29 = v552.toInt := (elm_of c465 29).trans (congrArg Int32.toInt (ee553))
        obtain ⟨v556, ee557⟩ : ∃ z : Int32, f464 30 = z := ⟨_, rfl⟩
        have b558 : Bd v556 (0) (12) := (by rw [← ee557]; exact b466.1 30 (by decide))
        have q559 : elm (S462 7) 30 = v556.toInt := (elm_of c465 30).trans (congrArg Int32.toInt (ee557))
        obtain ⟨v560, ee561⟩ : ∃ z : Int32, f464 31 = z := ⟨_, rfl⟩
        have b562 : Bd v560 (0) (12) := (by rw [← ee561]; exact b466.2.1 31 (by decide))
        have q563 : elm (S462 7) 31 = v560.toInt := (elm_of c465 31).trans (congrArg Int32.toInt (ee561))
        obtain ⟨v564, ee565⟩ : ∃ z : Int32, f464 33 = z := ⟨_, rfl⟩
        have b566 : Bd v564 (0) (12) := (by rw [← ee565]; exact b466.2.2.2.1 33 (by decide))
        have q567 : elm (S462 7) 33 = v564.toInt := (elm_of c465 33).trans (congrArg Int32.toInt (ee565))
        obtain ⟨v568, ee569⟩ : ∃ z : Int32, f464 36 = z := ⟨_, rfl⟩
        have b570 : Bd v568 (0) (8) := (by rw [← ee569]; exact b466.2.2.2.2.1 36 (by decide))
        have q571 : elm (S462 7) 36 = v568.toInt := (elm_of c465 36).trans (congrArg Int32.toInt (ee569))
        obtain ⟨v572, ee573⟩ : ∃ z : Int32, f464 38 = z := ⟨_, rfl⟩
        have b574 : Bd v572 (0) (3) := (by rw [← ee573]; exact b466.2.2.2.2.2.2.1 38 (by decide))
        have q575 : elm (S462 7) 38 = v572.toInt := (elm_of c465 38).trans (congrArg Int32.toInt (ee573))
        obtain ⟨v576, ee577⟩ : ∃ z : Int32, f464 39 = z := ⟨_, rfl⟩
        have b578 : Bd v576 (0) (40) := (by rw [← ee577]; exact b466.2.2.2.2.2.2.2 39 (by decide))
        have q579 : elm (S462 7) 39 = v576.toInt := (elm_of c465 39).trans (congrArg Int32.toInt (ee577))
        have q580 : elm (S147 6) 3 = v76.toInt := (elm_of c461 3).trans (congrArg Int32.toInt (ee77))
        obtain ⟨f581, c582, b583⟩ := invM_6 hI
        obtain ⟨v584, ee585⟩ : ∃ z : Int32, f581 0 = z := ⟨_, rfl⟩
        have b586 : Bd v584 (0) (40000) := (by rw [← ee585]; exact b583 0)
        have q587 : elm (S462 6) 0 = v584.toInt := (elm_of c582 0).trans (congrArg Int32.toInt (ee585))
        have q588 : elm (S147 6) 1 = v40.toInt := (elm_of c461 1).trans (congrArg Int32.toInt (ee41))
        obtain ⟨v589, ee590⟩ : ∃ z : Int32, f581 1 = z := ⟨_, rfl⟩
        have b591 : Bd v589 (0) (40000) := (by rw [← ee590]; exact b583 1)
        have q592 : elm (S462 6) 1 = v589.toInt := (elm_of c582 1).trans (congrArg Int32.toInt (ee590))
        have q593 : elm (S147 6) 2 = v58.toInt := (elm_of c461 2).trans (congrArg Int32.toInt (ee59))
        obtain ⟨v594, ee595⟩ : ∃ z : Int32, f581 2 = z := ⟨_, rfl⟩
        have b596 : Bd v594 (0) (40000) := (by rw [← ee595]; exact b583 2)
        have q597 : elm (S462 6) 2 = v594.toInt := (elm_of c582 2).trans (congrArg Int32.toInt (ee595))
        obtain ⟨v598, ee599⟩ : ∃ z : Int32, f581 3 = z := ⟨_, rfl⟩
        have b600 : Bd v598 (0) (40000) := (by rw [← ee599]; exact b583 3)
        have q601 : elm (S462 6) 3 = v598.toInt := (elm_of c582 3).trans (congrArg Int32.toInt (ee599))
        refine lv_iconst (v := 0) hx hb dX12_back_40 (by decide) ?_
        exact xri E hr hlk hQ (⟨hI, (o_trans (up_o o_refl eS147 (by decide)) o462 (by decide)), (ib_wk (by decide : Bd 0 (0) (0)) (by decide) (by decide)), (by omega), (by omega), (by omega), (by omega), (by omega), (by omega), (by omega), (by omega), (by omega), (by omega), (by omega), (by omega), (by omega), (by omega), (by omega), (by omega), (by omega), (by omega), (by omega), (by omega), u462_0, u462_1, u462_2, u462_3⟩) dX12_back_41
    · have h602 := ib_eq k168
      have b603 : Bd z165 (0) (0) := ⟨(b167).1, ((rf_eq b167 (by decide : Bd 0 (0) (0)) h602).1).2⟩
      refine lv_bipush (v := (-6)) hx hb dX12_back_29 (by decide) ?_
      have c604 : S147 7 = .inl (g.2 0, 50, .inl f1) := (up_ne eS147 (by decide) c2)
      have q605 : elm (S147 7) 1 = v4.toInt := (elm_of c604 1).trans (congrArg Int32.toInt (ee5))
      have q606 : elm (S147 7) 0 = v7.toInt := (elm_of c604 0).trans (congrArg Int32.toInt (ee8))
      have q607 : elm (S147 7) 3 = v10.toInt := (elm_of c604 3).trans (congrArg Int32.toInt (ee11))
      have q608 : elm (S147 7) 6 = v13.toInt := (elm_of c604 6).trans (congrArg Int32.toInt (ee14))
      have q609 : elm (S147 7) 8 = v16.toInt := (elm_of c604 8).trans (congrArg Int32.toInt (ee17))
      have c610 : S147 6 = .inl (g.2 0, 5, .inl f19) := (up_ne eS147 (by decide) c20)
      have q611 : elm (S147 6) 0 = v22.toInt := (elm_of c610 0).trans (congrArg Int32.toInt (ee23))
      have q612 : elm (S147 7) 11 = v25.toInt := (elm_of c604 11).trans (congrArg Int32.toInt (ee26))
      have q613 : elm (S147 7) 10 = v28.toInt := (elm_of c604 10).trans (congrArg Int32.toInt (ee29))
      have q614 : elm (S147 7) 13 = v31.toInt := (elm_of c604 13).trans (congrArg Int32.toInt (ee32))
      have q615 : elm (S147 7) 16 = v34.toInt := (elm_of c604 16).trans (congrArg Int32.toInt (ee35))
      have q616 : elm (S147 7) 18 = v37.toInt := (elm_of c604 18).trans (congrArg Int32.toInt (ee38))
      have q617 : elm (S147 6) 1 = v40.toInt := (elm_of c610 1).trans (congrArg Int32.toInt (ee41))
      have q618 : elm (S147 7) 21 = v43.toInt := (elm_of c604 21).trans (congrArg Int32.toInt (ee44))
      have q619 : elm (S147 7) 20 = v46.toInt := (elm_of c604 20).trans (congrArg Int32.toInt (ee47))
      have q620 : elm (S147 7) 23 = v49.toInt := (elm_of c604 23).trans (congrArg Int32.toInt (ee50))
      have q621 : elm (S147 7) 26 = v52.toInt := (elm_of c604 26).trans (congrArg Int32.toInt (ee53))
      have q622 : elm (S147 7) 28 = v55.toInt := (elm_of c604 28).trans (congrArg Int32.toInt (ee56))
      have q623 : elm (S147 6) 2 = v58.toInt := (elm_of c610 2).trans (congrArg Int32.toInt (ee59))
      have q624 : elm (S147 7) 31 = v61.toInt := (elm_of c604 31).trans (congrArg Int32.toInt (ee62))
      have q625 : elm (S147 7) 30 = v64.toInt := (elm_of c604 30).trans (congrArg Int32.toInt (ee65))
      have q626 : elm (S147 7) 33 = v67.toInt := (elm_of c604 33).trans (congrArg Int32.toInt (ee68))
      have q627 : elm (S147 7) 36 = v70.toInt := (elm_of c604 36).trans (congrArg Int32.toInt (ee71))
      have q628 : elm (S147 7) 38 = v73.toInt := (elm_of c604 38).trans (congrArg Int32.toInt (ee74))
      have q629 : elm (S147 6) 3 = v76.toInt := (elm_of c610 3).trans (congrArg Int32.toInt (ee77))
      exact xri E hr hlk hQ (⟨hI, (up_o o_refl eS147 (by decide)), (ib_wk (by decide : Bd (-6) (-6) (-6)) (by decide) (by decide)), (by omega), (by omega), (by omega), (by omega), (by omega), (by omega), (by omega), (by omega), (by omega), (by omega), (by omega), (by omega), (by omega), (by omega), (by omega), (by omega), (by omega), (by omega), (by omega), (by omega), (at_tr hAT0 (up_eq (j := 7) eS147 (by decide)) (up_eq (j := 12) eS147 (by decide))), (at_tr hAT1 (up_eq (j := 7) eS147 (by decide)) (up_eq (j := 12) eS147 (by decide))), (at_tr hAT2 (up_eq (j := 7) eS147 (by decide)) (up_eq (j := 12) eS147 (by decide))), (at_tr hAT3 (up_eq (j := 7) eS147 (by decide)) (up_eq (j := 12) eS147 (by decide)))⟩) dX12_back_31
  · have h630 := ib_eq k156
    have b631 : Bd r153 (0) (0) := ⟨(b153).1, ((rf_eq b153 (by decide : Bd 0 (0) (0)) h630).1).2⟩
    clear g153_0
    refine lv_bipush (v := (-2)) hx hb dX12_back_17 (by decide) ?_
    have c632 : S147 7 = .inl (g.2 0, 50, .inl f1) := (up_ne eS147 (by decide) c2)
    have q633 : elm (S147 7) 1 = v4.toInt := (elm_of c632 1).trans (congrArg Int32.toInt (ee5))
    have q634 : elm (S147 7) 0 = v7.toInt := (elm_of c632 0).trans (congrArg Int32.toInt (ee8))
    have q635 : elm (S147 7) 3 = v10.toInt := (elm_of c632 3).trans (congrArg Int32.toInt (ee11))
    have q636 : elm (S147 7) 6 = v13.toInt := (elm_of c632 6).trans (congrArg Int32.toInt (ee14))
    have q637 : elm (S147 7) 8 = v16.toInt := (elm_of c632 8).trans (congrArg Int32.toInt (ee17))
    have c638 : S147 6 = .inl (g.2 0, 5, .inl f19) := (up_ne eS147 (by decide) c20)
    have q639 : elm (S147 6) 0 = v22.toInt := (elm_of c638 0).trans (congrArg Int32.toInt (ee23))
    have q640 : elm (S147 7) 11 = v25.toInt := (elm_of c632 11).trans (congrArg Int32.toInt (ee26))
    have q641 : elm (S147 7) 10 = v28.toInt := (elm_of c632 10).trans (congrArg Int32.toInt (ee29))
    have q642 : elm (S147 7) 13 = v31.toInt := (elm_of c632 13).trans (congrArg Int32.toInt (ee32))
    have q643 : elm (S147 7) 16 = v34.toInt := (elm_of c632 16).trans (congrArg Int32.toInt (ee35))
    have q644 : elm (S147 7) 18 = v37.toInt := (elm_of c632 18).trans (congrArg Int32.toInt (ee38))
    have q645 : elm (S147 6) 1 = v40.toInt := (elm_of c638 1).trans (congrArg Int32.toInt (ee41))
    have q646 : elm (S147 7) 21 = v43.toInt := (elm_of c632 21).trans (congrArg Int32.toInt (ee44))
    have q647 : elm (S147 7) 20 = v46.toInt := (elm_of c632 20).trans (congrArg Int32.toInt (ee47))
    have q648 : elm (S147 7) 23 = v49.toInt := (elm_of c632 23).trans (congrArg Int32.toInt (ee50))
    have q649 : elm (S147 7) 26 = v52.toInt := (elm_of c632 26).trans (congrArg Int32.toInt (ee53))
    have q650 : elm (S147 7) 28 = v55.toInt := (elm_of c632 28).trans (congrArg Int32.toInt (ee56))
    have q651 : elm (S147 6) 2 = v58.toInt := (elm_of c638 2).trans (congrArg Int32.toInt (ee59))
    have q652 : elm (S147 7) 31 = v61.toInt := (elm_of c632 31).trans (congrArg Int32.toInt (ee62))
    have q653 : elm (S147 7) 30 = v64.toInt := (elm_of c632 30).trans (congrArg Int32.toInt (ee65))
    have q654 : elm (S147 7) 33 = v67.toInt := (elm_of c632 33).trans (congrArg Int32.toInt (ee68))
    have q655 : elm (S147 7) 36 = v70.toInt := (elm_of c632 36).trans (congrArg Int32.toInt (ee71))
    have q656 : elm (S147 7) 38 = v73.toInt := (elm_of c632 38).trans (congrArg Int32.toInt (ee74))
    have q657 : elm (S147 6) 3 = v76.toInt := (elm_of c638 3).trans (congrArg Int32.toInt (ee77))
    exact xri E hr hlk hQ (⟨hI, (up_o o_refl eS147 (by decide)), (ib_wk (by decide : Bd (-2) (-2) (-2)) (by decide) (by decide)), (by omega), (by omega), (by omega), (by omega), (by omega), (by omega), (by omega), (by omega), (by omega), (by omega), (by omega), (by omega), (by omega), (by omega), (by omega), (by omega), (by omega), (by omega), (by omega), (by omega), (at_tr hAT0 (up_eq (j := 7) eS147 (by decide)) (up_eq (j := 12) eS147 (by decide))), (at_tr hAT1 (up_eq (j := 7) eS147 (by decide)) (up_eq (j := 12) eS147 (by decide))), (at_tr hAT2 (up_eq (j := 7) eS147 (by decide)) (up_eq (j := 12) eS147 (by decide))), (at_tr hAT3 (up_eq (j := 7) eS147 (by decide)) (up_eq (j := 12) eS147 (by decide)))⟩) dX12_back_19
set_option maxHeartbeats 4000000 in
set_option maxRecDepth 100000 in
theorem gX12_shore_0 (l : Launch) (g : GG) (ad : Nat → Nat) (hD : Dj ad 20) (S : SS) (hI : InvM g ad S) (hq1 : 0 ≤ 12 * elm (S 7) 1 + (-1) * elm (S 7) 0) (hq2 : 0 ≤ 12 * elm (S 7) 3 + (-1) * elm (S 7) 0) (hq3 : 0 ≤ 8 * elm (S 7) 0 + (-1) * elm (S 7) 6) (hq4 : 0 ≤ 3 * elm (S 7) 0 + (-1) * elm (S 7) 8) (hq5 : 0 ≤ 40000 * elm (S 7) 0 + (-1) * elm (S 6) 0) (hq6 : 0 ≤ 12 * elm (S 7) 11 + (-1) * elm (S 7) 10) (hq7 : 0 ≤ 12 * elm (S 7) 13 + (-1) * elm (S 7) 10) (hq8 : 0 ≤ 8 * elm (S 7) 10 + (-1) * elm (S 7) 16) (hq9 : 0 ≤ 3 * elm (S 7) 10 + (-1) * elm (S 7) 18) (hq10 : 0 ≤ 40000 * elm (S 7) 10 + (-1) * elm (S 6) 1) (hq11 : 0 ≤ 12 * elm (S 7) 21 + (-1) * elm (S 7) 20) (hq12 : 0 ≤ 12 * elm (S 7) 23 + (-1) * elm (S 7) 20) (hq13 : 0 ≤ 8 * elm (S 7) 20 + (-1) * elm (S 7) 26) (hq14 : 0 ≤ 3 * elm (S 7) 20 + (-1) * elm (S 7) 28) (hq15 : 0 ≤ 40000 * elm (S 7) 20 + (-1) * elm (S 6) 2) (hq16 : 0 ≤ 12 * elm (S 7) 31 + (-1) * elm (S 7) 30) (hq17 : 0 ≤ 12 * elm (S 7) 33 + (-1) * elm (S 7) 30) (hq18 : 0 ≤ 8 * elm (S 7) 30 + (-1) * elm (S 7) 36) (hq19 : 0 ≤ 3 * elm (S 7) 30 + (-1) * elm (S 7) 38) (hq20 : 0 ≤ 40000 * elm (S 7) 30 + (-1) * elm (S 6) 3) (hq21 : 0 ≤ (-1) * elm (S 7) 9 + 40) (hq22 : 0 ≤ (-1) * elm (S 7) 19 + 40) (hq23 : 0 ≤ (-1) * elm (S 7) 29 + 40) (hq24 : 0 ≤ (-1) * elm (S 7) 39 + 40) (hAT0 : ATp (S 7) (S 12) 0) (hAT1 : ATp (S 7) (S 12) 1) (hAT2 : ATp (S 7) (S 12) 2) (hAT3 : ATp (S 7) (S 12) 3) : Met l yX12_shore (wG (.code yX12_shore cX12_shore 1 (some .int))) (Rm 7) (XPre g ad 20 S [.ref (ad 0)]) (va_Qi (fun r S' => InvM g ad S' ∧ (∀ j, j ∉ ([0, 6, 7, 8, 9, 10, 11, 12] : List Nat) → S' j = S j) ∧ Bd r (-4) (4804) ∧ (0 ≤ 12 * elm (S' 7) 1 + (-1) * elm (S' 7) 0) ∧ (0 ≤ 12 * elm (S' 7) 3 + (-1) * elm (S' 7) 0) ∧ (0 ≤ 8 * elm (S' 7) 0 + (-1) * elm (S' 7) 6) ∧ (0 ≤ 3 * elm (S' 7) 0 + (-1) * elm (S' 7) 8) ∧ (0 ≤ 40000 * elm (S' 7) 0 + (-1) * elm (S' 6) 0) ∧ (0 ≤ 12 * elm (S' 7) 11 + (-1) * elm (S' 7) 10) ∧ (0 ≤ 12 * elm (S' 7) 13 + (-1) * elm (S' 7) 10) ∧ (0 ≤ 8 * elm (S' 7) 10 + (-1) * elm (S' 7) 16) ∧ (0 ≤ 3 * elm (S' 7) 10 + (-1) * elm (S' 7) 18) ∧ (0 ≤ 40000 * elm (S' 7) 10 + (-1) * elm (S' 6) 1) ∧ (0 ≤ 12 * elm (S' 7) 21 + (-1) * elm (S' 7) 20) ∧ (0 ≤ 12 * elm (S' 7) 23 + (-1) * elm (S' 7) 20) ∧ (0 ≤ 8 * elm (S' 7) 20 + (-1) * elm (S' 7) 26) ∧ (0 ≤ 3 * elm (S' 7) 20 + (-1) * elm (S' 7) 28) ∧ (0 ≤ 40000 * elm (S' 7) 20 + (-1) * elm (S' 6) 2) ∧ (0 ≤ 12 * elm (S' 7) 31 + (-1) * elm (S' 7) 30) ∧ (0 ≤ 12 * elm (S' 7) 33 + (-1) * elm (S' 7) 30) ∧ (0 ≤ 8 * elm (S' 7) 30 + (-1) * elm (S' 7) 36) ∧ (0 ≤ 3 * elm (S' 7) 30 + (-1) * elm (S' 7) 38) ∧ (0 ≤ 40000 * elm (S' 7) 30 + (-1) * elm (S' 6) 3) ∧ (ATp (S' 7) (S' 12) 0) ∧ (ATp (S' 7) (S' 12) 1) ∧ (ATp (S' 7) (S' 12) 2) ∧ (ATp (S' 7) (S' 12) 3)) (QB g ad 20) (FA ad 20)) 0 0 (FA ad 20) := by
  refine xmet cX12_shore "EbbWreckModel" (by decide) rfl (Nat.le_of_ble_eq_true rfl) (fun p e s m below meth c E hr hlk hml hQ ls hl => ?_)
  have hx := E.1
  have hb := E.2.1
  have hs : Sp ad 20 (FA ad 20) := Sp.fa hD
  have hl : lv_has ls 1 [(0, .ref (ad 0))] := hl
  obtain ⟨f1, c2, b3⟩ := invM_7 hI
  obtain ⟨v4, ee5⟩ : ∃ z : Int32, f1 1 = z := ⟨_, rfl⟩
  have b6 : Bd v4 (0) (12) := (by rw [← ee5]; exact b3.2.1 1 (by decide))
  obtain ⟨v7, ee8⟩ : ∃ z : Int32, f1 0 = z := ⟨_, rfl⟩
  have b9 : Bd v7 (0) (12) := (by rw [← ee8]; exact b3.1 0 (by decide))
  obtain ⟨v10, ee11⟩ : ∃ z : Int32, f1 3 = z := ⟨_, rfl⟩
  have b12 : Bd v10 (0) (12) := (by rw [← ee11]; exact b3.2.2.2.1 3 (by decide))
  obtain ⟨v13, ee14⟩ : ∃ z : Int32, f1 6 = z := ⟨_, rfl⟩
  have b15 : Bd v13 (0) (8) := (by rw [← ee14]; exact b3.2.2.2.2.1 6 (by decide))
  obtain ⟨v16, ee17⟩ : ∃ z : Int32, f1 8 = z := ⟨_, rfl⟩
  have b18 : Bd v16 (0) (3) := (by rw [← ee17]; exact b3.2.2.2.2.2.2.1 8 (by decide))
  obtain ⟨f19, c20, b21⟩ := invM_6 hI
  obtain ⟨v22, ee23⟩ : ∃ z : Int32, f19 0 = z := ⟨_, rfl⟩
  have b24 : Bd v22 (0) (40000) := (by rw [← ee23]; exact b21 0)
  obtain ⟨v25, ee26⟩ : ∃ z : Int32, f1 11 = z := ⟨_, rfl⟩
  have b27 : Bd v25 (0) (12) := (by rw [← ee26]; exact b3.2.1 11 (by decide))
  obtain ⟨v28, ee29⟩ : ∃ z : Int32, f1 10 = z := ⟨_, rfl⟩
  have b30 : Bd v28 (0) (12) := (by rw [← ee29]; exact b3.1 10 (by decide))
  obtain ⟨v31, ee32⟩ : ∃ z : Int32, f1 13 = z := ⟨_, rfl⟩
  have b33 : Bd v31 (0) (12) := (by rw [← ee32]; exact b3.2.2.2.1 13 (by decide))
  obtain ⟨v34, ee35⟩ : ∃ z : Int32, f1 16 = z := ⟨_, rfl⟩
  have b36 : Bd v34 (0) (8) := (by rw [← ee35]; exact b3.2.2.2.2.1 16 (by decide))
  obtain ⟨v37, ee38⟩ : ∃ z : Int32, f1 18 = z := ⟨_, rfl⟩
  have b39 : Bd v37 (0) (3) := (by rw [← ee38]; exact b3.2.2.2.2.2.2.1 18 (by decide))
  obtain ⟨v40, ee41⟩ : ∃ z : Int32, f19 1 = z := ⟨_, rfl⟩
  have b42 : Bd v40 (0) (40000) := (by rw [← ee41]; exact b21 1)
  obtain ⟨v43, ee44⟩ : ∃ z : Int32, f1 21 = z := ⟨_, rfl⟩
  have b45 : Bd v43 (0) (12) := (by rw [← ee44]; exact b3.2.1 21 (by decide))
  obtain ⟨v46, ee47⟩ : ∃ z : Int32, f1 20 = z := ⟨_, rfl⟩
  have b48 : Bd v46 (0) (12) := (by rw [← ee47]; exact b3.1 20 (by decide))
  obtain ⟨v49, ee50⟩ : ∃ z : Int32, f1 23 = z := ⟨_, rfl⟩
  have b51 : Bd v49 (0) (12) := (by rw [← ee50]; exact b3.2.2.2.1 23 (by decide))
  obtain ⟨v52, ee53⟩ : ∃ z : Int32, f1 26 = z := ⟨_, rfl⟩
  have b54 : Bd v52 (0) (8) := (by rw [← ee53]; exact b3.2.2.2.2.1 26 (by decide))
  obtain ⟨v55, ee56⟩ : ∃ z : Int32, f1 28 = z := ⟨_, rfl⟩
  have b57 : Bd v55 (0) (3) := (by rw [← ee56]; exact b3.2.2.2.2.2.2.1 28 (by decide))
  obtain ⟨v58, ee59⟩ : ∃ z : Int32, f19 2 = z := ⟨_, rfl⟩
  have b60 : Bd v58 (0) (40000) := (by rw [← ee59]; exact b21 2)
  obtain ⟨v61, ee62⟩ : ∃ z : Int32, f1 31 = z := ⟨_, rfl⟩
  have b63 : Bd v61 (0) (12) := (by rw [← ee62]; exact b3.2.1 31 (by decide))
  obtain ⟨v64, ee65⟩ : ∃ z : Int32, f1 30 = z := ⟨_, rfl⟩
  have b66 : Bd v64 (0) (12) := (by rw [← ee65]; exact b3.1 30 (by decide))
  obtain ⟨v67, ee68⟩ : ∃ z : Int32, f1 33 = z := ⟨_, rfl⟩
  have b69 : Bd v67 (0) (12) := (by rw [← ee68]; exact b3.2.2.2.1 33 (by decide))
  obtain ⟨v70, ee71⟩ : ∃ z : Int32, f1 36 = z := ⟨_, rfl⟩
  have b72 : Bd v70 (0) (8) := (by rw [← ee71]; exact b3.2.2.2.2.1 36 (by decide))
  obtain ⟨v73, ee74⟩ : ∃ z : Int32, f1 38 = z := ⟨_, rfl⟩
  have b75 : Bd v73 (0) (3) := (by rw [← ee74]; exact b3.2.2.2.2.2.2.1 38 (by decide))
  obtain ⟨v76, ee77⟩ : ∃ z : Int32, f19 3 = z := ⟨_, rfl⟩
  have b78 : Bd v76 (0) (40000) := (by rw [← ee77]; exact b21 3)
  obtain ⟨v79, ee80⟩ : ∃ z : Int32, f1 9 = z := ⟨_, rfl⟩
  have b81 : Bd v79 (0) (40) := (by rw [← ee80]; exact b3.2.2.2.2.2.2.2 9 (by decide))
  obtain ⟨v82, ee83⟩ : ∃ z : Int32, f1 19 = z := ⟨_, rfl⟩
  have b84 : Bd v82 (0) (40) := (by rw [← ee83]; exact b3.2.2.2.2.2.2.2 19 (by decide))
  obtain ⟨v85, ee86⟩ : ∃ z : Int32, f1 29 = z := ⟨_, rfl⟩
  have b87 : Bd v85 (0) (40) := (by rw [← ee86]; exact b3.2.2.2.2.2.2.2 29 (by decide))
  obtain ⟨v88, ee89⟩ : ∃ z : Int32, f1 39 = z := ⟨_, rfl⟩
  have b90 : Bd v88 (0) (40) := (by rw [← ee89]; exact b3.2.2.2.2.2.2.2 39 (by decide))
  have q91 : elm (S 7) 1 = v4.toInt := (elm_of c2 1).trans (congrArg Int32.toInt (ee5))
  have q92 : elm (S 7) 0 = v7.toInt := (elm_of c2 0).trans (congrArg Int32.toInt (ee8))
  have q93 : elm (S 7) 3 = v10.toInt := (elm_of c2 3).trans (congrArg Int32.toInt (ee11))
  have q94 : elm (S 7) 6 = v13.toInt := (elm_of c2 6).trans (congrArg Int32.toInt (ee14))
  have q95 : elm (S 7) 8 = v16.toInt := (elm_of c2 8).trans (congrArg Int32.toInt (ee17))
  have q96 : elm (S 6) 0 = v22.toInt := (elm_of c20 0).trans (congrArg Int32.toInt (ee23))
  have q97 : elm (S 7) 11 = v25.toInt := (elm_of c2 11).trans (congrArg Int32.toInt (ee26))
  have q98 : elm (S 7) 10 = v28.toInt := (elm_of c2 10).trans (congrArg Int32.toInt (ee29))
  have q99 : elm (S 7) 13 = v31.toInt := (elm_of c2 13).trans (congrArg Int32.toInt (ee32))
  have q100 : elm (S 7) 16 = v34.toInt := (elm_of c2 16).trans (congrArg Int32.toInt (ee35))
  have q101 : elm (S 7) 18 = v37.toInt := (elm_of c2 18).trans (congrArg Int32.toInt (ee38))
  have q102 : elm (S 6) 1 = v40.toInt := (elm_of c20 1).trans (congrArg Int32.toInt (ee41))
  have q103 : elm (S 7) 21 = v43.toInt := (elm_of c2 21).trans (congrArg Int32.toInt (ee44))
  have q104 : elm (S 7) 20 = v46.toInt := (elm_of c2 20).trans (congrArg Int32.toInt (ee47))
  have q105 : elm (S 7) 23 = v49.toInt := (elm_of c2 23).trans (congrArg Int32.toInt (ee50))
  have q106 : elm (S 7) 26 = v52.toInt := (elm_of c2 26).trans (congrArg Int32.toInt (ee53))
  have q107 : elm (S 7) 28 = v55.toInt := (elm_of c2 28).trans (congrArg Int32.toInt (ee56))
  have q108 : elm (S 6) 2 = v58.toInt := (elm_of c20 2).trans (congrArg Int32.toInt (ee59))
  have q109 : elm (S 7) 31 = v61.toInt := (elm_of c2 31).trans (congrArg Int32.toInt (ee62))
  have q110 : elm (S 7) 30 = v64.toInt := (elm_of c2 30).trans (congrArg Int32.toInt (ee65))
  have q111 : elm (S 7) 33 = v67.toInt := (elm_of c2 33).trans (congrArg Int32.toInt (ee68))
  have q112 : elm (S 7) 36 = v70.toInt := (elm_of c2 36).trans (congrArg Int32.toInt (ee71))
  have q113 : elm (S 7) 38 = v73.toInt := (elm_of c2 38).trans (congrArg Int32.toInt (ee74))
  have q114 : elm (S 6) 3 = v76.toInt := (elm_of c20 3).trans (congrArg Int32.toInt (ee77))
  have q115 : elm (S 7) 9 = v79.toInt := (elm_of c2 9).trans (congrArg Int32.toInt (ee80))
  have q116 : elm (S 7) 19 = v82.toInt := (elm_of c2 19).trans (congrArg Int32.toInt (ee83))
  have q117 : elm (S 7) 29 = v85.toInt := (elm_of c2 29).trans (congrArg Int32.toInt (ee86))
  have q118 : elm (S 7) 39 = v88.toInt := (elm_of c2 39).trans (congrArg Int32.toInt (ee89))
  have ef7_0 : EFp (S 7) (S 7) 0 40 := fun _ _ _ => rfl
  have ef6_0 : EFp (S 6) (S 6) 0 4 := fun _ _ _ => rfl
  obtain ⟨f119, c120, b121⟩ := invM_12 hI
  refine lv_aload_n hx hb dX12_shore_0 rfl (lv_at hl 0 rfl) ?_
  refine lv_iconst (v := 0) hx hb dX12_shore_1 (by decide) ?_
  obtain ⟨v122, v123, v125, v127, v129, v130, w131, v132, v134, v135, v136, v137, v139, v141, v143, v145, v147, v148, v149, c150, b124, b126, b128, b133, b138, b140, b142, b144, b146⟩ := invM_0 hI
  have c150 : S 0 = .inr (12, [.int v122, .ref (ad 1), .ref (ad 2), .ref (ad 3), .ref (ad 4), .ref (ad 5), .int v123, .int v125, .int v127, .int v129, .int v130, .long w131, .int v132, .int v134, .int v135, .int v136, .ref (ad 6), .ref (ad 7), .ref (ad 8), .ref (ad 9), .ref (ad 10), .ref (ad 11), .ref (ad 12), .ref (ad 13), .ref (ad 14), .ref (ad 15), .int v137, .int v139, .ref (ad 16), .int v141, .int v143, .int v145, .int v147, .int v148, .ref (ad 17), .ref (ad 18), .int v149, .ref (ad 19)]) := c150
  refine xputi E hs hQ 0 (by decide) c150 rfl 0 (by decide) q1468 rfl rfl (Nat.le_of_ble_eq_true rfl) dX12_shore_2 (fun H locs S151 eS151 hQ => ?_)
  have hI := invM_up_0 hI eS151 ⟨0, v123, v125, v127, v129, v130, w131, v132, v134, v135, v136, v137, v139, v141, v143, v145, v147, v148, v149, rfl, b124, b126, b128, b133, b138, b140, b142, b144, b146⟩
  have c152 : S151 0 = .inr (12, [.int 0, .ref (ad 1), .ref (ad 2), .ref (ad 3), .ref (ad 4), .ref (ad 5), .int v123, .int v125, .int v127, .int v129, .int v130, .long w131, .int v132, .int v134, .int v135, .int v136, .ref (ad 6), .ref (ad 7), .ref (ad 8), .ref (ad 9), .ref (ad 10), .ref (ad 11), .ref (ad 12), .ref (ad 13), .ref (ad 14), .ref (ad 15), .int v137, .int v139, .ref (ad 16), .int v141, .int v143, .int v145, .int v147, .int v148, .ref (ad 17), .ref (ad 18), .int v149, .ref (ad 19)]) := up_at eS151 rfl
  refine lv_aload_n hx hb dX12_shore_5 rfl (lv_at hl 0 rfl) ?_
  refine xcVv E hs hQ hml hl.1 0 (gX12_clears_0 l g ad hD S151 hI ) mX12_clears q1625 (by decide) c152 rfl rfl ⟨(Nat.le_of_ble_eq_true rfl), (Nat.le_of_ble_eq_true rfl)⟩ ⟨(Nat.le_of_ble_eq_true rfl), (Nat.le_of_ble_eq_true rfl)⟩ (Nat.le_of_ble_eq_true rfl) rfl dX12_shore_6 (fun S153 H locs hp153 hQ _ => ?_)
  obtain ⟨hI, o153, g153_0, g153_1, g153_2, g153_3, g153_4, g153_5, g153_6, g153_7, ef153_7, ef153_6⟩ := hp153
  have ef154 : EFp (S153 7) (S 7) 0 40 := ef_tt ef153_7 (ef_tr ef7_0 (up_eq (j := 7) eS151 (by decide)))
  have ef155 : EFp (S153 6) (S 6) 0 4 := ef_tt ef153_6 (ef_tr ef6_0 (up_eq (j := 6) eS151 (by decide)))
  obtain ⟨f156, c157, b158⟩ := invM_7 hI
  obtain ⟨v159, ee160⟩ : ∃ z : Int32, f156 40 = z := ⟨_, rfl⟩
  have b161 : Bd v159 (0) (12) := (by rw [← ee160]; exact b158.1 40 (by decide))
  have q162 : elm (S153 7) 40 = v159.toInt := (elm_of c157 40).trans (congrArg Int32.toInt (ee160))
  have b163 : Bd v159 (0) (0) := ⟨(b161).1, by omega⟩
  obtain ⟨v164, ee165⟩ : ∃ z : Int32, f156 41 = z := ⟨_, rfl⟩
  have b166 : Bd v164 (0) (12) := (by rw [← ee165]; exact b158.2.1 41 (by decide))
  have q167 : elm (S153 7) 41 = v164.toInt := (elm_of c157 41).trans (congrArg Int32.toInt (ee165))
  have b168 : Bd v164 (0) (0) := ⟨(b166).1, by omega⟩
  obtain ⟨v169, ee170⟩ : ∃ z : Int32, f156 43 = z := ⟨_, rfl⟩
  have b171 : Bd v169 (0) (12) := (by rw [← ee170]; exact b158.2.2.2.1 43 (by decide))
  have q172 : elm (S153 7) 43 = v169.toInt := (elm_of c157 43).trans (congrArg Int32.toInt (ee170))
  have b173 : Bd v169 (0) (0) := ⟨(b171).1, by omega⟩
  obtain ⟨v174, ee175⟩ : ∃ z : Int32, f156 46 = z := ⟨_, rfl⟩
  have b176 : Bd v174 (0) (8) := (by rw [← ee175]; exact b158.2.2.2.2.1 46 (by decide))
  have q177 : elm (S153 7) 46 = v174.toInt := (elm_of c157 46).trans (congrArg Int32.toInt (ee175))
  have b178 : Bd v174 (0) (0) := ⟨(b176).1, by omega⟩
  obtain ⟨v179, ee180⟩ : ∃ z : Int32, f156 47 = z := ⟨_, rfl⟩
  have b181 : Bd v179 (0) (6) := (by rw [← ee180]; exact b158.2.2.2.2.2.1 47 (by decide))
  have q182 : elm (S153 7) 47 = v179.toInt := (elm_of c157 47).trans (congrArg Int32.toInt (ee180))
  have b183 : Bd v179 (0) (0) := ⟨(b181).1, by omega⟩
  obtain ⟨v184, ee185⟩ : ∃ z : Int32, f156 48 = z := ⟨_, rfl⟩
  have b186 : Bd v184 (0) (3) := (by rw [← ee185]; exact b158.2.2.2.2.2.2.1 48 (by decide))
  have q187 : elm (S153 7) 48 = v184.toInt := (elm_of c157 48).trans (congrArg Int32.toInt (ee185))
  have b188 : Bd v184 (0) (0) := ⟨(b186).1, by omega⟩
  obtain ⟨v189, ee190⟩ : ∃ z : Int32, f156 49 = z := ⟨_, rfl⟩
  have b191 : Bd v189 (0) (40) := (by rw [← ee190]; exact b158.2.2.2.2.2.2.2 49 (by decide))
  have q192 : elm (S153 7) 49 = v189.toInt := (elm_of c157 49).trans (congrArg Int32.toInt (ee190))
  have b193 : Bd v189 (0) (0) := ⟨(b191).1, by omega⟩
  obtain ⟨f194, c195, b196⟩ := invM_6 hI
  obtain ⟨v197, ee198⟩ : ∃ z : Int32, f194 4 = z := ⟨_, rfl⟩
  have b199 : Bd v197 (0) (40000) := (by rw [← ee198]; exact b196 4)
  have q200 : elm (S153 6) 4 = v197.toInt := (elm_of c195 4).trans (congrArg Int32.toInt (ee198))
  have b201 : Bd v197 (0) (0) := ⟨(b199).1, by omega⟩
  refine lv_aload_n hx hb dX12_shore_9 rfl (lv_at hl 0 rfl) ?_
  have c202 : S153 0 = .inr (12, [.int 0, .ref (ad 1), .ref (ad 2), .ref (ad 3), .ref (ad 4), .ref (ad 5), .int v123, .int v125, .int v127, .int v129, .int v130, .long w131, .int v132, .int v134, .int v135, .int v136, .ref (ad 6), .ref (ad 7), .ref (ad 8), .ref (ad 9), .ref (ad 10), .ref (ad 11), .ref (ad 12), .ref (ad 13), .ref (ad 14), .ref (ad 15), .int v137, .int v139, .ref (ad 16), .int v141, .int v143, .int v145, .int v147, .int v148, .ref (ad 17), .ref (ad 18), .int v149, .ref (ad 19)]) := ((o153 0 (by decide)).trans c152)
  refine xcVv E hs hQ hml hl.1 0 (gX12_begins_0 l g ad hD S153 hI ) mX12_begins q1633 (by decide) c202 rfl rfl ⟨(Nat.le_of_ble_eq_true rfl), (Nat.le_of_ble_eq_true rfl)⟩ ⟨(Nat.le_of_ble_eq_true rfl), (Nat.le_of_ble_eq_true rfl)⟩ (Nat.le_of_ble_eq_true rfl) rfl dX12_shore_10 (fun S203 H locs hp203 hQ _ => ?_)
  obtain ⟨hI, o203, g203_0, g203_1, g203_2⟩ := hp203
  obtain ⟨v204, v205, v207, v209, v211, v212, w213, v214, v216, v217, v218, v219, v221, v223, v225, v227, v229, v230, v231, c232, b206, b208, b210, b215, b220, b222, b224, b226, b228⟩ := invM_0 hI
  have c232 : S203 0 = .inr (12, [.int v204, .ref (ad 1), .ref (ad 2), .ref (ad 3), .ref (ad 4), .ref (ad 5), .int v205, .int v207, .int v209, .int v211, .int v212, .long w213, .int v214, .int v216, .int v217, .int v218, .ref (ad 6), .ref (ad 7), .ref (ad 8), .ref (ad 9), .ref (ad 10), .ref (ad 11), .ref (ad 12), .ref (ad 13), .ref (ad 14), .ref (ad 15), .int v219, .int v221, .ref (ad 16), .int v223, .int v225, .int v227, .int v229, .int v230, .ref (ad 17), .ref (ad 18), .int v231, .ref (ad 19)]) := c232
  have q233 : fld (S203 0) 6 = v205.toInt := fld_of c232 rfl
  have q234 : fld (S203 0) 7 = v207.toInt := fld_of c232 rfl
  have q235 : fld (S153 0) 6 = v123.toInt := fld_of c202 rfl
  have q236 : fld (S203 0) 12 = v214.toInt := fld_of c232 rfl
  have b237 : Bd v214 (0) (0) := ⟨(b215).1, by omega⟩
  have c238 : S203 7 = .inl (g.2 0, 50, .inl f156) := ((o203 7 (by decide)).trans c157)
  have c239 : S203 6 = .inl (g.2 0, 5, .inl f194) := ((o203 6 (by decide)).trans c195)
  have loop13 : ∀ (n : Nat) (S_13 : SS) (H : Heap) (locs : List Loc) (ls : Array Slot) (y13_0_0 : Int32) (y13_0_6 : Int32) (y13_0_7 : Int32) (y13_0_8 : Int32) (y13_0_9 : Int32) (y13_0_10 : Int32) (wy13_0_11 : Int64) (y13_0_12 : Int32) (y13_0_13 : Int32) (y13_0_14 : Int32) (y13_0_15 : Int32) (y13_0_26 : Int32) (y13_0_27 : Int32) (y13_0_29 : Int32) (y13_0_30 : Int32) (y13_0_31 : Int32) (y13_0_32 : Int32) (y13_0_33 : Int32) (y13_0_36 : Int32) (ye13_7_40 : Int32) (ye13_7_41 : Int32) (ye13_7_43 : Int32) (ye13_7_46 : Int32) (ye13_7_47 : Int32) (ye13_7_48 : Int32) (ye13_7_49 : Int32) (ye13_6_4 : Int32), Bd y13_0_6 (0) (1200) → Bd y13_0_7 (0) (1200) → Bd y13_0_8 (0) (4) → Bd y13_0_12 (0) (3) → Bd y13_0_26 (0) (11) → Bd y13_0_27 (-1) (400) → Bd y13_0_29 (0) (2) → Bd y13_0_30 (0) (11) → Bd y13_0_31 (-1) (468) → Bd ye13_7_40 (0) (12) → Bd ye13_7_41 (0) (12) → Bd ye13_7_43 (0) (12) → Bd ye13_7_46 (0) (8) → Bd ye13_7_47 (0) (6) → Bd ye13_7_48 (0) (3) → Bd ye13_7_49 (0) (0) → Bd ye13_6_4 (0) (100000) → 0 ≤ v205.toInt + (-1) * v207.toInt → 0 ≤ (-1) * v189.toInt → 0 ≤ v189.toInt → 0 ≤ (-1) * v197.toInt + (-4) * v205.toInt + 4 * v207.toInt + (-1) * v209.toInt + 10000 * v214.toInt + 4804 → 0 ≤ 12 * v164.toInt + (-1) * v159.toInt → 0 ≤ 12 * v169.toInt + (-1) * v159.toInt → 0 ≤ 8 * v159.toInt + (-1) * v174.toInt → 0 ≤ 3 * v159.toInt + (-1) * v184.toInt → 0 ≤ 40000 * v159.toInt + (-1) * v197.toInt → 0 ≤ y13_0_6.toInt + (-1) * y13_0_7.toInt → 0 ≤ (-1) * ye13_7_49.toInt → 0 ≤ ye13_7_49.toInt → 0 ≤ (-1) * ye13_6_4.toInt + (-4) * y13_0_6.toInt + 4 * y13_0_7.toInt + (-1) * y13_0_8.toInt + 10000 * y13_0_12.toInt + 4804 → 0 ≤ 12 * ye13_7_41.toInt + (-1) * ye13_7_40.toInt → 0 ≤ 12 * ye13_7_43.toInt + (-1) * ye13_7_40.toInt → 0 ≤ 8 * ye13_7_40.toInt + (-1) * ye13_7_46.toInt → 0 ≤ 3 * ye13_7_40.toInt + (-1) * ye13_7_48.toInt → 0 ≤ 40000 * ye13_7_40.toInt + (-1) * ye13_6_4.toInt → 4 * y13_0_6.toInt + (-4) * y13_0_7.toInt + y13_0_8.toInt + (-10000) * y13_0_12.toInt + 30000 < ((n : Nat) : Int) → InvM g ad S_13 → (∀ j, j ∉ ([0, 6, 7, 8, 9, 10, 11] : List Nat) → S_13 j = S203 j) → S_13 0 = .inr (12, [.int y13_0_0, .ref (ad 1), .ref (ad 2), .ref (ad 3), .ref (ad 4), .ref (ad 5), .int y13_0_6, .int y13_0_7, .int y13_0_8, .int y13_0_9, .int y13_0_10, .long wy13_0_11, .int y13_0_12, .int y13_0_13, .int y13_0_14, .int y13_0_15, .ref (ad 6), .ref (ad 7), .ref (ad 8), .ref (ad 9), .ref (ad 10), .ref (ad 11), .ref (ad 12), .ref (ad 13), .ref (ad 14), .ref (ad 15), .int y13_0_26, .int y13_0_27, .ref (ad 16), .int y13_0_29, .int y13_0_30, .int y13_0_31, .int y13_0_32, .int y13_0_33, .ref (ad 17), .ref (ad 18), .int y13_0_36, .ref (ad 19)]) → EFp (S_13 7) (S 7) 0 40 → EFp (S_13 6) (S 6) 0 4 → elm (S_13 7) 40 = ye13_7_40.toInt → elm (S_13 7) 41 = ye13_7_41.toInt → elm (S_13 7) 43 = ye13_7_43.toInt → elm (S_13 7) 46 = ye13_7_46.toInt → elm (S_13 7) 47 = ye13_7_47.toInt → elm (S_13 7) 48 = ye13_7_48.toInt → elm (S_13 7) 49 = ye13_7_49.toInt → elm (S_13 6) 4 = ye13_6_4.toInt → Hp g ad 20 S_13 (FA ad 20) s.heap H locs → lv_has ls 1 [(0, .ref (ad 0))] → W p l e (Rm 7) s m [.ref (ad 0)].toArray below meth c H locs 0 0 (MQ below (va_Qi (fun r S' => InvM g ad S' ∧ (∀ j, j ∉ ([0, 6, 7, 8, 9, 10, 11, 12] : List Nat) → S' j = S j) ∧ Bd r (-4) (4804) ∧ (0 ≤ 12 * elm (S' 7) 1 + (-1) * elm (S' 7) 0) ∧ (0 ≤ 12 * elm (S' 7) 3 + (-1) * elm (S' 7) 0) ∧ (0 ≤ 8 * elm (S' 7) 0 + (-1) * elm (S' 7) 6) ∧ (0 ≤ 3 * elm (S' 7) 0 + (-1) * elm (S' 7) 8) ∧ (0 ≤ 40000 * elm (S' 7) 0 + (-1) * elm (S' 6) 0) ∧ (0 ≤ 12 * elm (S' 7) 11 + (-1) * elm (S' 7) 10) ∧ (0 ≤ 12 * elm (S' 7) 13 + (-1) * elm (S' 7) 10) ∧ (0 ≤ 8 * elm (S' 7) 10 + (-1) * elm (S' 7) 16) ∧ (0 ≤ 3 * elm (S' 7) 10 + (-1) * elm (S' 7) 18) ∧ (0 ≤ 40000 * elm (S' 7) 10 + (-1) * elm (S' 6) 1) ∧ (0 ≤ 12 * elm (S' 7) 21 + (-1) * elm (S' 7) 20) ∧ (0 ≤ 12 * elm (S' 7) 23 + (-1) * elm (S' 7) 20) ∧ (0 ≤ 8 * elm (S' 7) 20 + (-1) * elm (S' 7) 26) ∧ (0 ≤ 3 * elm (S' 7) 20 + (-1) * elm (S' 7) 28) ∧ (0 ≤ 40000 * elm (S' 7) 20 + (-1) * elm (S' 6) 2) ∧ (0 ≤ 12 * elm (S' 7) 31 + (-1) * elm (S' 7) 30) ∧ (0 ≤ 12 * elm (S' 7) 33 + (-1) * elm (S' 7) 30) ∧ (0 ≤ 8 * elm (S' 7) 30 + (-1) * elm (S' 7) 36) ∧ (0 ≤ 3 * elm (S' 7) 30 + (-1) * elm (S' 7) 38) ∧ (0 ≤ 40000 * elm (S' 7) 30 + (-1) * elm (S' 6) 3) ∧ (ATp (S' 7) (S' 12) 0) ∧ (ATp (S' 7) (S' 12) 1) ∧ (ATp (S' 7) (S' 12) 2) ∧ (ATp (S' 7) (S' 12) 3)) (QB g ad 20) (FA ad 20)) [.ref (ad 0)].toArray s 0 0 (FA ad 20)) (F0 m 13 ls []) := by
    intro n
    induction n with
    | zero => intro S_13 H locs ls y13_0_0 y13_0_6 y13_0_7 y13_0_8 y13_0_9 y13_0_10 wy13_0_11 y13_0_12 y13_0_13 y13_0_14 y13_0_15 y13_0_26 y13_0_27 y13_0_29 y13_0_30 y13_0_31 y13_0_32 y13_0_33 y13_0_36 ye13_7_40 ye13_7_41 ye13_7_43 ye13_7_46 ye13_7_47 ye13_7_48 ye13_7_49 ye13_6_4 By13_0_6 By13_0_7 By13_0_8 By13_0_12 By13_0_26 By13_0_27 By13_0_29 By13_0_30 By13_0_31 Bye13_7_40 Bye13_7_41 Bye13_7_43 Bye13_7_46 Bye13_7_47 Bye13_7_48 Bye13_7_49 Bye13_6_4 C13_0 C13_1 C13_2 C13_3 C13_4 C13_5 C13_6 C13_7 C13_8 C13_9 C13_10 C13_11 C13_12 C13_13 C13_14 C13_15 C13_16 C13_17 hn13_ hI hf13 cl13_0 hE13_7 hE13_6 hy13_7_40 hy13_7_41 hy13_7_43 hy13_7_46 hy13_7_47 hy13_7_48 hy13_7_49 hy13_6_4 hQ hl; exfalso; omega
    | succ n13_ ih13 =>
      intro S_13 H locs ls y13_0_0 y13_0_6 y13_0_7 y13_0_8 y13_0_9 y13_0_10 wy13_0_11 y13_0_12 y13_0_13 y13_0_14 y13_0_15 y13_0_26 y13_0_27 y13_0_29 y13_0_30 y13_0_31 y13_0_32 y13_0_33 y13_0_36 ye13_7_40 ye13_7_41 ye13_7_43 ye13_7_46 ye13_7_47 ye13_7_48 ye13_7_49 ye13_6_4 By13_0_6 By13_0_7 By13_0_8 By13_0_12 By13_0_26 By13_0_27 By13_0_29 By13_0_30 By13_0_31 Bye13_7_40 Bye13_7_41 Bye13_7_43 Bye13_7_46 Bye13_7_47 Bye13_7_48 Bye13_7_49 Bye13_6_4 C13_0 C13_1 C13_2 C13_3 C13_4 C13_5 C13_6 C13_7 C13_8 C13_9 C13_10 C13_11 C13_12 C13_13 C13_14 C13_15 C13_16 C13_17 hn13_ hI hf13 cl13_0 hE13_7 hE13_6 hy13_7_40 hy13_7_41 hy13_7_43 hy13_7_46 hy13_7_47 hy13_7_48 hy13_7_49 hy13_6_4 hQ hl
      have b240 : Bd ye13_6_4 (0) (34804) := ⟨(Bye13_6_4).1, by omega⟩
      refine lv_aload_n hx hb dX12_shore_13 rfl (lv_at hl 0 rfl) ?_
      refine xcVi E hs hQ hml hl.1 0 (gX12_isGood_0 l g ad hD S_13 hI ) mX12_isGood q1650 (by decide) cl13_0 rfl rfl ⟨(Nat.le_of_ble_eq_true rfl), (Nat.le_of_ble_eq_true rfl)⟩ ⟨(Nat.le_of_ble_eq_true rfl), (Nat.le_of_ble_eq_true rfl)⟩ (Nat.le_of_ble_eq_true rfl) rfl dX12_shore_14 (fun r241 S241 H locs hp241 hQ _ => ?_)
      obtain ⟨rfl, b241, g241_0, g241_1⟩ := hp241
      have q242 : fld (S_13 0) 12 = y13_0_12.toInt := fld_of cl13_0 rfl
      refine lv_if_eq (tgt := 149) hx hb dX12_shore_17 (by decide) (fun k243 => ?_) (fun k243 => ?_)
      · have h244 := ib_eq k243
        have b245 : Bd r241 (0) (0) := ⟨(b241).1, ((rf_eq b241 (by decide : Bd 0 (0) (0)) h244).1).2⟩
        clear g241_0
        have g246 := g241_1.resolve_left (by omega)
        clear g241_1
        have b247 : Bd y13_0_12 (1) (3) := ⟨by omega, (By13_0_12).2⟩
        refine lv_aload_n hx hb dX12_shore_149 rfl (lv_at hl 0 rfl) ?_
        refine xcVv E hs hQ hml hl.1 0 (gX12_isOver_0 l g ad hD S_13 hI ) mX12_isOver q1735 (by decide) cl13_0 rfl rfl ⟨(Nat.le_of_ble_eq_true rfl), (Nat.le_of_ble_eq_true rfl)⟩ ⟨(Nat.le_of_ble_eq_true rfl), (Nat.le_of_ble_eq_true rfl)⟩ (Nat.le_of_ble_eq_true rfl) rfl dX12_shore_150 (fun S248 H locs hp248 hQ _ => ?_)
        obtain ⟨hI, o248, g248_0⟩ := hp248
        obtain ⟨v249, v250, v252, v254, v256, v257, w258, v259, v261, v262, v263, v264, v266, v268, v270, v272, v274, v275, v276, c277, b251, b253, b255, b260, b265, b267, b269, b271, b273⟩ := invM_0 hI
        have c277 : S248 0 = .inr (12, [.int v249, .ref (ad 1), .ref (ad 2), .ref (ad 3), .ref (ad 4), .ref (ad 5), .int v250, .int v252, .int v254, .int v256, .int v257, .long w258, .int v259, .int v261, .int v262, .int v263, .ref (ad 6), .ref (ad 7), .ref (ad 8), .ref (ad 9), .ref (ad 10), .ref (ad 11), .ref (ad 12), .ref (ad 13), .ref (ad 14), .ref (ad 15), .int v264, .int v266, .ref (ad 16), .int v268, .int v270, .int v272, .int v274, .int v275, .ref (ad 17), .ref (ad 18), .int v276, .ref (ad 19)]) := c277
        have q278 : fld (S248 0) 12 = v259.toInt := fld_of c277 rfl
        have b279 : Bd v259 (1) (3) := ⟨by omega, (b260).2⟩
        refine lv_aload_n hx hb dX12_shore_153 rfl (lv_at hl 0 rfl) ?_
        refine xget E hQ 0 (by decide) c277 rfl 12 (by decide) q1480 rfl dX12_shore_154 ?_
        refine lv_if_eq (tgt := 163) hx hb dX12_shore_157 (by decide) (fun k280 => ?_) (fun k280 => ?_)
        · have h281 := ib_eq k280
          have b282 : Bd v259 (1) (0) := ⟨(b279).1, ((rf_eq b279 (by decide : Bd 0 (0) (0)) h281).1).2⟩
          exact absurd (Int.le_trans b282.1 b282.2) (by decide)
        · have h283 := ib_ne k280
          have ef284 : EFp (S248 7) (S 7) 0 40 := (ef_tr hE13_7 (o248 7 (by decide)))
          obtain ⟨f285, c286, b287⟩ := invM_7 hI
          obtain ⟨v288, ee289⟩ : ∃ z : Int32, f285 0 = z := ⟨_, rfl⟩
          have b290 : Bd v288 (0) (12) := (by rw [← ee289]; exact b287.1 0 (by decide))
          have q291 : elm (S248 7) 0 = v288.toInt := (elm_of c286 0).trans (congrArg Int32.toInt (ee289))
          have t292 : v288.toInt = v7.toInt := by have h0 := ef284 0 (by decide) (by decide); omega
          obtain ⟨v293, ee294⟩ : ∃ z : Int32, f285 1 = z := ⟨_, rfl⟩
          have b295 : Bd v293 (0) (12) := (by rw [← ee294]; exact b287.2.1 1 (by decide))
          have q296 : elm (S248 7) 1 = v293.toInt := (elm_of c286 1).trans (congrArg Int32.toInt (ee294))
          have t297 : v293.toInt = v4.toInt := by have h0 := ef284 1 (by decide) (by decide); omega
          obtain ⟨v298, ee299⟩ : ∃ z : Int32, f285 3 = z := ⟨_, rfl⟩
          have b300 : Bd v298 (0) (12) := (by rw [← ee299]; exact b287.2.2.2.1 3 (by decide))
          have q301 : elm (S248 7) 3 = v298.toInt := (elm_of c286 3).trans (congrArg Int32.toInt (ee299))
          have t302 : v298.toInt = v10.toInt := by have h0 := ef284 3 (by decide) (by decide); omega
          obtain ⟨v303, ee304⟩ : ∃ z : Int32, f285 6 = z := ⟨_, rfl⟩
          have b305 : Bd v303 (0) (8) := (by rw [← ee304]; exact b287.2.2.2.2.1 6 (by decide))
          have q306 : elm (S248 7) 6 = v303.toInt := (elm_of c286 6).trans (congrArg Int32.toInt (ee304))
          have t307 : v303.toInt = v13.toInt := by have h0 := ef284 6 (by decide) (by decide); omega
          obtain ⟨v308, ee309⟩ : ∃ z : Int32, f285 8 = z := ⟨_, rfl⟩
          have b310 : Bd v308 (0) (3) := (by rw [← ee309]; exact b287.2.2.2.2.2.2.1 8 (by decide))
          have q311 : elm (S248 7) 8 = v308.toInt := (elm_of c286 8).trans (congrArg Int32.toInt (ee309))
          have t312 : v308.toInt = v16.toInt := by have h0 := ef284 8 (by decide) (by decide); omega
          obtain ⟨v313, ee314⟩ : ∃ z : Int32, f285 9 = z := ⟨_, rfl⟩
          have b315 : Bd v313 (0) (40) := (by rw [← ee314]; exact b287.2.2.2.2.2.2.2 9 (by decide))
          have q316 : elm (S248 7) 9 = v313.toInt := (elm_of c286 9).trans (congrArg Int32.toInt (ee314))
          have t317 : v313.toInt = v79.toInt := by have h0 := ef284 9 (by decide) (by decide); omega
          obtain ⟨v318, ee319⟩ : ∃ z : Int32, f285 10 = z := ⟨_, rfl⟩
          have b320 : Bd v318 (0) (12) := (by rw [← ee319]; exact b287.1 10 (by decide))
          have q321 : elm (S248 7) 10 = v318.toInt := (elm_of c286 10).trans (congrArg Int32.toInt (ee319))
          have t322 : v318.toInt = v28.toInt := by have h0 := ef284 10 (by decide) (by decide); omega
          obtain ⟨v323, ee324⟩ : ∃ z : Int32, f285 11 = z := ⟨_, rfl⟩
          have b325 : Bd v323 (0) (12) := (by rw [← ee324]; exact b287.2.1 11 (by decide))
          have q326 : elm (S248 7) 11 = v323.toInt := (elm_of c286 11).trans (congrArg Int32.toInt (ee324))
          have t327 : v323.toInt = v25.toInt := by have h0 := ef284 11 (by decide) (by decide); omega
          obtain ⟨v328, ee329⟩ : ∃ z : Int32, f285 13 = z := ⟨_, rfl⟩
          have b330 : Bd v328 (0) (12) := (by rw [← ee329]; exact b287.2.2.2.1 13 (by decide))
          have q331 : elm (S248 7) 13 = v328.toInt := (elm_of c286 13).trans (congrArg Int32.toInt (ee329))
          have t332 : v328.toInt = v31.toInt := by have h0 := ef284 13 (by decide) (by decide); omega
          obtain ⟨v333, ee334⟩ : ∃ z : Int32, f285 16 = z := ⟨_, rfl⟩
          have b335 : Bd v333 (0) (8) := (by rw [← ee334]; exact b287.2.2.2.2.1 16 (by decide))
          have q336 : elm (S248 7) 16 = v333.toInt := (elm_of c286 16).trans (congrArg Int32.toInt (ee334))
          have t337 : v333.toInt = v34.toInt := by have h0 := ef284 16 (by decide) (by decide); omega
          obtain ⟨v338, ee339⟩ : ∃ z : Int32, f285 18 = z := ⟨_, rfl⟩
          have b340 : Bd v338 (0) (3) := (by rw [← ee339]; exact b287.2.2.2.2.2.2.1 18 (by decide))
          have q341 : elm (S248 7) 18 = v338.toInt := (elm_of c286 18).trans (congrArg Int32.toInt (ee339))
          have t342 : v338.toInt = v37.toInt := by have h0 := ef284 18 (by decide) (by decide); omega
          obtain ⟨v343, ee344⟩ : ∃ z : Int32, f285 19 = z := ⟨_, rfl⟩
          have b345 : Bd v343 (0) (40) := (by rw [← ee344]; exact b287.2.2.2.2.2.2.2 19 (by decide))
          have q346 : elm (S248 7) 19 = v343.toInt := (elm_of c286 19).trans (congrArg Int32.toInt (ee344))
          have t347 : v343.toInt = v82.toInt := by have h0 := ef284 19 (by decide) (by decide); omega
          obtain ⟨v348, ee349⟩ : ∃ z : Int32, f285 20 = z := ⟨_, rfl⟩
          have b350 : Bd v348 (0) (12) := (by rw [← ee349]; exact b287.1 20 (by decide))
          have q351 : elm (S248 7) 20 = v348.toInt := (elm_of c286 20).trans (congrArg Int32.toInt (ee349))
          have t352 : v348.toInt = v46.toInt := by have h0 := ef284 20 (by decide) (by decide); omega
          obtain ⟨v353, ee354⟩ : ∃ z : Int32, f285 21 = z := ⟨_, rfl⟩
          have b355 : Bd v353 (0) (12) := (by rw [← ee354]; exact b287.2.1 21 (by decide))
          have q356 : elm (S248 7) 21 = v353.toInt := (elm_of c286 21).trans (congrArg Int32.toInt (ee354))
          have t357 : v353.toInt = v43.toInt := by have h0 := ef284 21 (by decide) (by decide); omega
          obtain ⟨v358, ee359⟩ : ∃ z : Int32, f285 23 = z := ⟨_, rfl⟩
          have b360 : Bd v358 (0) (12) := (by rw [← ee359]; exact b287.2.2.2.1 23 (by decide))
          have q361 : elm (S248 7) 23 = v358.toInt := (elm_of c286 23).trans (congrArg Int32.toInt (ee359))
          have t362 : v358.toInt = v49.toInt := by have h0 := ef284 23 (by decide) (by decide); omega
          obtain ⟨v363, ee364⟩ : ∃ z : Int32, f285 26 = z := ⟨_, rfl⟩
          have b365 : Bd v363 (0) (8) := (by rw [← ee364]; exact b287.2.2.2.2.1 26 (by decide))
          have q366 : elm (S248 7) 26 = v363.toInt := (elm_of c286 26).trans (congrArg Int32.toInt (ee364))
          have t367 : v363.toInt = v52.toInt := by have h0 := ef284 26 (by decide) (by decide); omega
          obtain ⟨v368, ee369⟩ : ∃ z : Int32, f285 28 = z := ⟨_, rfl⟩
          have b370 : Bd v368 (0) (3) := (by rw [← ee369]; exact b287.2.2.2.2.2.2.1 28 (by decide))
          have q371 : elm (S248 7) 28 = v368.toInt := (elm_of c286 28).trans (congrArg Int32.toInt (ee369))
          have t372 : v368.toInt = v55.toInt := by have h0 := ef284 28 (by decide) (by decide); omega
          obtain ⟨v373, ee374⟩ : ∃ z : Int32, f285 29 = z := ⟨_, rfl⟩
          have b375 : Bd v373 (0) (40) := (by rw [← ee374]; exact b287.2.2.2.2.2.2.2 29 (by decide))
          have q376 : elm (S248 7) 29 = v373.toInt := (elm_of c286 29).trans (congrArg Int32.toInt (ee374))
          have t377 : v373.toInt = v85.toInt := by have h0 := ef284 29 (by decide) (by decide); omega
          obtain ⟨v378, ee379⟩ : ∃ z : Int32, f285 30 = z := ⟨_, rfl⟩
          have b380 : Bd v378 (0) (12) := (by rw [← ee379]; exact b287.1 30 (by decide))
          have q381 : elm (S248 7) 30 = v378.toInt := (elm_of c286 30).trans (congrArg Int32.toInt (ee379))
          have t382 : v378.toInt = v64.toInt := by have h0 := ef284 30 (by decide) (by decide); omega
          obtain ⟨v383, ee384⟩ : ∃ z : Int32, f285 31 = z := ⟨_, rfl⟩
          have b385 : Bd v383 (0) (12) := (by rw [← ee384]; exact b287.2.1 31 (by decide))
          have q386 : elm (S248 7) 31 = v383.toInt := (elm_of c286 31).trans (congrArg Int32.toInt (ee384))
          have t387 : v383.toInt = v61.toInt := by have h0 := ef284 31 (by decide) (by decide); omega
          obtain ⟨v388, ee389⟩ : ∃ z : Int32, f285 33 = z := ⟨_, rfl⟩
          have b390 : Bd v388 (0) (12) := (by rw [← ee389]; exact b287.2.2.2.1 33 (by decide))
          have q391 : elm (S248 7) 33 = v388.toInt := (elm_of c286 33).trans (congrArg Int32.toInt (ee389))
          have t392 : v388.toInt = v67.toInt := by have h0 := ef284 33 (by decide) (by decide); omega
          obtain ⟨v393, ee394⟩ : ∃ z : Int32, f285 36 = z := ⟨_, rfl⟩
          have b395 : Bd v393 (0) (8) := (by rw [← ee394]; exact b287.2.2.2.2.1 36 (by decide))
          have q396 : elm (S248 7) 36 = v393.toInt := (elm_of c286 36).trans (congrArg Int32.toInt (ee394))
          have t397 : v393.toInt = v70.toInt := by have h0 := ef284 36 (by decide) (by decide); omega
          obtain ⟨v398, ee399⟩ : ∃ z : Int32, f285 38 = z := ⟨_, rfl⟩
          have b400 : Bd v398 (0) (3) := (by rw [← ee399]; exact b287.2.2.2.2.2.2.1 38 (by decide))
          have q401 : elm (S248 7) 38 = v398.toInt := (elm_of c286 38).trans (congrArg Int32.toInt (ee399))
          have t402 : v398.toInt = v73.toInt := by have h0 := ef284 38 (by decide) (by decide); omega
          obtain ⟨v403, ee404⟩ : ∃ z : Int32, f285 39 = z := ⟨_, rfl⟩
          have b405 : Bd v403 (0) (40) := (by rw [← ee404]; exact b287.2.2.2.2.2.2.2 39 (by decide))
          have q406 : elm (S248 7) 39 = v403.toInt := (elm_of c286 39).trans (congrArg Int32.toInt (ee404))
          have t407 : v403.toInt = v88.toInt := by have h0 := ef284 39 (by decide) (by decide); omega
          have ef408 : EFp (S248 6) (S 6) 0 4 := (ef_tr hE13_6 (o248 6 (by decide)))
          obtain ⟨f409, c410, b411⟩ := invM_6 hI
          obtain ⟨v412, ee413⟩ : ∃ z : Int32, f409 0 = z := ⟨_, rfl⟩
          have b414 : Bd v412 (0) (40000) := (by rw [← ee413]; exact b411 0)
          have q415 : elm (S248 6) 0 = v412.toInt := (elm_of c410 0).trans (congrArg Int32.toInt (ee413))
          have t416 : v412.toInt = v22.toInt := by have h0 := ef408 0 (by decide) (by decide); omega
          obtain ⟨v417, ee418⟩ : ∃ z : Int32, f409 1 = z := ⟨_, rfl⟩
          have b419 : Bd v417 (0) (40000) := (by rw [← ee418]; exact b411 1)
          have q420 : elm (S248 6) 1 = v417.toInt := (elm_of c410 1).trans (congrArg Int32.toInt (ee418))
          have t421 : v417.toInt = v40.toInt := by have h0 := ef408 1 (by decide) (by decide); omega
          obtain ⟨v422, ee423⟩ : ∃ z : Int32, f409 2 = z := ⟨_, rfl⟩
          have b424 : Bd v422 (0) (40000) := (by rw [← ee423]; exact b411 2)
          have q425 : elm (S248 6) 2 = v422.toInt := (elm_of c410 2).trans (congrArg Int32.toInt (ee423))
          have t426 : v422.toInt = v58.toInt := by have h0 := ef408 2 (by decide) (by decide); omega
          obtain ⟨v427, ee428⟩ : ∃ z : Int32, f409 3 = z := ⟨_, rfl⟩
          have b429 : Bd v427 (0) (40000) := (by rw [← ee428]; exact b411 3)
          have q430 : elm (S248 6) 3 = v427.toInt := (elm_of c410 3).trans (congrArg Int32.toInt (ee428))
          have t431 : v427.toInt = v76.toInt := by have h0 := ef408 3 (by decide) (by decide); omega
          have at432 : ATp (S248 7) (S248 12) 0 := at_ef hAT0 ef284 (by decide) ((o248 12 (by decide)).trans ((hf13 12 (by decide)).trans ((o203 12 (by decide)).trans ((o153 12 (by decide)).trans (up_eq (j := 12) eS151 (by decide))))))
          have at433 : ATp (S248 7) (S248 12) 1 := at_ef hAT1 ef284 (by decide) ((o248 12 (by decide)).trans ((hf13 12 (by decide)).trans ((o203 12 (by decide)).trans ((o153 12 (by decide)).trans (up_eq (j := 12) eS151 (by decide))))))
          have at434 : ATp (S248 7) (S248 12) 2 := at_ef hAT2 ef284 (by decide) ((o248 12 (by decide)).trans ((hf13 12 (by decide)).trans ((o203 12 (by decide)).trans ((o153 12 (by decide)).trans (up_eq (j := 12) eS151 (by decide))))))
          have at435 : ATp (S248 7) (S248 12) 3 := at_ef hAT3 ef284 (by decide) ((o248 12 (by decide)).trans ((hf13 12 (by decide)).trans ((o203 12 (by decide)).trans ((o153 12 (by decide)).trans (up_eq (j := 12) eS151 (by decide))))))
          refine lv_bipush (v := (-4)) hx hb dX12_shore_160 (by decide) ?_
          exact xri E hr hlk hQ (⟨hI, (o_trans (o_trans (o_trans (o_trans (up_o o_refl eS151 (by decide)) o153 (by decide)) o203 (by decide)) hf13 (by decide)) o248 (by decide)), (ib_wk (by decide : Bd (-4) (-4) (-4)) (by decide) (by decide)), (by omega), (by omega), (by omega), (by omega), (by omega), (by omega), (by omega), (by omega), (by omega), (by omega), (by omega), (by omega), (by omega), (by omega), (by omega), (by omega), (by omega), (by omega), (by omega), (by omega), at432, at433, at434, at435⟩) dX12_shore_162
      · have h436 := ib_ne k243
        have b437 : Bd r241 (1) (1) := rf_nlo b241 (by decide : Bd 0 (0) (0)) h436
        have g438 := g241_0.resolve_left (by omega)
        clear g241_0
        have b439 : Bd y13_0_12 (0) (0) := ⟨(By13_0_12).1, by omega⟩
        clear g241_1
        refine lv_aload_n hx hb dX12_shore_20 rfl (lv_at hl 0 rfl) ?_
        refine xget E hQ 0 (by decide) cl13_0 rfl 8 (by decide) q1476 rfl dX12_shore_21 ?_
        refine lv_if_eq (tgt := 149) hx hb dX12_shore_24 (by decide) (fun k440 => ?_) (fun k440 => ?_)
        · have h441 := ib_eq k440
          have b442 : Bd y13_0_8 (0) (0) := ⟨(By13_0_8).1, ((rf_eq By13_0_8 (by decide : Bd 0 (0) (0)) h441).1).2⟩
          refine lv_aload_n hx hb dX12_shore_149 rfl (lv_at hl 0 rfl) ?_
          refine xcVv E hs hQ hml hl.1 0 (gX12_isOver_0 l g ad hD S_13 hI ) mX12_isOver q1735 (by decide) cl13_0 rfl rfl ⟨(Nat.le_of_ble_eq_true rfl), (Nat.le_of_ble_eq_true rfl)⟩ ⟨(Nat.le_of_ble_eq_true rfl), (Nat.le_of_ble_eq_true rfl)⟩ (Nat.le_of_ble_eq_true rfl) rfl dX12_shore_150 (fun S443 H locs hp443 hQ _ => ?_)
          obtain ⟨hI, o443, g443_0⟩ := hp443
          obtain ⟨v444, v445, v447, v449, v451, v452, w453, v454, v456, v457, v458, v459, v461, v463, v465, v467, v469, v470, v471, c472, b446, b448, b450, b455, b460, b462, b464, b466, b468⟩ := invM_0 hI
          have c472 : S443 0 = .inr (12, [.int v444, .ref (ad 1), .ref (ad 2), .ref (ad 3), .ref (ad 4), .ref (ad 5), .int v445, .int v447, .int v449, .int v451, .int v452, .long w453, .int v454, .int v456, .int v457, .int v458, .ref (ad 6), .ref (ad 7), .ref (ad 8), .ref (ad 9), .ref (ad 10), .ref (ad 11), .ref (ad 12), .ref (ad 13), .ref (ad 14), .ref (ad 15), .int v459, .int v461, .ref (ad 16), .int v463, .int v465, .int v467, .int v469, .int v470, .ref (ad 17), .ref (ad 18), .int v471, .ref (ad 19)]) := c472
          have q473 : fld (S443 0) 12 = v454.toInt := fld_of c472 rfl
          have b474 : Bd v454 (0) (0) := ⟨(b455).1, by omega⟩
          refine lv_aload_n hx hb dX12_shore_153 rfl (lv_at hl 0 rfl) ?_
          refine xget E hQ 0 (by decide) c472 rfl 12 (by decide) q1480 rfl dX12_shore_154 ?_
          refine lv_if_eq (tgt := 163) hx hb dX12_shore_157 (by decide) (fun k475 => ?_) (fun k475 => ?_)
          · have h476 := ib_eq k475
            have ef477 : EFp (S443 7) (S 7) 0 40 := (ef_tr hE13_7 (o443 7 (by decide)))
            obtain ⟨f478, c479, b480⟩ := invM_7 hI
            obtain ⟨v481, ee482⟩ : ∃ z : Int32, f478 0 = z := ⟨_, rfl⟩
            have b483 : Bd v481 (0) (12) := (by rw [← ee482]; exact b480.1 0 (by decide))
            have q484 : elm (S443 7) 0 = v481.toInt := (elm_of c479 0).trans (congrArg Int32.toInt (ee482))
            have t485 : v481.toInt = v7.toInt := by have h0 := ef477 0 (by decide) (by decide); omega
            obtain ⟨v486, ee487⟩ : ∃ z : Int32, f478 1 = z := ⟨_, rfl⟩
            have b488 : Bd v486 (0) (12) := (by rw [← ee487]; exact b480.2.1 1 (by decide))
            have q489 : elm (S443 7) 1 = v486.toInt := (elm_of c479 1).trans (congrArg Int32.toInt (ee487))
            have t490 : v486.toInt = v4.toInt := by have h0 := ef477 1 (by decide) (by decide); omega
            obtain ⟨v491, ee492⟩ : ∃ z : Int32, f478 3 = z := ⟨_, rfl⟩
            have b493 : Bd v491 (0) (12) := (by rw [← ee492]; exact b480.2.2.2.1 3 (by decide))
            have q494 : elm (S443 7) 3 = v491.toInt := (elm_of c479 3).trans (congrArg Int32.toInt (ee492))
            have t495 : v491.toInt = v10.toInt := by have h0 := ef477 3 (by decide) (by decide); omega
            obtain ⟨v496, ee497⟩ : ∃ z : Int32, f478 6 = z := ⟨_, rfl⟩
            have b498 : Bd v496 (0) (8) := (by rw [← ee497]; exact b480.2.2.2.2.1 6 (by decide))
            have q499 : elm (S443 7) 6 = v496.toInt := (elm_of c479 6).trans (congrArg Int32.toInt (ee497))
            have t500 : v496.toInt = v13.toInt := by have h0 := ef477 6 (by decide) (by decide); omega
            obtain ⟨v501, ee502⟩ : ∃ z : Int32, f478 8 = z := ⟨_, rfl⟩
            have b503 : Bd v501 (0) (3) := (by rw [← ee502]; exact b480.2.2.2.2.2.2.1 8 (by decide))
            have q504 : elm (S443 7) 8 = v501.toInt := (elm_of c479 8).trans (congrArg Int32.toInt (ee502))
            have t505 : v501.toInt = v16.toInt := by have h0 := ef477 8 (by decide) (by decide); omega
            obtain ⟨v506, ee507⟩ : ∃ z : Int32, f478 9 = z := ⟨_, rfl⟩
            have b508 : Bd v506 (0) (40) := (by rw [← ee507]; exact b480.2.2.2.2.2.2.2 9 (by decide))
            have q509 : elm (S443 7) 9 = v506.toInt := (elm_of c479 9).trans (congrArg Int32.toInt (ee507))
            have t510 : v506.toInt = v79.toInt := by have h0 := ef477 9 (by decide) (by decide); omega
            obtain ⟨v511, ee512⟩ : ∃ z : Int32, f478 10 = z := ⟨_, rfl⟩
            have b513 : Bd v511 (0) (12) := (by rw [← ee512]; exact b480.1 10 (by decide))
            have q514 : elm (S443 7) 10 = v511.toInt := (elm_of c479 10).trans (congrArg Int32.toInt (ee512))
            have t515 : v511.toInt = v28.toInt := by have h0 := ef477 10 (by decide) (by decide); omega
            obtain ⟨v516, ee517⟩ : ∃ z : Int32, f478 11 = z := ⟨_, rfl⟩
            have b518 : Bd v516 (0) (12) := (by rw [← ee517]; exact b480.2.1 11 (by decide))
            have q519 : elm (S443 7) 11 = v516.toInt := (elm_of c479 11).trans (congrArg Int32.toInt (ee517))
            have t520 : v516.toInt = v25.toInt := by have h0 := ef477 11 (by decide) (by decide); omega
            obtain ⟨v521, ee522⟩ : ∃ z : Int32, f478 13 = z := ⟨_, rfl⟩
            have b523 : Bd v521 (0) (12) := (by rw [← ee522]; exact b480.2.2.2.1 13 (by decide))
            have q524 : elm (S443 7) 13 = v521.toInt := (elm_of c479 13).trans (congrArg Int32.toInt (ee522))
            have t525 : v521.toInt = v31.toInt := by have h0 := ef477 13 (by decide) (by decide); omega
            obtain ⟨v526, ee527⟩ : ∃ z : Int32, f478 16 = z := ⟨_, rfl⟩
            have b528 : Bd v526 (0) (8) := (by rw [← ee527]; exact b480.2.2.2.2.1 16 (by decide))
            have q529 : elm (S443 7) 16 = v526.toInt := (elm_of c479 16).trans (congrArg Int32.toInt (ee527))
            have t530 : v526.toInt = v34.toInt := by have h0 := ef477 16 (by decide) (by decide); omega
            obtain ⟨v531, ee532⟩ : ∃ z : Int32, f478 18 = z := ⟨_, rfl⟩
            have b533 : Bd v531 (0) (3) := (by rw [← ee532]; exact b480.2.2.2.2.2.2.1 18 (by decide))
            have q534 : elm (S443 7) 18 = v531.toInt := (elm_of c479 18).trans (congrArg Int32.toInt (ee532))
            have t535 : v531.toInt = v37.toInt := by have h0 := ef477 18 (by decide) (by decide); omega
            obtain ⟨v536, ee537⟩ : ∃ z : Int32, f478 19 = z := ⟨_, rfl⟩
            have b538 : Bd v536 (0) (40) := (by rw [← ee537]; exact b480.2.2.2.2.2.2.2 19 (by decide))
            have q539 : elm (S443 7) 19 = v536.toInt := (elm_of c479 19).trans (congrArg Int32.toInt (ee537))
            have t540 : v536.toInt = v82.toInt := by have h0 := ef477 19 (by decide) (by decide); omega
            obtain ⟨v541, ee542⟩ : ∃ z : Int32, f478 20 = z := ⟨_, rfl⟩
            have b543 : Bd v541 (0) (12) := (by rw [← ee542]; exact b480.1 20 (by decide))
            have q544 : elm (S443 7) 20 = v541.toInt := (elm_of c479 20).trans (congrArg Int32.toInt (ee542))
            have t545 : v541.toInt = v46.toInt := by have h0 := ef477 20 (by decide) (by decide); omega
            obtain ⟨v546, ee547⟩ : ∃ z : Int32, f478 21 = z := ⟨_, rfl⟩
            have b548 : Bd v546 (0) (12) := (by rw [← ee547]; exact b480.2.1 21 (by decide))
            have q549 : elm (S443 7) 21 = v546.toInt := (elm_of c479 21).trans (congrArg Int32.toInt (ee547))
            have t550 : v546.toInt = v43.toInt := by have h0 := ef477 21 (by decide) (by decide); omega
            obtain ⟨v551, ee552⟩ : ∃ z : Int32, f478 23 = z := ⟨_, rfl⟩
            have b553 : Bd v551 (0) (12) := (by rw [← ee552]; exact b480.2.2.2.1 23 (by decide))
            have q554 : elm (S443 7) 23 = v551.toInt := (elm_of c479 23).trans (congrArg Int32.toInt (ee552))
            have t555 : v551.toInt = v49.toInt := by have h0 := ef477 23 (by decide) (by decide); omega
            obtain ⟨v556, ee557⟩ : ∃ z : Int32, f478 26 = z := ⟨_, rfl⟩
            have b558 : Bd v556 (0) (8) := (by rw [← ee557]; exact b480.2.2.2.2.1 26 (by decide))
            have q559 : elm (S443 7) 26 = v556.toInt := (elm_of c479 26).trans (congrArg Int32.toInt (ee557))
            have t560 : v556.toInt = v52.toInt := by have h0 := ef477 26 (by decide) (by decide); omega
            obtain ⟨v561, ee562⟩ : ∃ z : Int32, f478 28 = z := ⟨_, rfl⟩
            have b563 : Bd v561 (0) (3) := (by rw [← ee562]; exact b480.2.2.2.2.2.2.1 28 (by decide))
            have q564 : elm (S443 7) 28 = v561.toInt := (elm_of c479 28).trans (congrArg Int32.toInt (ee562))
            have t565 : v561.toInt = v55.toInt := by have h0 := ef477 28 (by decide) (by decide); omega
            obtain ⟨v566, ee567⟩ : ∃ z : Int32, f478 29 = z := ⟨_, rfl⟩
            have b568 : Bd v566 (0) (40) := (by rw [← ee567]; exact b480.2.2.2.2.2.2.2 29 (by decide))
            have q569 : elm (S443 7) 29 = v566.toInt := (elm_of c479 29).trans (congrArg Int32.toInt (ee567))
            have t570 : v566.toInt = v85.toInt := by have h0 := ef477 29 (by decide) (by decide); omega
            obtain ⟨v571, ee572⟩ : ∃ z : Int32, f478 30 = z := ⟨_, rfl⟩
            have b573 : Bd v571 (0) (12) := (by rw [← ee572]; exact b480.1 30 (by decide))
            have q574 : elm (S443 7) 30 = v571.toInt := (elm_of c479 30).trans (congrArg Int32.toInt (ee572))
            have t575 : v571.toInt = v64.toInt := by have h0 := ef477 30 (by decide) (by decide); omega
            obtain ⟨v576, ee577⟩ : ∃ z : Int32, f478 31 = z := ⟨_, rfl⟩
            have b578 : Bd v576 (0) (12) := (by rw [← ee577]; exact b480.2.1 31 (by decide))
            have q579 : elm (S443 7) 31 = v576.toInt := (elm_of c479 31).trans (congrArg Int32.toInt (ee577))
            have t580 : v576.toInt = v61.toInt := by have h0 := ef477 31 (by decide) (by decide); omega
            obtain ⟨v581, ee582⟩ : ∃ z : Int32, f478 33 = z := ⟨_, rfl⟩
            have b583 : Bd v581 (0) (12) := (by rw [← ee582]; exact b480.2.2.2.1 33 (by decide))
            have q584 : elm (S443 7) 33 = v581.toInt := (elm_of c479 33).trans (congrArg Int32.toInt (ee582))
            have t585 : v581.toInt = v67.toInt := by have h0 := ef477 33 (by decide) (by decide); omega
            obtain ⟨v586, ee587⟩ : ∃ z : Int32, f478 36 = z := ⟨_, rfl⟩
            have b588 : Bd v586 (0) (8) := (by rw [← ee587]; exact b480.2.2.2.2.1 36 (by decide))
            have q589 : elm (S443 7) 36 = v586.toInt := (elm_of c479 36).trans (congrArg Int32.toInt (ee587))
            have t590 : v586.toInt = v70.toInt := by have h0 := ef477 36 (by decide) (by decide); omega
            obtain ⟨v591, ee592⟩ : ∃ z : Int32, f478 38 = z := ⟨_, rfl⟩
            have b593 : Bd v591 (0) (3) := (by rw [← ee592]; exact b480.2.2.2.2.2.2.1 38 (by decide))
            have q594 : elm (S443 7) 38 = v591.toInt := (elm_of c479 38).trans (congrArg Int32.toInt (ee592))
            have t595 : v591.toInt = v73.toInt := by have h0 := ef477 38 (by decide) (by decide); omega
            obtain ⟨v596, ee597⟩ : ∃ z : Int32, f478 39 = z := ⟨_, rfl⟩
            have b598 : Bd v596 (0) (40) := (by rw [← ee597]; exact b480.2.2.2.2.2.2.2 39 (by decide))
            have q599 : elm (S443 7) 39 = v596.toInt := (elm_of c479 39).trans (congrArg Int32.toInt (ee597))
            have t600 : v596.toInt = v88.toInt := by have h0 := ef477 39 (by decide) (by decide); omega
            have ef601 : EFp (S443 6) (S 6) 0 4 := (ef_tr hE13_6 (o443 6 (by decide)))
            obtain ⟨f602, c603, b604⟩ := invM_6 hI
            obtain ⟨v605, ee606⟩ : ∃ z : Int32, f602 0 = z := ⟨_, rfl⟩
            have b607 : Bd v605 (0) (40000) := (by rw [← ee606]; exact b604 0)
            have q608 : elm (S443 6) 0 = v605.toInt := (elm_of c603 0).trans (congrArg Int32.toInt (ee606))
            have t609 : v605.toInt = v22.toInt := by have h0 := ef601 0 (by decide) (by decide); omega
            obtain ⟨v610, ee611⟩ : ∃ z : Int32, f602 1 = z := ⟨_, rfl⟩
            have b612 : Bd v610 (0) (40000) := (by rw [← ee611]; exact b604 1)
            have q613 : elm (S443 6) 1 = v610.toInt := (elm_of c603 1).trans (congrArg Int32.toInt (ee611))
            have t614 : v610.toInt = v40.toInt := by have h0 := ef601 1 (by decide) (by decide); omega
            obtain ⟨v615, ee616⟩ : ∃ z : Int32, f602 2 = z := ⟨_, rfl⟩
            have b617 : Bd v615 (0) (40000) := (by rw [← ee616]; exact b604 2)
            have q618 : elm (S443 6) 2 = v615.toInt := (elm_of c603 2).trans (congrArg Int32.toInt (ee616))
            have t619 : v615.toInt = v58.toInt := by have h0 := ef601 2 (by decide) (by decide); omega
            obtain ⟨v620, ee621⟩ : ∃ z : Int32, f602 3 = z := ⟨_, rfl⟩
            have b622 : Bd v620 (0) (40000) := (by rw [← ee621]; exact b604 3)
            have q623 : elm (S443 6) 3 = v620.toInt := (elm_of c603 3).trans (congrArg Int32.toInt (ee621))
            have t624 : v620.toInt = v76.toInt := by have h0 := ef601 3 (by decide) (by decide); omega
            have at625 : ATp (S443 7) (S443 12) 0 := at_ef hAT0 ef477 (by decide) ((o443 12 (by decide)).trans ((hf13 12 (by decide)).trans ((o203 12 (by decide)).trans ((o153 12 (by decide)).trans (up_eq (j := 12) eS151 (by decide))))))
            have at626 : ATp (S443 7) (S443 12) 1 := at_ef hAT1 ef477 (by decide) ((o443 12 (by decide)).trans ((hf13 12 (by decide)).trans ((o203 12 (by decide)).trans ((o153 12 (by decide)).trans (up_eq (j := 12) eS151 (by decide))))))
            have at627 : ATp (S443 7) (S443 12) 2 := at_ef hAT2 ef477 (by decide) ((o443 12 (by decide)).trans ((hf13 12 (by decide)).trans ((o203 12 (by decide)).trans ((o153 12 (by decide)).trans (up_eq (j := 12) eS151 (by decide))))))
            have at628 : ATp (S443 7) (S443 12) 3 := at_ef hAT3 ef477 (by decide) ((o443 12 (by decide)).trans ((hf13 12 (by decide)).trans ((o203 12 (by decide)).trans ((o153 12 (by decide)).trans (up_eq (j := 12) eS151 (by decide))))))
            refine lv_aload_n hx hb dX12_shore_163 rfl (lv_at hl 0 rfl) ?_
            refine lv_iconst (v := 4) hx hb dX12_shore_164 (by decide) ?_
            refine lv_iconst (v := 0) hx hb dX12_shore_165 (by decide) ?_
            have ee629 : f478 49 = ye13_7_49 := Int32.toInt_inj.mp ((elm_of c479 49).symm.trans hy13_7_49)
            have q630 : elm (S443 7) 49 = ye13_7_49.toInt := (elm_of c479 49).trans (congrArg Int32.toInt (ee629))
            have ee631 : f478 40 = ye13_7_40 := Int32.toInt_inj.mp ((elm_of c479 40).symm.trans hy13_7_40)
            have ee632 : f478 41 = ye13_7_41 := Int32.toInt_inj.mp ((elm_of c479 41).symm.trans hy13_7_41)
            have ee633 : f478 43 = ye13_7_43 := Int32.toInt_inj.mp ((elm_of c479 43).symm.trans hy13_7_43)
            have ee634 : f478 46 = ye13_7_46 := Int32.toInt_inj.mp ((elm_of c479 46).symm.trans hy13_7_46)
            have ee635 : f478 48 = ye13_7_48 := Int32.toInt_inj.mp ((elm_of c479 48).symm.trans hy13_7_48)
            have ee636 : f602 4 = ye13_6_4 := Int32.toInt_inj.mp ((elm_of c603 4).symm.trans hy13_6_4)
            refine xcVv E hs hQ hml hl.1 0 (gX12_copyShore_4_0 l g ad hD S443 hI at625 at626 at627 at628 (at_z (by omega))) mX12_copyShore q1739 (by decide) c472 rfl rfl ⟨(Nat.le_of_ble_eq_true rfl), (Nat.le_of_ble_eq_true rfl)⟩ ⟨(Nat.le_of_ble_eq_true rfl), (Nat.le_of_ble_eq_true rfl)⟩ (Nat.le_of_ble_eq_true rfl) rfl dX12_shore_166 (fun S637 H locs hp637 hQ _ => ?_)
            obtain ⟨hI, o637, g637_0, g637_1, g637_2, g637_3, g637_4, g637_5, g637_6, g637_7, g637_8, g637_9, g637_10, g637_11, g637_12, g637_13, g637_14, g637_15, g637_16, g637_17, g637_18, g637_19, g637_20, g637_21, g637_22, g637_23, g637_24, g637_25, g637_26, g637_27, u637_0, u637_1, u637_2, u637_3⟩ := hp637
            have q638 : elm (S443 7) 40 = ye13_7_40.toInt := (elm_of c479 40).trans (congrArg Int32.toInt (ee631))
            obtain ⟨f639, c640, b641⟩ := invM_7 hI
            obtain ⟨v642, ee643⟩ : ∃ z : Int32, f639 0 = z := ⟨_, rfl⟩
            have b644 : Bd v642 (0) (12) := (by rw [← ee643]; exact b641.1 0 (by decide))
            have q645 : elm (S637 7) 0 = v642.toInt := (elm_of c640 0).trans (congrArg Int32.toInt (ee643))
            have q646 : elm (S443 7) 41 = ye13_7_41.toInt := (elm_of c479 41).trans (congrArg Int32.toInt (ee632))
            obtain ⟨v647, ee648⟩ : ∃ z : Int32, f639 1 = z := ⟨_, rfl⟩
            have b649 : Bd v647 (0) (12) := (by rw [← ee648]; exact b641.2.1 1 (by decide))
            have q650 : elm (S637 7) 1 = v647.toInt := (elm_of c640 1).trans (congrArg Int32.toInt (ee648))
            have q651 : elm (S443 7) 43 = ye13_7_43.toInt := (elm_of c479 43).trans (congrArg Int32.toInt (ee633))
            obtain ⟨v652, ee653⟩ : ∃ z : Int32, f639 3 = z := ⟨_, rfl⟩
            have b654 : Bd v652 (0) (12) := (by rw [← ee653]; exact b641.2.2.2.1 3 (by decide))
            have q655 : elm (S637 7) 3 = v652.toInt := (elm_of c640 3).trans (congrArg Int32.toInt (ee653))
            have q656 : elm (S443 7) 46 = ye13_7_46.toInt := (elm_of c479 46).trans (congrArg Int32.toInt (ee634))
            obtain ⟨v657, ee658⟩ : ∃ z : Int32, f639 6 = z := ⟨_, rfl⟩
            have b659 : Bd v657 (0) (8) := (by rw [← ee658]; exact b641.2.2.2.2.1 6 (by decide))
            have q660 : elm (S637 7) 6 = v657.toInt := (elm_of c640 6).trans (congrArg Int32.toInt (ee658))
            have q661 : elm (S443 7) 48 = ye13_7_48.toInt := (elm_of c479 48).trans (congrArg Int32.toInt (ee635))
            obtain ⟨v662, ee663⟩ : ∃ z : Int32, f639 8 = z := ⟨_, rfl⟩
            have b664 : Bd v662 (0) (3) := (by rw [← ee663]; exact b641.2.2.2.2.2.2.1 8 (by decide))
            have q665 : elm (S637 7) 8 = v662.toInt := (elm_of c640 8).trans (congrArg Int32.toInt (ee663))
            obtain ⟨v666, ee667⟩ : ∃ z : Int32, f639 9 = z := ⟨_, rfl⟩
            have b668 : Bd v666 (0) (40) := (by rw [← ee667]; exact b641.2.2.2.2.2.2.2 9 (by decide))
            have q669 : elm (S637 7) 9 = v666.toInt := (elm_of c640 9).trans (congrArg Int32.toInt (ee667))
            have b670 : Bd v666 (0) (0) := ⟨(b668).1, by omega⟩
            obtain ⟨v671, ee672⟩ : ∃ z : Int32, f639 10 = z := ⟨_, rfl⟩
            have b673 : Bd v671 (0) (12) := (by rw [← ee672]; exact b641.1 10 (by decide))
            have q674 : elm (S637 7) 10 = v671.toInt := (elm_of c640 10).trans (congrArg Int32.toInt (ee672))
            obtain ⟨v675, ee676⟩ : ∃ z : Int32, f639 11 = z := ⟨_, rfl⟩
            have b677 : Bd v675 (0) (12) := (by rw [← ee676]; exact b641.2.1 11 (by decide))
            have q678 : elm (S637 7) 11 = v675.toInt := (elm_of c640 11).trans (congrArg Int32.toInt (ee676))
            obtain ⟨v679, ee680⟩ : ∃ z : Int32, f639 13 = z := ⟨_, rfl⟩
            have b681 : Bd v679 (0) (12) := (by rw [← ee680]; exact b641.2.2.2.1 13 (by decide))
            have q682 : elm (S637 7) 13 = v679.toInt := (elm_of c640 13).trans (congrArg Int32.toInt (ee680))
            obtain ⟨v683, ee684⟩ : ∃ z : Int32, f639 16 = z := ⟨_, rfl⟩
            have b685 : Bd v683 (0) (8) := (by rw [← ee684]; exact b641.2.2.2.2.1 16 (by decide))
            have q686 : elm (S637 7) 16 = v683.toInt := (elm_of c640 16).trans (congrArg Int32.toInt (ee684))
            obtain ⟨v687, ee688⟩ : ∃ z : Int32, f639 18 = z := ⟨_, rfl⟩
            have b689 : Bd v687 (0) (3) := (by rw [← ee688]; exact b641.2.2.2.2.2.2.1 18 (by decide))
            have q690 : elm (S637 7) 18 = v687.toInt := (elm_of c640 18).trans (congrArg Int32.toInt (ee688))
            obtain ⟨v691, ee692⟩ : ∃ z : Int32, f639 19 = z := ⟨_, rfl⟩
            have b693 : Bd v691 (0) (40) := (by rw [← ee692]; exact b641.2.2.2.2.2.2.2 19 (by decide))
            have q694 : elm (S637 7) 19 = v691.toInt := (elm_of c640 19).trans (congrArg Int32.toInt (ee692))
            obtain ⟨v695, ee696⟩ : ∃ z : Int32, f639 20 = z := ⟨_, rfl⟩
            have b697 : Bd v695 (0) (12) := (by rw [← ee696]; exact b641.1 20 (by decide))
            have q698 : elm (S637 7) 20 = v695.toInt := (elm_of c640 20).trans (congrArg Int32.toInt (ee696))
            obtain ⟨v699, ee700⟩ : ∃ z : Int32, f639 21 = z := ⟨_, rfl⟩
            have b701 : Bd v699 (0) (12) := (by rw [← ee700]; exact b641.2.1 21 (by decide))
            have q702 : elm (S637 7) 21 = v699.toInt := (elm_of c640 21).trans (congrArg Int32.toInt (ee700))
            obtain ⟨v703, ee704⟩ : ∃ z : Int32, f639 23 = z := ⟨_, rfl⟩
            have b705 : Bd v703 (0) (12) := (by rw [← ee704]; exact b641.2.2.2.1 23 (by decide))
            have q706 : elm (S637 7) 23 = v703.toInt := (elm_of c640 23).trans (congrArg Int32.toInt (ee704))
            obtain ⟨v707, ee708⟩ : ∃ z : Int32, f639 26 = z := ⟨_, rfl⟩
            have b709 : Bd v707 (0) (8) := (by rw [← ee708]; exact b641.2.2.2.2.1 26 (by decide))
            have q710 : elm (S637 7) 26 = v707.toInt := (elm_of c640 26).trans (congrArg Int32.toInt (ee708))
            obtain ⟨v711, ee712⟩ : ∃ z : Int32, f639 28 = z := ⟨_, rfl⟩
            have b713 : Bd v711 (0) (3) := (by rw [← ee712]; exact b641.2.2.2.2.2.2.1 28 (by decide))
            have q714 : elm (S637 7) 28 = v711.toInt := (elm_of c640 28).trans (congrArg Int32.toInt (ee712))
            obtain ⟨v715, ee716⟩ : ∃ z : Int32, f639 29 = z := ⟨_, rfl⟩
            have b717 : Bd v715 (0) (40) := (by rw [← ee716]; exact b641.2.2.2.2.2.2.2 29 (by decide))
            have q718 : elm (S637 7) 29 = v715.toInt := (elm_of c640 29).trans (congrArg Int32.toInt (ee716))
            obtain ⟨v719, ee720⟩ : ∃ z : Int32, f639 30 = z := ⟨_, rfl⟩
            have b721 : Bd v719 (0) (12) := (by rw [← ee720]; exact b641.1 30 (by decide))
            have q722 : elm (S637 7) 30 = v719.toInt := (elm_of c640 30).trans (congrArg Int32.toInt (ee720))
            obtain ⟨v723, ee724⟩ : ∃ z : Int32, f639 31 = z := ⟨_, rfl⟩
            have b725 : Bd v723 (0) (12) := (by rw [← ee724]; exact b641.2.1 31 (by decide))
            have q726 : elm (S637 7) 31 = v723.toInt := (elm_of c640 31).trans (congrArg Int32.toInt (ee724))
            obtain ⟨v727, ee728⟩ : ∃ z : Int32, f639 33 = z := ⟨_, rfl⟩
            have b729 : Bd v727 (0) (12) := (by rw [← ee728]; exact b641.2.2.2.1 33 (by decide))
            have q730 : elm (S637 7) 33 = v727.toInt := (elm_of c640 33).trans (congrArg Int32.toInt (ee728))
            obtain ⟨v731, ee732⟩ : ∃ z : Int32, f639 36 = z := ⟨_, rfl⟩
            have b733 : Bd v731 (0) (8) := (by rw [← ee732]; exact b641.2.2.2.2.1 36 (by decide))
            have q734 : elm (S637 7) 36 = v731.toInt := (elm_of c640 36).trans (congrArg Int32.toInt (ee732))
            obtain ⟨v735, ee736⟩ : ∃ z : Int32, f639 38 = z := ⟨_, rfl⟩
            have b737 : Bd v735 (0) (3) := (by rw [← ee736]; exact b641.2.2.2.2.2.2.1 38 (by decide))
            have q738 : elm (S637 7) 38 = v735.toInt := (elm_of c640 38).trans (congrArg Int32.toInt (ee736))
            obtain ⟨v739, ee740⟩ : ∃ z : Int32, f639 39 = z := ⟨_, rfl⟩
            have b741 : Bd v739 (0) (40) := (by rw [← ee740]; exact b641.2.2.2.2.2.2.2 39 (by decide))
            have q742 : elm (S637 7) 39 = v739.toInt := (elm_of c640 39).trans (congrArg Int32.toInt (ee740))
            have q743 : elm (S443 6) 4 = ye13_6_4.toInt := (elm_of c603 4).trans (congrArg Int32.toInt (ee636))
            obtain ⟨f744, c745, b746⟩ := invM_6 hI
            obtain ⟨v747, ee748⟩ : ∃ z : Int32, f744 0 = z := ⟨_, rfl⟩
            have b749 : Bd v747 (0) (40000) := (by rw [← ee748]; exact b746 0)
            have q750 : elm (S637 6) 0 = v747.toInt := (elm_of c745 0).trans (congrArg Int32.toInt (ee748))
            have b751 : Bd v747 (0) (4804) := ⟨(b749).1, by omega⟩
            have b752 : Bd ye13_6_4 (0) (4804) := ⟨(b240).1, by omega⟩
            obtain ⟨v753, ee754⟩ : ∃ z : Int32, f744 1 = z := ⟨_, rfl⟩
            have b755 : Bd v753 (0) (40000) := (by rw [← ee754]; exact b746 1)
            have q756 : elm (S637 6) 1 = v753.toInt := (elm_of c745 1).trans (congrArg Int32.toInt (ee754))
            obtain ⟨v757, ee758⟩ : ∃ z : Int32, f744 2 = z := ⟨_, rfl⟩
            have b759 : Bd v757 (0) (40000) := (by rw [← ee758]; exact b746 2)
            have q760 : elm (S637 6) 2 = v757.toInt := (elm_of c745 2).trans (congrArg Int32.toInt (ee758))
            obtain ⟨v761, ee762⟩ : ∃ z : Int32, f744 3 = z := ⟨_, rfl⟩
            have b763 : Bd v761 (0) (40000) := (by rw [← ee762]; exact b746 3)
            have q764 : elm (S637 6) 3 = v761.toInt := (elm_of c745 3).trans (congrArg Int32.toInt (ee762))
            refine lv_aload_n hx hb dX12_shore_169 rfl (lv_at hl 0 rfl) ?_
            have c765 : S637 0 = .inr (12, [.int v444, .ref (ad 1), .ref (ad 2), .ref (ad 3), .ref (ad 4), .ref (ad 5), .int v445, .int v447, .int v449, .int v451, .int v452, .long w453, .int v454, .int v456, .int v457, .int v458, .ref (ad 6), .ref (ad 7), .ref (ad 8), .ref (ad 9), .ref (ad 10), .ref (ad 11), .ref (ad 12), .ref (ad 13), .ref (ad 14), .ref (ad 15), .int v459, .int v461, .ref (ad 16), .int v463, .int v465, .int v467, .int v469, .int v470, .ref (ad 17), .ref (ad 18), .int v471, .ref (ad 19)]) := ((o637 0 (by decide)).trans c472)
            refine xget E hQ 0 (by decide) c765 rfl 16 (by decide) q1484 rfl dX12_shore_170 ?_
            refine lv_iconst (v := 0) hx hb dX12_shore_173 (by decide) ?_
            refine xiald E hQ 6 (by decide) c745 (vp_in_lit 0 5 (by decide)) dX12_shore_174 ?_
            refine sb_at (P := fun z => W _ _ _ _ _ _ _ _ _ _ _ _ _ _ _ (F0 _ _ _ (.int z :: _))) (show f744 (0 : Int32).toNatClampNeg = v747 from ee748) ?_
            exact xri E hr hlk hQ (⟨hI, (o_trans (o_trans (o_trans (o_trans (o_trans (up_o o_refl eS151 (by decide)) o153 (by decide)) o203 (by decide)) hf13 (by decide)) o443 (by decide)) o637 (by decide)), (ib_wk b751 (by decide) (by decide)), (by omega), (by omega), (by omega), (by omega), (by omega), (by omega), (by omega), (by omega), (by omega), (by omega), (by omega), (by omega), (by omega), (by omega), (by omega), (by omega), (by omega), (by omega), (by omega), (by omega), u637_0, u637_1, u637_2, u637_3⟩) dX12_shore_175
          · have h766 := ib_ne k475
            exact absurd (Int.le_antisymm (Int.le_trans (b474).2 ((by decide : Bd 0 (0) (0))).1) (Int.le_trans ((by decide : Bd 0 (0) (0))).2 (b474).1)) h766
        · have h767 := ib_ne k440
          have b768 : Bd y13_0_8 (1) (4) := rf_nlo By13_0_8 (by decide : Bd 0 (0) (0)) h767
          refine lv_aload_n hx hb dX12_shore_27 rfl (lv_at hl 0 rfl) ?_
          refine xget E hQ 0 (by decide) cl13_0 rfl 16 (by decide) q1484 rfl dX12_shore_28 ?_
          refine lv_iconst (v := 4) hx hb dX12_shore_31 (by decide) ?_
          obtain ⟨f769, c770, b771⟩ := invM_6 hI
          refine xiald E hQ 6 (by decide) c770 (vp_in_lit 4 5 (by decide)) dX12_shore_32 ?_
          have ee772 : f769 4 = ye13_6_4 := Int32.toInt_inj.mp ((elm_of c770 4).symm.trans hy13_6_4)
          refine sb_at (P := fun z => W _ _ _ _ _ _ _ _ _ _ _ _ _ _ _ (F0 _ _ _ (.int z :: _))) (show f769 (4 : Int32).toNatClampNeg = ye13_6_4 from ee772) ?_
          refine lv_if_ne (tgt := 121) hx hb dX12_shore_33 (by decide) (fun k773 => ?_) (fun k773 => ?_)
          · have h774 := ib_ne k773
            have b775 : Bd ye13_6_4 (1) (34804) := rf_nlo b240 (by decide : Bd 0 (0) (0)) h774
            refine lv_aload_n hx hb dX12_shore_121 rfl (lv_at hl 0 rfl) ?_
            have q776 : fld (S_13 0) 6 = y13_0_6.toInt := fld_of cl13_0 rfl
            have q777 : fld (S_13 0) 7 = y13_0_7.toInt := fld_of cl13_0 rfl
            obtain ⟨f778, c779, b780⟩ := invM_7 hI
            have ee781 : f778 40 = ye13_7_40 := Int32.toInt_inj.mp ((elm_of c779 40).symm.trans hy13_7_40)
            have q782 : elm (S_13 7) 40 = ye13_7_40.toInt := (elm_of c779 40).trans (congrArg Int32.toInt (ee781))
            have ee783 : f778 41 = ye13_7_41 := Int32.toInt_inj.mp ((elm_of c779 41).symm.trans hy13_7_41)
            have ee784 : f778 43 = ye13_7_43 := Int32.toInt_inj.mp ((elm_of c779 43).symm.trans hy13_7_43)
            have ee785 : f778 49 = ye13_7_49 := Int32.toInt_inj.mp ((elm_of c779 49).symm.trans hy13_7_49)
            refine xcVv E hs hQ hml hl.1 0 (gX12_line_0 l g ad hD S_13 hI (by omega) (by omega)) mX12_line q1684 (by decide) cl13_0 rfl rfl ⟨(Nat.le_of_ble_eq_true rfl), (Nat.le_of_ble_eq_true rfl)⟩ ⟨(Nat.le_of_ble_eq_true rfl), (Nat.le_of_ble_eq_true rfl)⟩ (Nat.le_of_ble_eq_true rfl) rfl dX12_shore_122 (fun S786 H locs hp786 hQ _ => ?_)
            obtain ⟨hI, o786, g786_0, g786_1, g786_2, g786_3, g786_4, g786_5, g786_6, ef786_7⟩ := hp786
            have ef787 : EFp (S786 7) (S 7) 0 40 := ef_tt ef786_7 hE13_7
            obtain ⟨v788, v789, v791, v793, v795, v796, w797, v798, v800, v801, v802, v803, v805, v807, v809, v811, v813, v814, v815, c816, b790, b792, b794, b799, b804, b806, b808, b810, b812⟩ := invM_0 hI
            have c816 : S786 0 = .inr (12, [.int v788, .ref (ad 1), .ref (ad 2), .ref (ad 3), .ref (ad 4), .ref (ad 5), .int v789, .int v791, .int v793, .int v795, .int v796, .long w797, .int v798, .int v800, .int v801, .int v802, .ref (ad 6), .ref (ad 7), .ref (ad 8), .ref (ad 9), .ref (ad 10), .ref (ad 11), .ref (ad 12), .ref (ad 13), .ref (ad 14), .ref (ad 15), .int v803, .int v805, .ref (ad 16), .int v807, .int v809, .int v811, .int v813, .int v814, .ref (ad 17), .ref (ad 18), .int v815, .ref (ad 19)]) := c816
            have q817 : fld (S786 0) 6 = v789.toInt := fld_of c816 rfl
            have q818 : fld (S786 0) 7 = v791.toInt := fld_of c816 rfl
            have q819 : fld (S_13 0) 8 = y13_0_8.toInt := fld_of cl13_0 rfl
            have q820 : fld (S786 0) 8 = v793.toInt := fld_of c816 rfl
            obtain ⟨f821, c822, b823⟩ := invM_7 hI
            obtain ⟨v824, ee825⟩ : ∃ z : Int32, f821 40 = z := ⟨_, rfl⟩
            have b826 : Bd v824 (0) (12) := (by rw [← ee825]; exact b823.1 40 (by decide))
            have q827 : elm (S786 7) 40 = v824.toInt := (elm_of c822 40).trans (congrArg Int32.toInt (ee825))
            have b828 : Bd v824 (1) (12) := ⟨by omega, (b826).2⟩
            have b829 : Bd ye13_7_40 (1) (12) := ⟨by omega, (Bye13_7_40).2⟩
            have q830 : elm (S_13 7) 41 = ye13_7_41.toInt := (elm_of c779 41).trans (congrArg Int32.toInt (ee783))
            obtain ⟨v831, ee832⟩ : ∃ z : Int32, f821 41 = z := ⟨_, rfl⟩
            have b833 : Bd v831 (0) (12) := (by rw [← ee832]; exact b823.2.1 41 (by decide))
            have q834 : elm (S786 7) 41 = v831.toInt := (elm_of c822 41).trans (congrArg Int32.toInt (ee832))
            have b835 : Bd v831 (1) (12) := ⟨by omega, (b833).2⟩
            have b836 : Bd ye13_7_41 (1) (12) := ⟨by omega, (Bye13_7_41).2⟩
            have q837 : elm (S_13 7) 43 = ye13_7_43.toInt := (elm_of c779 43).trans (congrArg Int32.toInt (ee784))
            obtain ⟨v838, ee839⟩ : ∃ z : Int32, f821 43 = z := ⟨_, rfl⟩
            have b840 : Bd v838 (0) (12) := (by rw [← ee839]; exact b823.2.2.2.1 43 (by decide))
            have q841 : elm (S786 7) 43 = v838.toInt := (elm_of c822 43).trans (congrArg Int32.toInt (ee839))
            have b842 : Bd v838 (1) (12) := ⟨by omega, (b840).2⟩
            have b843 : Bd ye13_7_43 (1) (12) := ⟨by omega, (Bye13_7_43).2⟩
            have q844 : elm (S_13 7) 49 = ye13_7_49.toInt := (elm_of c779 49).trans (congrArg Int32.toInt (ee785))
            obtain ⟨v845, ee846⟩ : ∃ z : Int32, f821 49 = z := ⟨_, rfl⟩
            have b847 : Bd v845 (0) (40) := (by rw [← ee846]; exact b823.2.2.2.2.2.2.2 49 (by decide))
            have q848 : elm (S786 7) 49 = v845.toInt := (elm_of c822 49).trans (congrArg Int32.toInt (ee846))
            have b849 : Bd v845 (0) (0) := ⟨(b847).1, by omega⟩
            refine lv_aload_n hx hb dX12_shore_125 rfl (lv_at hl 0 rfl) ?_
            refine xcVi E hs hQ hml hl.1 0 (gX12_isGood_0 l g ad hD S786 hI ) mX12_isGood q1650 (by decide) c816 rfl rfl ⟨(Nat.le_of_ble_eq_true rfl), (Nat.le_of_ble_eq_true rfl)⟩ ⟨(Nat.le_of_ble_eq_true rfl), (Nat.le_of_ble_eq_true rfl)⟩ (Nat.le_of_ble_eq_true rfl) rfl dX12_shore_126 (fun r850 S850 H locs hp850 hQ _ => ?_)
            obtain ⟨rfl, b850, g850_0, g850_1⟩ := hp850
            have q851 : fld (S786 0) 12 = v798.toInt := fld_of c816 rfl
            refine lv_if_eq (tgt := 136) hx hb dX12_shore_129 (by decide) (fun k852 => ?_) (fun k852 => ?_)
            · have h853 := ib_eq k852
              have b854 : Bd r850 (0) (0) := ⟨(b850).1, ((rf_eq b850 (by decide : Bd 0 (0) (0)) h853).1).2⟩
              clear g850_0
              have g855 := g850_1.resolve_left (by omega)
              clear g850_1
              have b856 : Bd v798 (1) (3) := ⟨by omega, (b799).2⟩
              refine lv_aload_n hx hb dX12_shore_136 rfl (lv_at hl 0 rfl) ?_
              refine xget E hQ 0 (by decide) c816 rfl 16 (by decide) q1484 rfl dX12_shore_137 ?_
              refine lv_iconst (v := 4) hx hb dX12_shore_140 (by decide) ?_
              refine lv_dup2_11 hx hb dX12_shore_141 rfl rfl ?_
              have c857 : S786 6 = .inl (g.2 0, 5, .inl f769) := ((o786 6 (by decide)).trans c770)
              refine xiald E hQ 6 (by decide) c857 (vp_in_lit 4 5 (by decide)) dX12_shore_142 ?_
              refine sb_at (P := fun z => W _ _ _ _ _ _ _ _ _ _ _ _ _ _ _ (F0 _ _ _ (.int z :: _))) (show f769 (4 : Int32).toNatClampNeg = ye13_6_4 from ee772) ?_
              refine lv_iconst (v := 1) hx hb dX12_shore_143 (by decide) ?_
              refine lv_iadd hx hb dX12_shore_144 ?_
              refine lv_topi (fun z858 e859 => ?_)
              have t860 := ib_add e859 b775 (by decide : Bd 1 (1) (1)) (by decide) (by decide)
              have b861 : Bd z858 (2) (34805) := ib_addb t860 b775 (by decide : Bd 1 (1) (1))
              have t860 : z858.toInt = ye13_6_4.toInt + 1 := fold_add t860 rfl (by decide)
              refine xiast E hs hQ 6 (by decide) c857 (vp_in_lit 4 5 (by decide)) dX12_shore_145 (fun H locs S862 eS862 hQ => ?_)
              have hI := invM_up_6 hI eS862 ⟨_, rfl, upd_b b771 (ib_wk b861 (by decide) (by decide))⟩
              have b864 : ∀ j, Bd ((upd f769 (4 : Int32).toNatClampNeg z858) j) (0) (40000) := upd_b b771 (ib_wk b861 (by decide) (by decide))
              have c863 : S862 6 = .inl (g.2 0, 5, .inl (upd f769 (4 : Int32).toNatClampNeg z858)) := up_at eS862 rfl
              have ef865 : EFp (S862 6) (S 6) 0 4 := ef_up (ef_tr hE13_6 (o786 6 (by decide))) c857 c863 (by decide)
              refine lv_goto (tgt := 13) hx hb dX12_shore_146 (by decide) ?_
              have c866 : S862 7 = .inl (g.2 0, 50, .inl f821) := (up_ne eS862 (by decide) c822)
              obtain ⟨v867, ee868⟩ : ∃ z : Int32, f821 46 = z := ⟨_, rfl⟩
              have b869 : Bd v867 (0) (8) := (by rw [← ee868]; exact b823.2.2.2.2.1 46 (by decide))
              obtain ⟨v870, ee871⟩ : ∃ z : Int32, f821 47 = z := ⟨_, rfl⟩
              have b872 : Bd v870 (0) (6) := (by rw [← ee871]; exact b823.2.2.2.2.2.1 47 (by decide))
              obtain ⟨v873, ee874⟩ : ∃ z : Int32, f821 48 = z := ⟨_, rfl⟩
              have b875 : Bd v873 (0) (3) := (by rw [← ee874]; exact b823.2.2.2.2.2.2.1 48 (by decide))
              have c876 : S862 0 = .inr (12, [.int v788, .ref (ad 1), .ref (ad 2), .ref (ad 3), .ref (ad 4), .ref (ad 5), .int v789, .int v791, .int v793, .int v795, .int v796, .long w797, .int v798, .int v800, .int v801, .int v802, .ref (ad 6), .ref (ad 7), .ref (ad 8), .ref (ad 9), .ref (ad 10), .ref (ad 11), .ref (ad 12), .ref (ad 13), .ref (ad 14), .ref (ad 15), .int v803, .int v805, .ref (ad 16), .int v807, .int v809, .int v811, .int v813, .int v814, .ref (ad 17), .ref (ad 18), .int v815, .ref (ad 19)]) := (up_ne eS862 (by decide) c816)
              exact ih13 _ _ _ _ v788 v789 v791 v793 v795 v796 w797 v798 v800 v801 v802 v803 v805 v807 v809 v811 v813 v814 v815 v824 v831 v838 v867 v870 v873 v845 z858 b790 b792 b794 (ib_wk b856 (by decide) (by decide)) b804 b806 b808 b810 b812 (ib_wk b828 (by decide) (by decide)) (ib_wk b835 (by decide) (by decide)) (ib_wk b842 (by decide) (by decide)) b869 b872 b875 b849 (ib_wk b861 (by decide) (by decide)) (by omega) (by omega) (by omega) (by omega) (by omega) (by omega) (by omega) (by omega) (by omega) (by omega) (by omega) (by omega) (by omega) (by omega) (by omega) (by omega) (by omega) (by omega) (by omega) hI (up_o (o_trans hf13 o786 (by decide)) eS862 (by decide)) c876 (ef_tr ef787 (up_eq (j := 7) eS862 (by decide))) ef865 ((elm_of c866 40).trans (congrArg Int32.toInt (ee825))) ((elm_of c866 41).trans (congrArg Int32.toInt (ee832))) ((elm_of c866 43).trans (congrArg Int32.toInt (ee839))) ((elm_of c866 46).trans (congrArg Int32.toInt (ee868))) ((elm_of c866 47).trans (congrArg Int32.toInt (ee871))) ((elm_of c866 48).trans (congrArg Int32.toInt (ee874))) ((elm_of c866 49).trans (congrArg Int32.toInt (ee846))) ((elm_of c863 4).trans (congrArg Int32.toInt ((upd_s)))) hQ (lv_sub hl [0] rfl)
            · have h877 := ib_ne k852
              have b878 : Bd r850 (1) (1) := rf_nlo b850 (by decide : Bd 0 (0) (0)) h877
              have g879 := g850_0.resolve_left (by omega)
              clear g850_0
              have b880 : Bd v798 (0) (0) := ⟨(b799).1, by omega⟩
              clear g850_1
              refine lv_aload_n hx hb dX12_shore_132 rfl (lv_at hl 0 rfl) ?_
              refine xcVv E hs hQ hml hl.1 0 (gX12_ends_0 l g ad hD S786 hI (by omega)) mX12_ends q1731 (by decide) c816 rfl rfl ⟨(Nat.le_of_ble_eq_true rfl), (Nat.le_of_ble_eq_true rfl)⟩ ⟨(Nat.le_of_ble_eq_true rfl), (Nat.le_of_ble_eq_true rfl)⟩ (Nat.le_of_ble_eq_true rfl) rfl dX12_shore_133 (fun S881 H locs hp881 hQ _ => ?_)
              obtain ⟨hI, o881, g881_0, g881_1, g881_2, g881_3⟩ := hp881
              obtain ⟨v882, v883, v885, v887, v889, v890, w891, v892, v894, v895, v896, v897, v899, v901, v903, v905, v907, v908, v909, c910, b884, b886, b888, b893, b898, b900, b902, b904, b906⟩ := invM_0 hI
              have c910 : S881 0 = .inr (12, [.int v882, .ref (ad 1), .ref (ad 2), .ref (ad 3), .ref (ad 4), .ref (ad 5), .int v883, .int v885, .int v887, .int v889, .int v890, .long w891, .int v892, .int v894, .int v895, .int v896, .ref (ad 6), .ref (ad 7), .ref (ad 8), .ref (ad 9), .ref (ad 10), .ref (ad 11), .ref (ad 12), .ref (ad 13), .ref (ad 14), .ref (ad 15), .int v897, .int v899, .ref (ad 16), .int v901, .int v903, .int v905, .int v907, .int v908, .ref (ad 17), .ref (ad 18), .int v909, .ref (ad 19)]) := c910
              have q911 : fld (S881 0) 6 = v883.toInt := fld_of c910 rfl
              have q912 : fld (S881 0) 7 = v885.toInt := fld_of c910 rfl
              have q913 : fld (S881 0) 8 = v887.toInt := fld_of c910 rfl
              have q914 : fld (S881 0) 12 = v892.toInt := fld_of c910 rfl
              refine lv_aload_n hx hb dX12_shore_136 rfl (lv_at hl 0 rfl) ?_
              refine xget E hQ 0 (by decide) c910 rfl 16 (by decide) q1484 rfl dX12_shore_137 ?_
              refine lv_iconst (v := 4) hx hb dX12_shore_140 (by decide) ?_
              refine lv_dup2_11 hx hb dX12_shore_141 rfl rfl ?_
              have c915 : S881 6 = .inl (g.2 0, 5, .inl f769) := ((o881 6 (by decide)).trans ((o786 6 (by decide)).trans c770))
              refine xiald E hQ 6 (by decide) c915 (vp_in_lit 4 5 (by decide)) dX12_shore_142 ?_
              refine sb_at (P := fun z => W _ _ _ _ _ _ _ _ _ _ _ _ _ _ _ (F0 _ _ _ (.int z :: _))) (show f769 (4 : Int32).toNatClampNeg = ye13_6_4 from ee772) ?_
              refine lv_iconst (v := 1) hx hb dX12_shore_143 (by decide) ?_
              refine lv_iadd hx hb dX12_shore_144 ?_
              refine lv_topi (fun z916 e917 => ?_)
              have t918 := ib_add e917 b775 (by decide : Bd 1 (1) (1)) (by decide) (by decide)
              have b919 : Bd z916 (2) (34805) := ib_addb t918 b775 (by decide : Bd 1 (1) (1))
              have t918 : z916.toInt = ye13_6_4.toInt + 1 := fold_add t918 rfl (by decide)
              refine xiast E hs hQ 6 (by decide) c915 (vp_in_lit 4 5 (by decide)) dX12_shore_145 (fun H locs S920 eS920 hQ => ?_)
              have hI := invM_up_6 hI eS920 ⟨_, rfl, upd_b b771 (ib_wk b919 (by decide) (by decide))⟩
              have b922 : ∀ j, Bd ((upd f769 (4 : Int32).toNatClampNeg z916) j) (0) (40000) := upd_b b771 (ib_wk b919 (by decide) (by decide))
              have c921 : S920 6 = .inl (g.2 0, 5, .inl (upd f769 (4 : Int32).toNatClampNeg z916)) := up_at eS920 rfl
              have ef923 : EFp (S920 6) (S 6) 0 4 := ef_up (ef_tr hE13_6 ((o881 6 (by decide)).trans (o786 6 (by decide)))) c915 c921 (by decide)
              refine lv_goto (tgt := 13) hx hb dX12_shore_146 (by decide) ?_
              have c924 : S920 7 = .inl (g.2 0, 50, .inl f821) := (up_ne eS920 (by decide) ((o881 7 (by decide)).trans c822))
              obtain ⟨v925, ee926⟩ : ∃ z : Int32, f821 46 = z := ⟨_, rfl⟩
              have b927 : Bd v925 (0) (8) := (by rw [← ee926]; exact b823.2.2.2.2.1 46 (by decide))
              obtain ⟨v928, ee929⟩ : ∃ z : Int32, f821 47 = z := ⟨_, rfl⟩
              have b930 : Bd v928 (0) (6) := (by rw [← ee929]; exact b823.2.2.2.2.2.1 47 (by decide))
              obtain ⟨v931, ee932⟩ : ∃ z : Int32, f821 48 = z := ⟨_, rfl⟩
              have b933 : Bd v931 (0) (3) := (by rw [← ee932]; exact b823.2.2.2.2.2.2.1 48 (by decide))
              have c934 : S920 0 = .inr (12, [.int v882, .ref (ad 1), .ref (ad 2), .ref (ad 3), .ref (ad 4), .ref (ad 5), .int v883, .int v885, .int v887, .int v889, .int v890, .long w891, .int v892, .int v894, .int v895, .int v896, .ref (ad 6), .ref (ad 7), .ref (ad 8), .ref (ad 9), .ref (ad 10), .ref (ad 11), .ref (ad 12), .ref (ad 13), .ref (ad 14), .ref (ad 15), .int v897, .int v899, .ref (ad 16), .int v901, .int v903, .int v905, .int v907, .int v908, .ref (ad 17), .ref (ad 18), .int v909, .ref (ad 19)]) := (up_ne eS920 (by decide) c910)
              exact ih13 _ _ _ _ v882 v883 v885 v887 v889 v890 w891 v892 v894 v895 v896 v897 v899 v901 v903 v905 v907 v908 v909 v824 v831 v838 v925 v928 v931 v845 z916 b884 b886 b888 b893 b898 b900 b902 b904 b906 (ib_wk b828 (by decide) (by decide)) (ib_wk b835 (by decide) (by decide)) (ib_wk b842 (by decide) (by decide)) b927 b930 b933 b849 (ib_wk b919 (by decide) (by decide)) (by omega) (by omega) (by omega) (by omega) (by omega) (by omega) (by omega) (by omega) (by omega) (by omega) (by omega) (by omega) (by omega) (by omega) (by omega) (by omega) (by omega) (by omega) (by omega) hI (up_o (o_trans (o_trans hf13 o786 (by decide)) o881 (by decide)) eS920 (by decide)) c934 (ef_tr ef787 ((up_eq (j := 7) eS920 (by decide)).trans (o881 7 (by decide)))) ef923 ((elm_of c924 40).trans (congrArg Int32.toInt (ee825))) ((elm_of c924 41).trans (congrArg Int32.toInt (ee832))) ((elm_of c924 43).trans (congrArg Int32.toInt (ee839))) ((elm_of c924 46).trans (congrArg Int32.toInt (ee926))) ((elm_of c924 47).trans (congrArg Int32.toInt (ee929))) ((elm_of c924 48).trans (congrArg Int32.toInt (ee932))) ((elm_of c924 49).trans (congrArg Int32.toInt (ee846))) ((elm_of c921 4).trans (congrArg Int32.toInt ((upd_s)))) hQ (lv_sub hl [0] rfl)
          · have h935 := ib_eq k773
            have b936 : Bd ye13_6_4 (0) (0) := ⟨(b240).1, ((rf_eq b240 (by decide : Bd 0 (0) (0)) h935).1).2⟩
            refine lv_aload_n hx hb dX12_shore_36 rfl (lv_at hl 0 rfl) ?_
            refine lv_ldc2 (v := 10266269) hx hb E.2.2.1 (E.2.2.2.1 _ q1654) dX12_shore_37 ?_
            have q937 : fld (S_13 0) 6 = y13_0_6.toInt := fld_of cl13_0 rfl
            have q938 : fld (S_13 0) 7 = y13_0_7.toInt := fld_of cl13_0 rfl
            refine xcVv E hs hQ hml hl.1 0 (gX12_asks_0 l g ad hD S_13 hI 10266269 (by omega)) mX12_asks q1655 (by decide) cl13_0 rfl rfl ⟨(Nat.le_of_ble_eq_true rfl), (Nat.le_of_ble_eq_true rfl)⟩ ⟨(Nat.le_of_ble_eq_true rfl), (Nat.le_of_ble_eq_true rfl)⟩ (Nat.le_of_ble_eq_true rfl) rfl dX12_shore_40 (fun S939 H locs hp939 hQ _ => ?_)
            obtain ⟨hI, o939, g939_0, g939_1, g939_2⟩ := hp939
            obtain ⟨v940, v941, v943, v945, v947, v948, w949, v950, v952, v953, v954, v955, v957, v959, v961, v963, v965, v966, v967, c968, b942, b944, b946, b951, b956, b958, b960, b962, b964⟩ := invM_0 hI
            have c968 : S939 0 = .inr (12, [.int v940, .ref (ad 1), .ref (ad 2), .ref (ad 3), .ref (ad 4), .ref (ad 5), .int v941, .int v943, .int v945, .int v947, .int v948, .long w949, .int v950, .int v952, .int v953, .int v954, .ref (ad 6), .ref (ad 7), .ref (ad 8), .ref (ad 9), .ref (ad 10), .ref (ad 11), .ref (ad 12), .ref (ad 13), .ref (ad 14), .ref (ad 15), .int v955, .int v957, .ref (ad 16), .int v959, .int v961, .int v963, .int v965, .int v966, .ref (ad 17), .ref (ad 18), .int v967, .ref (ad 19)]) := c968
            have q969 : fld (S939 0) 6 = v941.toInt := fld_of c968 rfl
            have q970 : fld (S939 0) 7 = v943.toInt := fld_of c968 rfl
            have q971 : fld (S_13 0) 8 = y13_0_8.toInt := fld_of cl13_0 rfl
            have q972 : fld (S939 0) 8 = v945.toInt := fld_of c968 rfl
            refine lv_aload_n hx hb dX12_shore_43 rfl (lv_at hl 0 rfl) ?_
            refine lv_iconst (v := 0) hx hb dX12_shore_44 (by decide) ?_
            refine lv_aload_n hx hb dX12_shore_45 rfl (lv_at hl 0 rfl) ?_
            refine lv_ldc2 (v := 1701829) hx hb E.2.2.1 (E.2.2.2.1 _ q1671) dX12_shore_46 ?_
            refine lv_iconst (v := 3) hx hb dX12_shore_49 (by decide) ?_
            refine lv_bipush (v := 12) hx hb dX12_shore_50 (by decide) ?_
            refine xcVi E hs hQ hml hl.1 0 (gX12_numberw_0 l g ad hD S939 hI 1701829 3 12 (by decide : Bd 3 (3) (3)) (by decide : Bd 12 (12) (12)) (by omega)) mX12_number_ q1672 (by decide) c968 rfl rfl ⟨(Nat.le_of_ble_eq_true rfl), (Nat.le_of_ble_eq_true rfl)⟩ ⟨(Nat.le_of_ble_eq_true rfl), (Nat.le_of_ble_eq_true rfl)⟩ (Nat.le_of_ble_eq_true rfl) rfl dX12_shore_52 (fun r973 S973 H locs hp973 hQ _ => ?_)
            obtain ⟨hI, o973, b973, g973_0, g973_1, g973_2⟩ := hp973
            obtain ⟨v974, v975, v977, v979, v981, v982, w983, v984, v986, v987, v988, v989, v991, v993, v995, v997, v999, v1000, v1001, c1002, b976, b978, b980, b985, b990, b992, b994, b996, b998⟩ := invM_0 hI
            have c1002 : S973 0 = .inr (12, [.int v974, .ref (ad 1), .ref (ad 2), .ref (ad 3), .ref (ad 4), .ref (ad 5), .int v975, .int v977, .int v979, .int v981, .int v982, .long w983, .int v984, .int v986, .int v987, .int v988, .ref (ad 6), .ref (ad 7), .ref (ad 8), .ref (ad 9), .ref (ad 10), .ref (ad 11), .ref (ad 12), .ref (ad 13), .ref (ad 14), .ref (ad 15), .int v989, .int v991, .ref (ad 16), .int v993, .int v995, .int v997, .int v999, .int v1000, .ref (ad 17), .ref (ad 18), .int v1001, .ref (ad 19)]) := c1002
            have q1003 : fld (S973 0) 6 = v975.toInt := fld_of c1002 rfl
            have q1004 : fld (S973 0) 7 = v977.toInt := fld_of c1002 rfl
            have q1005 : fld (S973 0) 8 = v979.toInt := fld_of c1002 rfl
            obtain ⟨f1006, c1007, b1008⟩ := invM_7 hI
            have ee1009 : f1006 41 = ye13_7_41 := Int32.toInt_inj.mp ((elm_of c1007 41).symm.trans hy13_7_41)
            have ee1010 : f1006 43 = ye13_7_43 := Int32.toInt_inj.mp ((elm_of c1007 43).symm.trans hy13_7_43)
            have ee1011 : f1006 46 = ye13_7_46 := Int32.toInt_inj.mp ((elm_of c1007 46).symm.trans hy13_7_46)
            have ee1012 : f1006 47 = ye13_7_47 := Int32.toInt_inj.mp ((elm_of c1007 47).symm.trans hy13_7_47)
            have ee1013 : f1006 48 = ye13_7_48 := Int32.toInt_inj.mp ((elm_of c1007 48).symm.trans hy13_7_48)
            have ee1014 : f1006 49 = ye13_7_49 := Int32.toInt_inj.mp ((elm_of c1007 49).symm.trans hy13_7_49)
            refine xcVv E hs hQ hml hl.1 0 (gX12_tells_0 l g ad hD S973 hI r973 (ib_wk b973 (by decide) (by decide))) mX12_tells q1629 (by decide) c1002 rfl rfl ⟨(Nat.le_of_ble_eq_true rfl), (Nat.le_of_ble_eq_true rfl)⟩ ⟨(Nat.le_of_ble_eq_true rfl), (Nat.le_of_ble_eq_true rfl)⟩ (Nat.le_of_ble_eq_true rfl) rfl dX12_shore_55 (fun S1015 H locs hp1015 hQ _ => ?_)
            obtain ⟨hI, o1015, g1015_0, g1015_1, g1015_2, g1015_3, g1015_4, g1015_5, g1015_6, ef1015_7⟩ := hp1015
            have ef1016 : EFp (S1015 7) (S 7) 0 40 := ef_tt ef1015_7 (ef_tr hE13_7 ((o973 7 (by decide)).trans (o939 7 (by decide))))
            obtain ⟨f1017, c1018, b1019⟩ := invM_7 hI
            obtain ⟨v1020, ee1021⟩ : ∃ z : Int32, f1017 40 = z := ⟨_, rfl⟩
            have b1022 : Bd v1020 (0) (12) := (by rw [← ee1021]; exact b1019.1 40 (by decide))
            have q1023 : elm (S1015 7) 40 = v1020.toInt := (elm_of c1018 40).trans (congrArg Int32.toInt (ee1021))
            have b1024 : Bd v1020 (3) (12) := ⟨by omega, (b1022).2⟩
            have q1025 : elm (S973 7) 41 = ye13_7_41.toInt := (elm_of c1007 41).trans (congrArg Int32.toInt (ee1009))
            obtain ⟨v1026, ee1027⟩ : ∃ z : Int32, f1017 41 = z := ⟨_, rfl⟩
            have b1028 : Bd v1026 (0) (12) := (by rw [← ee1027]; exact b1019.2.1 41 (by decide))
            have q1029 : elm (S1015 7) 41 = v1026.toInt := (elm_of c1018 41).trans (congrArg Int32.toInt (ee1027))
            have q1030 : elm (S973 7) 43 = ye13_7_43.toInt := (elm_of c1007 43).trans (congrArg Int32.toInt (ee1010))
            obtain ⟨v1031, ee1032⟩ : ∃ z : Int32, f1017 43 = z := ⟨_, rfl⟩
            have b1033 : Bd v1031 (0) (12) := (by rw [← ee1032]; exact b1019.2.2.2.1 43 (by decide))
            have q1034 : elm (S1015 7) 43 = v1031.toInt := (elm_of c1018 43).trans (congrArg Int32.toInt (ee1032))
            have q1035 : elm (S973 7) 46 = ye13_7_46.toInt := (elm_of c1007 46).trans (congrArg Int32.toInt (ee1011))
            obtain ⟨v1036, ee1037⟩ : ∃ z : Int32, f1017 46 = z := ⟨_, rfl⟩
            have b1038 : Bd v1036 (0) (8) := (by rw [← ee1037]; exact b1019.2.2.2.2.1 46 (by decide))
            have q1039 : elm (S1015 7) 46 = v1036.toInt := (elm_of c1018 46).trans (congrArg Int32.toInt (ee1037))
            have q1040 : elm (S973 7) 47 = ye13_7_47.toInt := (elm_of c1007 47).trans (congrArg Int32.toInt (ee1012))
            obtain ⟨v1041, ee1042⟩ : ∃ z : Int32, f1017 47 = z := ⟨_, rfl⟩
            have b1043 : Bd v1041 (0) (6) := (by rw [← ee1042]; exact b1019.2.2.2.2.2.1 47 (by decide))
            have q1044 : elm (S1015 7) 47 = v1041.toInt := (elm_of c1018 47).trans (congrArg Int32.toInt (ee1042))
            have q1045 : elm (S973 7) 48 = ye13_7_48.toInt := (elm_of c1007 48).trans (congrArg Int32.toInt (ee1013))
            obtain ⟨v1046, ee1047⟩ : ∃ z : Int32, f1017 48 = z := ⟨_, rfl⟩
            have b1048 : Bd v1046 (0) (3) := (by rw [← ee1047]; exact b1019.2.2.2.2.2.2.1 48 (by decide))
            have q1049 : elm (S1015 7) 48 = v1046.toInt := (elm_of c1018 48).trans (congrArg Int32.toInt (ee1047))
            have q1050 : elm (S973 7) 49 = ye13_7_49.toInt := (elm_of c1007 49).trans (congrArg Int32.toInt (ee1014))
            obtain ⟨v1051, ee1052⟩ : ∃ z : Int32, f1017 49 = z := ⟨_, rfl⟩
            have b1053 : Bd v1051 (0) (40) := (by rw [← ee1052]; exact b1019.2.2.2.2.2.2.2 49 (by decide))
            have q1054 : elm (S1015 7) 49 = v1051.toInt := (elm_of c1018 49).trans (congrArg Int32.toInt (ee1052))
            have b1055 : Bd v1051 (0) (0) := ⟨(b1053).1, by omega⟩
            refine lv_aload_n hx hb dX12_shore_58 rfl (lv_at hl 0 rfl) ?_
            refine lv_iconst (v := 1) hx hb dX12_shore_59 (by decide) ?_
            refine lv_aload_n hx hb dX12_shore_60 rfl (lv_at hl 0 rfl) ?_
            refine lv_ldc2 (v := 3436186) hx hb E.2.2.1 (E.2.2.2.1 _ q1680) dX12_shore_61 ?_
            refine lv_iconst (v := 1) hx hb dX12_shore_64 (by decide) ?_
            refine lv_bipush (v := 12) hx hb dX12_shore_65 (by decide) ?_
            have c1056 : S1015 0 = .inr (12, [.int v974, .ref (ad 1), .ref (ad 2), .ref (ad 3), .ref (ad 4), .ref (ad 5), .int v975, .int v977, .int v979, .int v981, .int v982, .long w983, .int v984, .int v986, .int v987, .int v988, .ref (ad 6), .ref (ad 7), .ref (ad 8), .ref (ad 9), .ref (ad 10), .ref (ad 11), .ref (ad 12), .ref (ad 13), .ref (ad 14), .ref (ad 15), .int v989, .int v991, .ref (ad 16), .int v993, .int v995, .int v997, .int v999, .int v1000, .ref (ad 17), .ref (ad 18), .int v1001, .ref (ad 19)]) := ((o1015 0 (by decide)).trans c1002)
            have q1057 : fld (S1015 0) 6 = v975.toInt := fld_of c1056 rfl
            have q1058 : fld (S1015 0) 7 = v977.toInt := fld_of c1056 rfl
            refine xcVi E hs hQ hml hl.1 0 (gX12_numberw_1 l g ad hD S1015 hI 3436186 1 12 (by decide : Bd 1 (1) (1)) (by decide : Bd 12 (12) (12)) (by omega)) mX12_number_ q1672 (by decide) c1056 rfl rfl ⟨(Nat.le_of_ble_eq_true rfl), (Nat.le_of_ble_eq_true rfl)⟩ ⟨(Nat.le_of_ble_eq_true rfl), (Nat.le_of_ble_eq_true rfl)⟩ (Nat.le_of_ble_eq_true rfl) rfl dX12_shore_67 (fun r1059 S1059 H locs hp1059 hQ _ => ?_)
            obtain ⟨hI, o1059, b1059, g1059_0, g1059_1, g1059_2⟩ := hp1059
            obtain ⟨v1060, v1061, v1063, v1065, v1067, v1068, w1069, v1070, v1072, v1073, v1074, v1075, v1077, v1079, v1081, v1083, v1085, v1086, v1087, c1088, b1062, b1064, b1066, b1071, b1076, b1078, b1080, b1082, b1084⟩ := invM_0 hI
            have c1088 : S1059 0 = .inr (12, [.int v1060, .ref (ad 1), .ref (ad 2), .ref (ad 3), .ref (ad 4), .ref (ad 5), .int v1061, .int v1063, .int v1065, .int v1067, .int v1068, .long w1069, .int v1070, .int v1072, .int v1073, .int v1074, .ref (ad 6), .ref (ad 7), .ref (ad 8), .ref (ad 9), .ref (ad 10), .ref (ad 11), .ref (ad 12), .ref (ad 13), .ref (ad 14), .ref (ad 15), .int v1075, .int v1077, .ref (ad 16), .int v1079, .int v1081, .int v1083, .int v1085, .int v1086, .ref (ad 17), .ref (ad 18), .int v1087, .ref (ad 19)]) := c1088
            have q1089 : fld (S1059 0) 6 = v1061.toInt := fld_of c1088 rfl
            have q1090 : fld (S1059 0) 7 = v1063.toInt := fld_of c1088 rfl
            have q1091 : fld (S1015 0) 8 = v979.toInt := fld_of c1056 rfl
            have q1092 : fld (S1059 0) 8 = v1065.toInt := fld_of c1088 rfl
            have c1093 : S1059 7 = .inl (g.2 0, 50, .inl f1017) := ((o1059 7 (by decide)).trans c1018)
            refine xcVv E hs hQ hml hl.1 0 (gX12_tells_1 l g ad hD S1059 hI r1059 (ib_wk b1059 (by decide) (by decide))) mX12_tells q1629 (by decide) c1088 rfl rfl ⟨(Nat.le_of_ble_eq_true rfl), (Nat.le_of_ble_eq_true rfl)⟩ ⟨(Nat.le_of_ble_eq_true rfl), (Nat.le_of_ble_eq_true rfl)⟩ (Nat.le_of_ble_eq_true rfl) rfl dX12_shore_70 (fun S1094 H locs hp1094 hQ _ => ?_)
            obtain ⟨hI, o1094, g1094_0, g1094_1, g1094_2, g1094_3, g1094_4, g1094_5, g1094_6, ef1094_7⟩ := hp1094
            have ef1095 : EFp (S1094 7) (S 7) 0 40 := ef_tt ef1094_7 (ef_tr ef1016 (o1059 7 (by decide)))
            obtain ⟨f1096, c1097, b1098⟩ := invM_7 hI
            obtain ⟨v1099, ee1100⟩ : ∃ z : Int32, f1096 41 = z := ⟨_, rfl⟩
            have b1101 : Bd v1099 (0) (12) := (by rw [← ee1100]; exact b1098.2.1 41 (by decide))
            have q1102 : elm (S1094 7) 41 = v1099.toInt := (elm_of c1097 41).trans (congrArg Int32.toInt (ee1100))
            have b1103 : Bd v1099 (1) (12) := ⟨by omega, (b1101).2⟩
            have q1104 : elm (S1059 7) 40 = v1020.toInt := (elm_of c1093 40).trans (congrArg Int32.toInt (ee1021))
            obtain ⟨v1105, ee1106⟩ : ∃ z : Int32, f1096 40 = z := ⟨_, rfl⟩
            have b1107 : Bd v1105 (0) (12) := (by rw [← ee1106]; exact b1098.1 40 (by decide))
            have q1108 : elm (S1094 7) 40 = v1105.toInt := (elm_of c1097 40).trans (congrArg Int32.toInt (ee1106))
            have b1109 : Bd v1105 (3) (12) := ⟨by omega, (b1107).2⟩
            have q1110 : elm (S1059 7) 43 = v1031.toInt := (elm_of c1093 43).trans (congrArg Int32.toInt (ee1032))
            obtain ⟨v1111, ee1112⟩ : ∃ z : Int32, f1096 43 = z := ⟨_, rfl⟩
            have b1113 : Bd v1111 (0) (12) := (by rw [← ee1112]; exact b1098.2.2.2.1 43 (by decide))
            have q1114 : elm (S1094 7) 43 = v1111.toInt := (elm_of c1097 43).trans (congrArg Int32.toInt (ee1112))
            have q1115 : elm (S1059 7) 46 = v1036.toInt := (elm_of c1093 46).trans (congrArg Int32.toInt (ee1037))
            obtain ⟨v1116, ee1117⟩ : ∃ z : Int32, f1096 46 = z := ⟨_, rfl⟩
            have b1118 : Bd v1116 (0) (8) := (by rw [← ee1117]; exact b1098.2.2.2.2.1 46 (by decide))
            have q1119 : elm (S1094 7) 46 = v1116.toInt := (elm_of c1097 46).trans (congrArg Int32.toInt (ee1117))
            have q1120 : elm (S1059 7) 47 = v1041.toInt := (elm_of c1093 47).trans (congrArg Int32.toInt (ee1042))
            obtain ⟨v1121, ee1122⟩ : ∃ z : Int32, f1096 47 = z := ⟨_, rfl⟩
            have b1123 : Bd v1121 (0) (6) := (by rw [← ee1122]; exact b1098.2.2.2.2.2.1 47 (by decide))
            have q1124 : elm (S1094 7) 47 = v1121.toInt := (elm_of c1097 47).trans (congrArg Int32.toInt (ee1122))
            have q1125 : elm (S1059 7) 48 = v1046.toInt := (elm_of c1093 48).trans (congrArg Int32.toInt (ee1047))
            obtain ⟨v1126, ee1127⟩ : ∃ z : Int32, f1096 48 = z := ⟨_, rfl⟩
            have b1128 : Bd v1126 (0) (3) := (by rw [← ee1127]; exact b1098.2.2.2.2.2.2.1 48 (by decide))
            have q1129 : elm (S1094 7) 48 = v1126.toInt := (elm_of c1097 48).trans (congrArg Int32.toInt (ee1127))
            have q1130 : elm (S1059 7) 49 = v1051.toInt := (elm_of c1093 49).trans (congrArg Int32.toInt (ee1052))
            obtain ⟨v1131, ee1132⟩ : ∃ z : Int32, f1096 49 = z := ⟨_, rfl⟩
            have b1133 : Bd v1131 (0) (40) := (by rw [← ee1132]; exact b1098.2.2.2.2.2.2.2 49 (by decide))
            have q1134 : elm (S1094 7) 49 = v1131.toInt := (elm_of c1097 49).trans (congrArg Int32.toInt (ee1132))
            have b1135 : Bd v1131 (0) (0) := ⟨(b1133).1, by omega⟩
            refine lv_aload_n hx hb dX12_shore_73 rfl (lv_at hl 0 rfl) ?_
            refine lv_iconst (v := 2) hx hb dX12_shore_74 (by decide) ?_
            refine lv_aload_n hx hb dX12_shore_75 rfl (lv_at hl 0 rfl) ?_
            refine lv_ldc2 (v := 10334396) hx hb E.2.2.1 (E.2.2.2.1 _ q1681) dX12_shore_76 ?_
            refine lv_iconst (v := 0) hx hb dX12_shore_79 (by decide) ?_
            refine lv_bipush (v := 6) hx hb dX12_shore_80 (by decide) ?_
            have c1136 : S1094 0 = .inr (12, [.int v1060, .ref (ad 1), .ref (ad 2), .ref (ad 3), .ref (ad 4), .ref (ad 5), .int v1061, .int v1063, .int v1065, .int v1067, .int v1068, .long w1069, .int v1070, .int v1072, .int v1073, .int v1074, .ref (ad 6), .ref (ad 7), .ref (ad 8), .ref (ad 9), .ref (ad 10), .ref (ad 11), .ref (ad 12), .ref (ad 13), .ref (ad 14), .ref (ad 15), .int v1075, .int v1077, .ref (ad 16), .int v1079, .int v1081, .int v1083, .int v1085, .int v1086, .ref (ad 17), .ref (ad 18), .int v1087, .ref (ad 19)]) := ((o1094 0 (by decide)).trans c1088)
            have q1137 : fld (S1094 0) 6 = v1061.toInt := fld_of c1136 rfl
            have q1138 : fld (S1094 0) 7 = v1063.toInt := fld_of c1136 rfl
            refine xcVi E hs hQ hml hl.1 0 (gX12_numberw_2 l g ad hD S1094 hI 10334396 0 6 (by decide : Bd 0 (0) (0)) (by decide : Bd 6 (6) (6)) (by omega)) mX12_number_ q1672 (by decide) c1136 rfl rfl ⟨(Nat.le_of_ble_eq_true rfl), (Nat.le_of_ble_eq_true rfl)⟩ ⟨(Nat.le_of_ble_eq_true rfl), (Nat.le_of_ble_eq_true rfl)⟩ (Nat.le_of_ble_eq_true rfl) rfl dX12_shore_82 (fun r1139 S1139 H locs hp1139 hQ _ => ?_)
            obtain ⟨hI, o1139, b1139, g1139_0, g1139_1, g1139_2⟩ := hp1139
            obtain ⟨v1140, v1141, v1143, v1145, v1147, v1148, w1149, v1150, v1152, v1153, v1154, v1155, v1157, v1159, v1161, v1163, v1165, v1166, v1167, c1168, b1142, b1144, b1146, b1151, b1156, b1158, b1160, b1162, b1164⟩ := invM_0 hI
            have c1168 : S1139 0 = .inr (12, [.int v1140, .ref (ad 1), .ref (ad 2), .ref (ad 3), .ref (ad 4), .ref (ad 5), .int v1141, .int v1143, .int v1145, .int v1147, .int v1148, .long w1149, .int v1150, .int v1152, .int v1153, .int v1154, .ref (ad 6), .ref (ad 7), .ref (ad 8), .ref (ad 9), .ref (ad 10), .ref (ad 11), .ref (ad 12), .ref (ad 13), .ref (ad 14), .ref (ad 15), .int v1155, .int v1157, .ref (ad 16), .int v1159, .int v1161, .int v1163, .int v1165, .int v1166, .ref (ad 17), .ref (ad 18), .int v1167, .ref (ad 19)]) := c1168
            have q1169 : fld (S1139 0) 6 = v1141.toInt := fld_of c1168 rfl
            have q1170 : fld (S1139 0) 7 = v1143.toInt := fld_of c1168 rfl
            have q1171 : fld (S1094 0) 8 = v1065.toInt := fld_of c1136 rfl
            have q1172 : fld (S1139 0) 8 = v1145.toInt := fld_of c1168 rfl
            have c1173 : S1139 7 = .inl (g.2 0, 50, .inl f1096) := ((o1139 7 (by decide)).trans c1097)
            refine xcVv E hs hQ hml hl.1 0 (gX12_tells_2 l g ad hD S1139 hI r1139 b1139) mX12_tells q1629 (by decide) c1168 rfl rfl ⟨(Nat.le_of_ble_eq_true rfl), (Nat.le_of_ble_eq_true rfl)⟩ ⟨(Nat.le_of_ble_eq_true rfl), (Nat.le_of_ble_eq_true rfl)⟩ (Nat.le_of_ble_eq_true rfl) rfl dX12_shore_85 (fun S1174 H locs hp1174 hQ _ => ?_)
            obtain ⟨hI, o1174, g1174_0, g1174_1, g1174_2, g1174_3, g1174_4, g1174_5, g1174_6, ef1174_7⟩ := hp1174
            have ef1175 : EFp (S1174 7) (S 7) 0 40 := ef_tt ef1174_7 (ef_tr ef1095 (o1139 7 (by decide)))
            have q1176 : elm (S1139 7) 40 = v1105.toInt := (elm_of c1173 40).trans (congrArg Int32.toInt (ee1106))
            obtain ⟨f1177, c1178, b1179⟩ := invM_7 hI
            obtain ⟨v1180, ee1181⟩ : ∃ z : Int32, f1177 40 = z := ⟨_, rfl⟩
            have b1182 : Bd v1180 (0) (12) := (by rw [← ee1181]; exact b1179.1 40 (by decide))
            have q1183 : elm (S1174 7) 40 = v1180.toInt := (elm_of c1178 40).trans (congrArg Int32.toInt (ee1181))
            have b1184 : Bd v1180 (3) (12) := ⟨by omega, (b1182).2⟩
            have q1185 : elm (S1139 7) 41 = v1099.toInt := (elm_of c1173 41).trans (congrArg Int32.toInt (ee1100))
            obtain ⟨v1186, ee1187⟩ : ∃ z : Int32, f1177 41 = z := ⟨_, rfl⟩
            have b1188 : Bd v1186 (0) (12) := (by rw [← ee1187]; exact b1179.2.1 41 (by decide))
            have q1189 : elm (S1174 7) 41 = v1186.toInt := (elm_of c1178 41).trans (congrArg Int32.toInt (ee1187))
            have b1190 : Bd v1186 (1) (12) := ⟨by omega, (b1188).2⟩
            have q1191 : elm (S1139 7) 43 = v1111.toInt := (elm_of c1173 43).trans (congrArg Int32.toInt (ee1112))
            obtain ⟨v1192, ee1193⟩ : ∃ z : Int32, f1177 43 = z := ⟨_, rfl⟩
            have b1194 : Bd v1192 (0) (12) := (by rw [← ee1193]; exact b1179.2.2.2.1 43 (by decide))
            have q1195 : elm (S1174 7) 43 = v1192.toInt := (elm_of c1178 43).trans (congrArg Int32.toInt (ee1193))
            have q1196 : elm (S1139 7) 46 = v1116.toInt := (elm_of c1173 46).trans (congrArg Int32.toInt (ee1117))
            obtain ⟨v1197, ee1198⟩ : ∃ z : Int32, f1177 46 = z := ⟨_, rfl⟩
            have b1199 : Bd v1197 (0) (8) := (by rw [← ee1198]; exact b1179.2.2.2.2.1 46 (by decide))
            have q1200 : elm (S1174 7) 46 = v1197.toInt := (elm_of c1178 46).trans (congrArg Int32.toInt (ee1198))
            have q1201 : elm (S1139 7) 47 = v1121.toInt := (elm_of c1173 47).trans (congrArg Int32.toInt (ee1122))
            obtain ⟨v1202, ee1203⟩ : ∃ z : Int32, f1177 47 = z := ⟨_, rfl⟩
            have b1204 : Bd v1202 (0) (6) := (by rw [← ee1203]; exact b1179.2.2.2.2.2.1 47 (by decide))
            have q1205 : elm (S1174 7) 47 = v1202.toInt := (elm_of c1178 47).trans (congrArg Int32.toInt (ee1203))
            have q1206 : elm (S1139 7) 48 = v1126.toInt := (elm_of c1173 48).trans (congrArg Int32.toInt (ee1127))
            obtain ⟨v1207, ee1208⟩ : ∃ z : Int32, f1177 48 = z := ⟨_, rfl⟩
            have b1209 : Bd v1207 (0) (3) := (by rw [← ee1208]; exact b1179.2.2.2.2.2.2.1 48 (by decide))
            have q1210 : elm (S1174 7) 48 = v1207.toInt := (elm_of c1178 48).trans (congrArg Int32.toInt (ee1208))
            have q1211 : elm (S1139 7) 49 = v1131.toInt := (elm_of c1173 49).trans (congrArg Int32.toInt (ee1132))
            obtain ⟨v1212, ee1213⟩ : ∃ z : Int32, f1177 49 = z := ⟨_, rfl⟩
            have b1214 : Bd v1212 (0) (40) := (by rw [← ee1213]; exact b1179.2.2.2.2.2.2.2 49 (by decide))
            have q1215 : elm (S1174 7) 49 = v1212.toInt := (elm_of c1178 49).trans (congrArg Int32.toInt (ee1213))
            have b1216 : Bd v1212 (0) (0) := ⟨(b1214).1, by omega⟩
            refine lv_aload_n hx hb dX12_shore_88 rfl (lv_at hl 0 rfl) ?_
            refine lv_iconst (v := 3) hx hb dX12_shore_89 (by decide) ?_
            refine lv_aload_n hx hb dX12_shore_90 rfl (lv_at hl 0 rfl) ?_
            refine lv_ldc2 (v := 3701) hx hb E.2.2.1 (E.2.2.2.1 _ q1682) dX12_shore_91 ?_
            refine lv_iconst (v := 1) hx hb dX12_shore_94 (by decide) ?_
            refine lv_bipush (v := 12) hx hb dX12_shore_95 (by decide) ?_
            have c1217 : S1174 0 = .inr (12, [.int v1140, .ref (ad 1), .ref (ad 2), .ref (ad 3), .ref (ad 4), .ref (ad 5), .int v1141, .int v1143, .int v1145, .int v1147, .int v1148, .long w1149, .int v1150, .int v1152, .int v1153, .int v1154, .ref (ad 6), .ref (ad 7), .ref (ad 8), .ref (ad 9), .ref (ad 10), .ref (ad 11), .ref (ad 12), .ref (ad 13), .ref (ad 14), .ref (ad 15), .int v1155, .int v1157, .ref (ad 16), .int v1159, .int v1161, .int v1163, .int v1165, .int v1166, .ref (ad 17), .ref (ad 18), .int v1167, .ref (ad 19)]) := ((o1174 0 (by decide)).trans c1168)
            have q1218 : fld (S1174 0) 6 = v1141.toInt := fld_of c1217 rfl
            have q1219 : fld (S1174 0) 7 = v1143.toInt := fld_of c1217 rfl
            refine xcVi E hs hQ hml hl.1 0 (gX12_numberw_1 l g ad hD S1174 hI 3701 1 12 (by decide : Bd 1 (1) (1)) (by decide : Bd 12 (12) (12)) (by omega)) mX12_number_ q1672 (by decide) c1217 rfl rfl ⟨(Nat.le_of_ble_eq_true rfl), (Nat.le_of_ble_eq_true rfl)⟩ ⟨(Nat.le_of_ble_eq_true rfl), (Nat.le_of_ble_eq_true rfl)⟩ (Nat.le_of_ble_eq_true rfl) rfl dX12_shore_97 (fun r1220 S1220 H locs hp1220 hQ _ => ?_)
            obtain ⟨hI, o1220, b1220, g1220_0, g1220_1, g1220_2⟩ := hp1220
            obtain ⟨v1221, v1222, v1224, v1226, v1228, v1229, w1230, v1231, v1233, v1234, v1235, v1236, v1238, v1240, v1242, v1244, v1246, v1247, v1248, c1249, b1223, b1225, b1227, b1232, b1237, b1239, b1241, b1243, b1245⟩ := invM_0 hI
            have c1249 : S1220 0 = .inr (12, [.int v1221, .ref (ad 1), .ref (ad 2), .ref (ad 3), .ref (ad 4), .ref (ad 5), .int v1222, .int v1224, .int v1226, .int v1228, .int v1229, .long w1230, .int v1231, .int v1233, .int v1234, .int v1235, .ref (ad 6), .ref (ad 7), .ref (ad 8), .ref (ad 9), .ref (ad 10), .ref (ad 11), .ref (ad 12), .ref (ad 13), .ref (ad 14), .ref (ad 15), .int v1236, .int v1238, .ref (ad 16), .int v1240, .int v1242, .int v1244, .int v1246, .int v1247, .ref (ad 17), .ref (ad 18), .int v1248, .ref (ad 19)]) := c1249
            have q1250 : fld (S1220 0) 6 = v1222.toInt := fld_of c1249 rfl
            have q1251 : fld (S1220 0) 7 = v1224.toInt := fld_of c1249 rfl
            have q1252 : fld (S1174 0) 8 = v1145.toInt := fld_of c1217 rfl
            have q1253 : fld (S1220 0) 8 = v1226.toInt := fld_of c1249 rfl
            have c1254 : S1220 7 = .inl (g.2 0, 50, .inl f1177) := ((o1220 7 (by decide)).trans c1178)
            refine xcVv E hs hQ hml hl.1 0 (gX12_tells_3 l g ad hD S1220 hI r1220 (ib_wk b1220 (by decide) (by decide))) mX12_tells q1629 (by decide) c1249 rfl rfl ⟨(Nat.le_of_ble_eq_true rfl), (Nat.le_of_ble_eq_true rfl)⟩ ⟨(Nat.le_of_ble_eq_true rfl), (Nat.le_of_ble_eq_true rfl)⟩ (Nat.le_of_ble_eq_true rfl) rfl dX12_shore_100 (fun S1255 H locs hp1255 hQ _ => ?_)
            obtain ⟨hI, o1255, g1255_0, g1255_1, g1255_2, g1255_3, g1255_4, g1255_5, g1255_6, ef1255_7⟩ := hp1255
            have ef1256 : EFp (S1255 7) (S 7) 0 40 := ef_tt ef1255_7 (ef_tr ef1175 (o1220 7 (by decide)))
            obtain ⟨f1257, c1258, b1259⟩ := invM_7 hI
            obtain ⟨v1260, ee1261⟩ : ∃ z : Int32, f1257 43 = z := ⟨_, rfl⟩
            have b1262 : Bd v1260 (0) (12) := (by rw [← ee1261]; exact b1259.2.2.2.1 43 (by decide))
            have q1263 : elm (S1255 7) 43 = v1260.toInt := (elm_of c1258 43).trans (congrArg Int32.toInt (ee1261))
            have b1264 : Bd v1260 (1) (12) := ⟨by omega, (b1262).2⟩
            have q1265 : elm (S1220 7) 40 = v1180.toInt := (elm_of c1254 40).trans (congrArg Int32.toInt (ee1181))
            obtain ⟨v1266, ee1267⟩ : ∃ z : Int32, f1257 40 = z := ⟨_, rfl⟩
            have b1268 : Bd v1266 (0) (12) := (by rw [← ee1267]; exact b1259.1 40 (by decide))
            have q1269 : elm (S1255 7) 40 = v1266.toInt := (elm_of c1258 40).trans (congrArg Int32.toInt (ee1267))
            have b1270 : Bd v1266 (3) (12) := ⟨by omega, (b1268).2⟩
            have q1271 : elm (S1220 7) 41 = v1186.toInt := (elm_of c1254 41).trans (congrArg Int32.toInt (ee1187))
            obtain ⟨v1272, ee1273⟩ : ∃ z : Int32, f1257 41 = z := ⟨_, rfl⟩
            have b1274 : Bd v1272 (0) (12) := (by rw [← ee1273]; exact b1259.2.1 41 (by decide))
            have q1275 : elm (S1255 7) 41 = v1272.toInt := (elm_of c1258 41).trans (congrArg Int32.toInt (ee1273))
            have b1276 : Bd v1272 (1) (12) := ⟨by omega, (b1274).2⟩
            have q1277 : elm (S1220 7) 46 = v1197.toInt := (elm_of c1254 46).trans (congrArg Int32.toInt (ee1198))
            obtain ⟨v1278, ee1279⟩ : ∃ z : Int32, f1257 46 = z := ⟨_, rfl⟩
            have b1280 : Bd v1278 (0) (8) := (by rw [← ee1279]; exact b1259.2.2.2.2.1 46 (by decide))
            have q1281 : elm (S1255 7) 46 = v1278.toInt := (elm_of c1258 46).trans (congrArg Int32.toInt (ee1279))
            have q1282 : elm (S1220 7) 47 = v1202.toInt := (elm_of c1254 47).trans (congrArg Int32.toInt (ee1203))
            obtain ⟨v1283, ee1284⟩ : ∃ z : Int32, f1257 47 = z := ⟨_, rfl⟩
            have b1285 : Bd v1283 (0) (6) := (by rw [← ee1284]; exact b1259.2.2.2.2.2.1 47 (by decide))
            have q1286 : elm (S1255 7) 47 = v1283.toInt := (elm_of c1258 47).trans (congrArg Int32.toInt (ee1284))
            have q1287 : elm (S1220 7) 48 = v1207.toInt := (elm_of c1254 48).trans (congrArg Int32.toInt (ee1208))
            obtain ⟨v1288, ee1289⟩ : ∃ z : Int32, f1257 48 = z := ⟨_, rfl⟩
            have b1290 : Bd v1288 (0) (3) := (by rw [← ee1289]; exact b1259.2.2.2.2.2.2.1 48 (by decide))
            have q1291 : elm (S1255 7) 48 = v1288.toInt := (elm_of c1258 48).trans (congrArg Int32.toInt (ee1289))
            have q1292 : elm (S1220 7) 49 = v1212.toInt := (elm_of c1254 49).trans (congrArg Int32.toInt (ee1213))
            obtain ⟨v1293, ee1294⟩ : ∃ z : Int32, f1257 49 = z := ⟨_, rfl⟩
            have b1295 : Bd v1293 (0) (40) := (by rw [← ee1294]; exact b1259.2.2.2.2.2.2.2 49 (by decide))
            have q1296 : elm (S1255 7) 49 = v1293.toInt := (elm_of c1258 49).trans (congrArg Int32.toInt (ee1294))
            have b1297 : Bd v1293 (0) (0) := ⟨(b1295).1, by omega⟩
            refine lv_aload_n hx hb dX12_shore_103 rfl (lv_at hl 0 rfl) ?_
            refine lv_iconst (v := 4) hx hb dX12_shore_104 (by decide) ?_
            refine lv_aload_n hx hb dX12_shore_105 rfl (lv_at hl 0 rfl) ?_
            refine lv_ldc2 (v := 298288) hx hb E.2.2.1 (E.2.2.2.1 _ q1683) dX12_shore_106 ?_
            refine lv_iconst (v := 0) hx hb dX12_shore_109 (by decide) ?_
            refine lv_bipush (v := 100) hx hb dX12_shore_110 (by decide) ?_
            have c1298 : S1255 0 = .inr (12, [.int v1221, .ref (ad 1), .ref (ad 2), .ref (ad 3), .ref (ad 4), .ref (ad 5), .int v1222, .int v1224, .int v1226, .int v1228, .int v1229, .long w1230, .int v1231, .int v1233, .int v1234, .int v1235, .ref (ad 6), .ref (ad 7), .ref (ad 8), .ref (ad 9), .ref (ad 10), .ref (ad 11), .ref (ad 12), .ref (ad 13), .ref (ad 14), .ref (ad 15), .int v1236, .int v1238, .ref (ad 16), .int v1240, .int v1242, .int v1244, .int v1246, .int v1247, .ref (ad 17), .ref (ad 18), .int v1248, .ref (ad 19)]) := ((o1255 0 (by decide)).trans c1249)
            have q1299 : fld (S1255 0) 6 = v1222.toInt := fld_of c1298 rfl
            have q1300 : fld (S1255 0) 7 = v1224.toInt := fld_of c1298 rfl
            refine xcVi E hs hQ hml hl.1 0 (gX12_numberw_3 l g ad hD S1255 hI 298288 0 100 (by decide : Bd 0 (0) (0)) (by decide : Bd 100 (100) (100)) (by omega)) mX12_number_ q1672 (by decide) c1298 rfl rfl ⟨(Nat.le_of_ble_eq_true rfl), (Nat.le_of_ble_eq_true rfl)⟩ ⟨(Nat.le_of_ble_eq_true rfl), (Nat.le_of_ble_eq_true rfl)⟩ (Nat.le_of_ble_eq_true rfl) rfl dX12_shore_112 (fun r1301 S1301 H locs hp1301 hQ _ => ?_)
            obtain ⟨hI, o1301, b1301, g1301_0, g1301_1, g1301_2⟩ := hp1301
            obtain ⟨v1302, v1303, v1305, v1307, v1309, v1310, w1311, v1312, v1314, v1315, v1316, v1317, v1319, v1321, v1323, v1325, v1327, v1328, v1329, c1330, b1304, b1306, b1308, b1313, b1318, b1320, b1322, b1324, b1326⟩ := invM_0 hI
            have c1330 : S1301 0 = .inr (12, [.int v1302, .ref (ad 1), .ref (ad 2), .ref (ad 3), .ref (ad 4), .ref (ad 5), .int v1303, .int v1305, .int v1307, .int v1309, .int v1310, .long w1311, .int v1312, .int v1314, .int v1315, .int v1316, .ref (ad 6), .ref (ad 7), .ref (ad 8), .ref (ad 9), .ref (ad 10), .ref (ad 11), .ref (ad 12), .ref (ad 13), .ref (ad 14), .ref (ad 15), .int v1317, .int v1319, .ref (ad 16), .int v1321, .int v1323, .int v1325, .int v1327, .int v1328, .ref (ad 17), .ref (ad 18), .int v1329, .ref (ad 19)]) := c1330
            have q1331 : fld (S1301 0) 6 = v1303.toInt := fld_of c1330 rfl
            have q1332 : fld (S1301 0) 7 = v1305.toInt := fld_of c1330 rfl
            have q1333 : fld (S1255 0) 8 = v1226.toInt := fld_of c1298 rfl
            have q1334 : fld (S1301 0) 8 = v1307.toInt := fld_of c1330 rfl
            have c1335 : S1301 7 = .inl (g.2 0, 50, .inl f1257) := ((o1301 7 (by decide)).trans c1258)
            refine xcVv E hs hQ hml hl.1 0 (gX12_tells_4 l g ad hD S1301 hI r1301) mX12_tells q1629 (by decide) c1330 rfl rfl ⟨(Nat.le_of_ble_eq_true rfl), (Nat.le_of_ble_eq_true rfl)⟩ ⟨(Nat.le_of_ble_eq_true rfl), (Nat.le_of_ble_eq_true rfl)⟩ (Nat.le_of_ble_eq_true rfl) rfl dX12_shore_115 (fun S1336 H locs hp1336 hQ _ => ?_)
            obtain ⟨hI, o1336, g1336_0, g1336_1, g1336_2, g1336_3, g1336_4, g1336_5, g1336_6, ef1336_7⟩ := hp1336
            have ef1337 : EFp (S1336 7) (S 7) 0 40 := ef_tt ef1336_7 (ef_tr ef1256 (o1301 7 (by decide)))
            have q1338 : elm (S1301 7) 40 = v1266.toInt := (elm_of c1335 40).trans (congrArg Int32.toInt (ee1267))
            obtain ⟨f1339, c1340, b1341⟩ := invM_7 hI
            obtain ⟨v1342, ee1343⟩ : ∃ z : Int32, f1339 40 = z := ⟨_, rfl⟩
            have b1344 : Bd v1342 (0) (12) := (by rw [← ee1343]; exact b1341.1 40 (by decide))
            have q1345 : elm (S1336 7) 40 = v1342.toInt := (elm_of c1340 40).trans (congrArg Int32.toInt (ee1343))
            have b1346 : Bd v1342 (3) (12) := ⟨by omega, (b1344).2⟩
            have q1347 : elm (S1301 7) 41 = v1272.toInt := (elm_of c1335 41).trans (congrArg Int32.toInt (ee1273))
            obtain ⟨v1348, ee1349⟩ : ∃ z : Int32, f1339 41 = z := ⟨_, rfl⟩
            have b1350 : Bd v1348 (0) (12) := (by rw [← ee1349]; exact b1341.2.1 41 (by decide))
            have q1351 : elm (S1336 7) 41 = v1348.toInt := (elm_of c1340 41).trans (congrArg Int32.toInt (ee1349))
            have b1352 : Bd v1348 (1) (12) := ⟨by omega, (b1350).2⟩
            have q1353 : elm (S1301 7) 43 = v1260.toInt := (elm_of c1335 43).trans (congrArg Int32.toInt (ee1261))
            obtain ⟨v1354, ee1355⟩ : ∃ z : Int32, f1339 43 = z := ⟨_, rfl⟩
            have b1356 : Bd v1354 (0) (12) := (by rw [← ee1355]; exact b1341.2.2.2.1 43 (by decide))
            have q1357 : elm (S1336 7) 43 = v1354.toInt := (elm_of c1340 43).trans (congrArg Int32.toInt (ee1355))
            have b1358 : Bd v1354 (1) (12) := ⟨by omega, (b1356).2⟩
            have q1359 : elm (S1301 7) 46 = v1278.toInt := (elm_of c1335 46).trans (congrArg Int32.toInt (ee1279))
            obtain ⟨v1360, ee1361⟩ : ∃ z : Int32, f1339 46 = z := ⟨_, rfl⟩
            have b1362 : Bd v1360 (0) (8) := (by rw [← ee1361]; exact b1341.2.2.2.2.1 46 (by decide))
            have q1363 : elm (S1336 7) 46 = v1360.toInt := (elm_of c1340 46).trans (congrArg Int32.toInt (ee1361))
            have q1364 : elm (S1301 7) 47 = v1283.toInt := (elm_of c1335 47).trans (congrArg Int32.toInt (ee1284))
            obtain ⟨v1365, ee1366⟩ : ∃ z : Int32, f1339 47 = z := ⟨_, rfl⟩
            have b1367 : Bd v1365 (0) (6) := (by rw [← ee1366]; exact b1341.2.2.2.2.2.1 47 (by decide))
            have q1368 : elm (S1336 7) 47 = v1365.toInt := (elm_of c1340 47).trans (congrArg Int32.toInt (ee1366))
            have q1369 : elm (S1301 7) 48 = v1288.toInt := (elm_of c1335 48).trans (congrArg Int32.toInt (ee1289))
            obtain ⟨v1370, ee1371⟩ : ∃ z : Int32, f1339 48 = z := ⟨_, rfl⟩
            have b1372 : Bd v1370 (0) (3) := (by rw [← ee1371]; exact b1341.2.2.2.2.2.2.1 48 (by decide))
            have q1373 : elm (S1336 7) 48 = v1370.toInt := (elm_of c1340 48).trans (congrArg Int32.toInt (ee1371))
            have q1374 : elm (S1301 7) 49 = v1293.toInt := (elm_of c1335 49).trans (congrArg Int32.toInt (ee1294))
            obtain ⟨v1375, ee1376⟩ : ∃ z : Int32, f1339 49 = z := ⟨_, rfl⟩
            have b1377 : Bd v1375 (0) (40) := (by rw [← ee1376]; exact b1341.2.2.2.2.2.2.2 49 (by decide))
            have q1378 : elm (S1336 7) 49 = v1375.toInt := (elm_of c1340 49).trans (congrArg Int32.toInt (ee1376))
            have b1379 : Bd v1375 (0) (0) := ⟨(b1377).1, by omega⟩
            refine lv_goto (tgt := 125) hx hb dX12_shore_118 (by decide) ?_
            refine lv_aload_n hx hb dX12_shore_125 rfl (lv_at hl 0 rfl) ?_
            have c1380 : S1336 0 = .inr (12, [.int v1302, .ref (ad 1), .ref (ad 2), .ref (ad 3), .ref (ad 4), .ref (ad 5), .int v1303, .int v1305, .int v1307, .int v1309, .int v1310, .long w1311, .int v1312, .int v1314, .int v1315, .int v1316, .ref (ad 6), .ref (ad 7), .ref (ad 8), .ref (ad 9), .ref (ad 10), .ref (ad 11), .ref (ad 12), .ref (ad 13), .ref (ad 14), .ref (ad 15), .int v1317, .int v1319, .ref (ad 16), .int v1321, .int v1323, .int v1325, .int v1327, .int v1328, .ref (ad 17), .ref (ad 18), .int v1329, .ref (ad 19)]) := ((o1336 0 (by decide)).trans c1330)
            refine xcVi E hs hQ hml hl.1 0 (gX12_isGood_0 l g ad hD S1336 hI ) mX12_isGood q1650 (by decide) c1380 rfl rfl ⟨(Nat.le_of_ble_eq_true rfl), (Nat.le_of_ble_eq_true rfl)⟩ ⟨(Nat.le_of_ble_eq_true rfl), (Nat.le_of_ble_eq_true rfl)⟩ (Nat.le_of_ble_eq_true rfl) rfl dX12_shore_126 (fun r1381 S1381 H locs hp1381 hQ _ => ?_)
            obtain ⟨rfl, b1381, g1381_0, g1381_1⟩ := hp1381
            have q1382 : fld (S1336 0) 12 = v1312.toInt := fld_of c1380 rfl
            refine lv_if_eq (tgt := 136) hx hb dX12_shore_129 (by decide) (fun k1383 => ?_) (fun k1383 => ?_)
            · have h1384 := ib_eq k1383
              have b1385 : Bd r1381 (0) (0) := ⟨(b1381).1, ((rf_eq b1381 (by decide : Bd 0 (0) (0)) h1384).1).2⟩
              clear g1381_0
              have g1386 := g1381_1.resolve_left (by omega)
              clear g1381_1
              have b1387 : Bd v1312 (1) (3) := ⟨by omega, (b1313).2⟩
              refine lv_aload_n hx hb dX12_shore_136 rfl (lv_at hl 0 rfl) ?_
              refine xget E hQ 0 (by decide) c1380 rfl 16 (by decide) q1484 rfl dX12_shore_137 ?_
              refine lv_iconst (v := 4) hx hb dX12_shore_140 (by decide) ?_
              refine lv_dup2_11 hx hb dX12_shore_141 rfl rfl ?_
              have c1388 : S1336 6 = .inl (g.2 0, 5, .inl f769) := ((o1336 6 (by decide)).trans ((o1301 6 (by decide)).trans ((o1255 6 (by decide)).trans ((o1220 6 (by decide)).trans ((o1174 6 (by decide)).trans ((o1139 6 (by decide)).trans ((o1094 6 (by decide)).trans ((o1059 6 (by decide)).trans ((o1015 6 (by decide)).trans ((o973 6 (by decide)).trans ((o939 6 (by decide)).trans c770)))))))))))
              refine xiald E hQ 6 (by decide) c1388 (vp_in_lit 4 5 (by decide)) dX12_shore_142 ?_
              refine sb_at (P := fun z => W _ _ _ _ _ _ _ _ _ _ _ _ _ _ _ (F0 _ _ _ (.int z :: _))) (show f769 (4 : Int32).toNatClampNeg = ye13_6_4 from ee772) ?_
              refine lv_iconst (v := 1) hx hb dX12_shore_143 (by decide) ?_
              refine lv_iadd hx hb dX12_shore_144 ?_
              refine lv_topi (fun z1389 e1390 => ?_)
              have t1391 := ib_add e1390 b936 (by decide : Bd 1 (1) (1)) (by decide) (by decide)
              have b1392 : Bd z1389 (1) (1) := ib_addb t1391 b936 (by decide : Bd 1 (1) (1))
              have t1391 : z1389.toInt = ye13_6_4.toInt + 1 := fold_add t1391 rfl (by decide)
              refine xiast E hs hQ 6 (by decide) c1388 (vp_in_lit 4 5 (by decide)) dX12_shore_145 (fun H locs S1393 eS1393 hQ => ?_)
              have hI := invM_up_6 hI eS1393 ⟨_, rfl, upd_b b771 (ib_wk b1392 (by decide) (by decide))⟩
              have b1395 : ∀ j, Bd ((upd f769 (4 : Int32).toNatClampNeg z1389) j) (0) (40000) := upd_b b771 (ib_wk b1392 (by decide) (by decide))
              have c1394 : S1393 6 = .inl (g.2 0, 5, .inl (upd f769 (4 : Int32).toNatClampNeg z1389)) := up_at eS1393 rfl
              have ef1396 : EFp (S1393 6) (S 6) 0 4 := ef_up (ef_tr hE13_6 ((o1336 6 (by decide)).trans ((o1301 6 (by decide)).trans ((o1255 6 (by decide)).trans ((o1220 6 (by decide)).trans ((o1174 6 (by decide)).trans ((o1139 6 (by decide)).trans ((o1094 6 (by decide)).trans ((o1059 6 (by decide)).trans ((o1015 6 (by decide)).trans ((o973 6 (by decide)).trans (o939 6 (by decide))))))))))))) c1388 c1394 (by decide)
              refine lv_goto (tgt := 13) hx hb dX12_shore_146 (by decide) ?_
              have c1397 : S1393 7 = .inl (g.2 0, 50, .inl f1339) := (up_ne eS1393 (by decide) c1340)
              have c1398 : S1393 0 = .inr (12, [.int v1302, .ref (ad 1), .ref (ad 2), .ref (ad 3), .ref (ad 4), .ref (ad 5), .int v1303, .int v1305, .int v1307, .int v1309, .int v1310, .long w1311, .int v1312, .int v1314, .int v1315, .int v1316, .ref (ad 6), .ref (ad 7), .ref (ad 8), .ref (ad 9), .ref (ad 10), .ref (ad 11), .ref (ad 12), .ref (ad 13), .ref (ad 14), .ref (ad 15), .int v1317, .int v1319, .ref (ad 16), .int v1321, .int v1323, .int v1325, .int v1327, .int v1328, .ref (ad 17), .ref (ad 18), .int v1329, .ref (ad 19)]) := (up_ne eS1393 (by decide) c1380)
              exact ih13 _ _ _ _ v1302 v1303 v1305 v1307 v1309 v1310 w1311 v1312 v1314 v1315 v1316 v1317 v1319 v1321 v1323 v1325 v1327 v1328 v1329 v1342 v1348 v1354 v1360 v1365 v1370 v1375 z1389 b1304 b1306 b1308 (ib_wk b1387 (by decide) (by decide)) b1318 b1320 b1322 b1324 b1326 (ib_wk b1346 (by decide) (by decide)) (ib_wk b1352 (by decide) (by decide)) (ib_wk b1358 (by decide) (by decide)) b1362 b1367 b1372 b1379 (ib_wk b1392 (by decide) (by decide)) (by omega) (by omega) (by omega) (by omega) (by omega) (by omega) (by omega) (by omega) (by omega) (by omega) (by omega) (by omega) (by omega) (by omega) (by omega) (by omega) (by omega) (by omega) (by omega) hI (up_o (o_trans (o_trans (o_trans (o_trans (o_trans (o_trans (o_trans (o_trans (o_trans (o_trans (o_trans hf13 o939 (by decide)) o973 (by decide)) o1015 (by decide)) o1059 (by decide)) o1094 (by decide)) o1139 (by decide)) o1174 (by decide)) o1220 (by decide)) o1255 (by decide)) o1301 (by decide)) o1336 (by decide)) eS1393 (by decide)) c1398 (ef_tr ef1337 (up_eq (j := 7) eS1393 (by decide))) ef1396 ((elm_of c1397 40).trans (congrArg Int32.toInt (ee1343))) ((elm_of c1397 41).trans (congrArg Int32.toInt (ee1349))) ((elm_of c1397 43).trans (congrArg Int32.toInt (ee1355))) ((elm_of c1397 46).trans (congrArg Int32.toInt (ee1361))) ((elm_of c1397 47).trans (congrArg Int32.toInt (ee1366))) ((elm_of c1397 48).trans (congrArg Int32.toInt (ee1371))) ((elm_of c1397 49).trans (congrArg Int32.toInt (ee1376))) ((elm_of c1394 4).trans (congrArg Int32.toInt ((upd_s)))) hQ (lv_sub hl [0] rfl)
            · have h1399 := ib_ne k1383
              have b1400 : Bd r1381 (1) (1) := rf_nlo b1381 (by decide : Bd 0 (0) (0)) h1399
              have g1401 := g1381_0.resolve_left (by omega)
              clear g1381_0
              have b1402 : Bd v1312 (0) (0) := ⟨(b1313).1, by omega⟩
              clear g1381_1
              refine lv_aload_n hx hb dX12_shore_132 rfl (lv_at hl 0 rfl) ?_
              have q1403 : fld (S1336 0) 6 = v1303.toInt := fld_of c1380 rfl
              have q1404 : fld (S1336 0) 7 = v1305.toInt := fld_of c1380 rfl
              refine xcVv E hs hQ hml hl.1 0 (gX12_ends_0 l g ad hD S1336 hI (by omega)) mX12_ends q1731 (by decide) c1380 rfl rfl ⟨(Nat.le_of_ble_eq_true rfl), (Nat.le_of_ble_eq_true rfl)⟩ ⟨(Nat.le_of_ble_eq_true rfl), (Nat.le_of_ble_eq_true rfl)⟩ (Nat.le_of_ble_eq_true rfl) rfl dX12_shore_133 (fun S1405 H locs hp1405 hQ _ => ?_)
              obtain ⟨hI, o1405, g1405_0, g1405_1, g1405_2, g1405_3⟩ := hp1405
              obtain ⟨v1406, v1407, v1409, v1411, v1413, v1414, w1415, v1416, v1418, v1419, v1420, v1421, v1423, v1425, v1427, v1429, v1431, v1432, v1433, c1434, b1408, b1410, b1412, b1417, b1422, b1424, b1426, b1428, b1430⟩ := invM_0 hI
              have c1434 : S1405 0 = .inr (12, [.int v1406, .ref (ad 1), .ref (ad 2), .ref (ad 3), .ref (ad 4), .ref (ad 5), .int v1407, .int v1409, .int v1411, .int v1413, .int v1414, .long w1415, .int v1416, .int v1418, .int v1419, .int v1420, .ref (ad 6), .ref (ad 7), .ref (ad 8), .ref (ad 9), .ref (ad 10), .ref (ad 11), .ref (ad 12), .ref (ad 13), .ref (ad 14), .ref (ad 15), .int v1421, .int v1423, .ref (ad 16), .int v1425, .int v1427, .int v1429, .int v1431, .int v1432, .ref (ad 17), .ref (ad 18), .int v1433, .ref (ad 19)]) := c1434
              have q1435 : fld (S1405 0) 6 = v1407.toInt := fld_of c1434 rfl
              have q1436 : fld (S1405 0) 7 = v1409.toInt := fld_of c1434 rfl
              have q1437 : fld (S1336 0) 8 = v1307.toInt := fld_of c1380 rfl
              have q1438 : fld (S1405 0) 8 = v1411.toInt := fld_of c1434 rfl
              have q1439 : fld (S1405 0) 12 = v1416.toInt := fld_of c1434 rfl
              refine lv_aload_n hx hb dX12_shore_136 rfl (lv_at hl 0 rfl) ?_
              refine xget E hQ 0 (by decide) c1434 rfl 16 (by decide) q1484 rfl dX12_shore_137 ?_
              refine lv_iconst (v := 4) hx hb dX12_shore_140 (by decide) ?_
              refine lv_dup2_11 hx hb dX12_shore_141 rfl rfl ?_
              have c1440 : S1405 6 = .inl (g.2 0, 5, .inl f769) := ((o1405 6 (by decide)).trans ((o1336 6 (by decide)).trans ((o1301 6 (by decide)).trans ((o1255 6 (by decide)).trans ((o1220 6 (by decide)).trans ((o1174 6 (by decide)).trans ((o1139 6 (by decide)).trans ((o1094 6 (by decide)).trans ((o1059 6 (by decide)).trans ((o1015 6 (by decide)).trans ((o973 6 (by decide)).trans ((o939 6 (by decide)).trans c770))))))))))))
              refine xiald E hQ 6 (by decide) c1440 (vp_in_lit 4 5 (by decide)) dX12_shore_142 ?_
              refine sb_at (P := fun z => W _ _ _ _ _ _ _ _ _ _ _ _ _ _ _ (F0 _ _ _ (.int z :: _))) (show f769 (4 : Int32).toNatClampNeg = ye13_6_4 from ee772) ?_
              refine lv_iconst (v := 1) hx hb dX12_shore_143 (by decide) ?_
              refine lv_iadd hx hb dX12_shore_144 ?_
              refine lv_topi (fun z1441 e1442 => ?_)
              have t1443 := ib_add e1442 b936 (by decide : Bd 1 (1) (1)) (by decide) (by decide)
              have b1444 : Bd z1441 (1) (1) := ib_addb t1443 b936 (by decide : Bd 1 (1) (1))
              have t1443 : z1441.toInt = ye13_6_4.toInt + 1 := fold_add t1443 rfl (by decide)
              refine xiast E hs hQ 6 (by decide) c1440 (vp_in_lit 4 5 (by decide)) dX12_shore_145 (fun H locs S1445 eS1445 hQ => ?_)
              have hI := invM_up_6 hI eS1445 ⟨_, rfl, upd_b b771 (ib_wk b1444 (by decide) (by decide))⟩
              have b1447 : ∀ j, Bd ((upd f769 (4 : Int32).toNatClampNeg z1441) j) (0) (40000) := upd_b b771 (ib_wk b1444 (by decide) (by decide))
              have c1446 : S1445 6 = .inl (g.2 0, 5, .inl (upd f769 (4 : Int32).toNatClampNeg z1441)) := up_at eS1445 rfl
              have ef1448 : EFp (S1445 6) (S 6) 0 4 := ef_up (ef_tr hE13_6 ((o1405 6 (by decide)).trans ((o1336 6 (by decide)).trans ((o1301 6 (by decide)).trans ((o1255 6 (by decide)).trans ((o1220 6 (by decide)).trans ((o1174 6 (by decide)).trans ((o1139 6 (by decide)).trans ((o1094 6 (by decide)).trans ((o1059 6 (by decide)).trans ((o1015 6 (by decide)).trans ((o973 6 (by decide)).trans (o939 6 (by decide)))))))))))))) c1440 c1446 (by decide)
              refine lv_goto (tgt := 13) hx hb dX12_shore_146 (by decide) ?_
              have c1449 : S1445 7 = .inl (g.2 0, 50, .inl f1339) := (up_ne eS1445 (by decide) ((o1405 7 (by decide)).trans c1340))
              have c1450 : S1445 0 = .inr (12, [.int v1406, .ref (ad 1), .ref (ad 2), .ref (ad 3), .ref (ad 4), .ref (ad 5), .int v1407, .int v1409, .int v1411, .int v1413, .int v1414, .long w1415, .int v1416, .int v1418, .int v1419, .int v1420, .ref (ad 6), .ref (ad 7), .ref (ad 8), .ref (ad 9), .ref (ad 10), .ref (ad 11), .ref (ad 12), .ref (ad 13), .ref (ad 14), .ref (ad 15), .int v1421, .int v1423, .ref (ad 16), .int v1425, .int v1427, .int v1429, .int v1431, .int v1432, .ref (ad 17), .ref (ad 18), .int v1433, .ref (ad 19)]) := (up_ne eS1445 (by decide) c1434)
              exact ih13 _ _ _ _ v1406 v1407 v1409 v1411 v1413 v1414 w1415 v1416 v1418 v1419 v1420 v1421 v1423 v1425 v1427 v1429 v1431 v1432 v1433 v1342 v1348 v1354 v1360 v1365 v1370 v1375 z1441 b1408 b1410 b1412 b1417 b1422 b1424 b1426 b1428 b1430 (ib_wk b1346 (by decide) (by decide)) (ib_wk b1352 (by decide) (by decide)) (ib_wk b1358 (by decide) (by decide)) b1362 b1367 b1372 b1379 (ib_wk b1444 (by decide) (by decide)) (by omega) (by omega) (by omega) (by omega) (by omega) (by omega) (by omega) (by omega) (by omega) (by omega) (by omega) (by omega) (by omega) (by omega) (by omega) (by omega) (by omega) (by omega) (by omega) hI (up_o (o_trans (o_trans (o_trans (o_trans (o_trans (o_trans (o_trans (o_trans (o_trans (o_trans (o_trans (o_trans hf13 o939 (by decide)) o973 (by decide)) o1015 (by decide)) o1059 (by decide)) o1094 (by decide)) o1139 (by decide)) o1174 (by decide)) o1220 (by decide)) o1255 (by decide)) o1301 (by decide)) o1336 (by decide)) o1405 (by decide)) eS1445 (by decide)) c1450 (ef_tr ef1337 ((up_eq (j := 7) eS1445 (by decide)).trans (o1405 7 (by decide)))) ef1448 ((elm_of c1449 40).trans (congrArg Int32.toInt (ee1343))) ((elm_of c1449 41).trans (congrArg Int32.toInt (ee1349))) ((elm_of c1449 43).trans (congrArg Int32.toInt (ee1355))) ((elm_of c1449 46).trans (congrArg Int32.toInt (ee1361))) ((elm_of c1449 47).trans (congrArg Int32.toInt (ee1366))) ((elm_of c1449 48).trans (congrArg Int32.toInt (ee1371))) ((elm_of c1449 49).trans (congrArg Int32.toInt (ee1376))) ((elm_of c1446 4).trans (congrArg Int32.toInt ((upd_s)))) hQ (lv_sub hl [0] rfl)
  obtain ⟨n13, hn13⟩ := fu_n (4 * v205.toInt + (-4) * v207.toInt + v209.toInt + (-10000) * v214.toInt + 30000)
  exact loop13 n13 _ _ _ _ v204 v205 v207 v209 v211 v212 w213 v214 v216 v217 v218 v219 v221 v223 v225 v227 v229 v230 v231 v159 v164 v169 v174 v179 v184 v189 v197 b206 b208 b210 (ib_wk b237 (by decide) (by decide)) b220 b222 b224 b226 b228 (ib_wk b163 (by decide) (by decide)) (ib_wk b168 (by decide) (by decide)) (ib_wk b173 (by decide) (by decide)) (ib_wk b178 (by decide) (by decide)) (ib_wk b183 (by decide) (by decide)) (ib_wk b188 (by decide) (by decide)) b193 (ib_wk b201 (by decide) (by decide)) (by omega) (by omega) (by omega) (by omega) (by omega) (by omega) (by omega) (by omega) (by omega) (by omega) (by omega) (by omega) (by omega) (by omega) (by omega) (by omega) (by omega) (by omega) (by omega) hI o_refl c232 (ef_tr ef154 (o203 7 (by decide))) (ef_tr ef155 (o203 6 (by decide))) ((elm_of c238 40).trans (congrArg Int32.toInt (ee160))) ((elm_of c238 41).trans (congrArg Int32.toInt (ee165))) ((elm_of c238 43).trans (congrArg Int32.toInt (ee170))) ((elm_of c238 46).trans (congrArg Int32.toInt (ee175))) ((elm_of c238 47).trans (congrArg Int32.toInt (ee180))) ((elm_of c238 48).trans (congrArg Int32.toInt (ee185))) ((elm_of c238 49).trans (congrArg Int32.toInt (ee190))) ((elm_of c239 4).trans (congrArg Int32.toInt (ee198))) hQ (lv_sub hl [0] rfl)
